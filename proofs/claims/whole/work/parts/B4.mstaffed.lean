noncomputable def stfM (Wm : zv_H) (n : Int) : Nat → Int
  | 0 => -1
  | j + 1 => @ite Int ((stfM Wm n j = -1 ∨ bcn j < bcn (stfM Wm n j)) ∧ nerP Wm j n) (Classical.propDecidable _) (j : Int) (stfM Wm n j)
theorem stfM_1 {Wm : zv_H} {n : Int} {j : Nat} (h : (stfM Wm n j = -1 ∨ bcn j < bcn (stfM Wm n j)) ∧ nerP Wm j n) : stfM Wm n (j + 1) = (j : Int) := if_pos h
theorem stfM_0 {Wm : zv_H} {n : Int} {j : Nat} (h : ¬ ((stfM Wm n j = -1 ∨ bcn j < bcn (stfM Wm n j)) ∧ nerP Wm j n)) : stfM Wm n (j + 1) = stfM Wm n j := if_neg h
theorem stfM_b {Wm : zv_H} {n : Int} : ∀ j : Nat, j ≤ 128 → -1 ≤ stfM Wm n j ∧ stfM Wm n j ≤ 127
  | 0, _ => ⟨Int.le_refl _, by show (-1 : Int) ≤ 127; omega⟩
  | j + 1, h => by
    have ih := stfM_b (Wm := Wm) (n := n) j (by omega)
    by_cases q : (stfM Wm n j = -1 ∨ bcn j < bcn (stfM Wm n j)) ∧ nerP Wm j n
    · rw [stfM_1 q]; omega
    · rw [stfM_0 q]; exact ih
/-- fewer than all the bits -/
theorem bcn_full : ∀ c : Fin 8, ∀ j : Fin 128, j.val < 2 ^ c.val - 1 → bcn ((j.val : Nat) : Int) < bcn (((2 ^ c.val : Nat) : Int) - 1) := by decide +kernel
theorem bit_full : ∀ c : Fin 8, ∀ j : Fin 7, j.val < c.val → zshr (((2 ^ c.val : Nat) : Int) - 1) ((j.val : Nat) : Int) % 2 = 1 := by decide +kernel
theorem stf_e {Wm : zv_H} {n : Int} {c : Nat} (hc : c < 8) : ∀ j : Nat, j ≤ 2 ^ c - 1 → (stfM Wm n j = -1 ∧ stfF Wm n (((2 ^ c : Nat) : Int) - 1) j = ((2 ^ c : Nat) : Int) - 1) ∨ (stfM Wm n j = stfF Wm n (((2 ^ c : Nat) : Int) - 1) j ∧ 0 ≤ stfM Wm n j ∧ stfM Wm n j < ((2 ^ c : Nat) : Int) - 1)
  | 0, _ => Or.inl ⟨rfl, rfl⟩
  | j + 1, h => by
    have ih := stf_e (Wm := Wm) (n := n) hc j (by omega)
    have hp : 2 ^ c ≤ 2 ^ 7 := Nat.pow_le_pow_right (by decide) (by omega)
    have b := bcn_full ⟨c, hc⟩ ⟨j, by omega⟩ (by show j < 2 ^ c - 1; omega)
    dsimp only at b
    by_cases p : nerP Wm j n
    · rcases ih with ⟨a1_q, a2_q⟩ | ⟨a1_q, a2_q⟩
      · rw [stfM_1 ⟨Or.inl a1_q, p⟩, stfF_1 ⟨by rw [a2_q]; exact b, p⟩]
        exact Or.inr ⟨rfl, by omega⟩
      · by_cases q : bcn j < bcn (stfF Wm n (((2 ^ c : Nat) : Int) - 1) j)
        · rw [stfM_1 ⟨Or.inr (by rw [a1_q]; exact q), p⟩, stfF_1 ⟨q, p⟩]
          exact Or.inr ⟨rfl, by omega⟩
        · rw [stfM_0 (fun r => by rcases r.1 with r1_q | r1_q; omega; rw [a1_q] at r1_q; exact q r1_q), stfF_0 (fun r => q r.1)]
          exact Or.inr ⟨a1_q, a2_q⟩
    · rw [stfM_0 (fun r => p r.2), stfF_0 (fun r => p r.2)]
      exact ih
theorem ner_full {Wm : zv_H} {n : Int} (hW : WI Wm) (hn : 0 ≤ n) : nerP Wm (((2 ^ (Wm 0 1).toNat : Nat) : Int) - 1) n := by
  intro c h1_q h2_q
  have w1_q := hW.1
  refine ⟨c, h1_q, h2_q, ?_, ?_, ?_⟩
  · have b := bit_full ⟨(Wm 0 1).toNat, by omega⟩ ⟨c.toNat, by omega⟩ (by show c.toNat < (Wm 0 1).toNat; omega)
    dsimp only at b
    rw [show ((c.toNat : Nat) : Int) = c by omega] at b
    exact b
  · rw [dst_0 hW ⟨h1_q, h2_q⟩]; omega
  · rw [dst_0 hW ⟨h1_q, h2_q⟩]; exact hn
theorem stf_end {Wm : zv_H} {n : Int} (hW : WI Wm) (hn : 0 ≤ n) : stfM Wm n (2 ^ (Wm 0 1).toNat) = stfF Wm n (((2 ^ (Wm 0 1).toNat : Nat) : Int) - 1) (2 ^ (Wm 0 1).toNat - 1) := by
  have w1_q := hW.1
  have nf := ner_full hW hn
  have pb := pow_b w1_q
  generalize hc : (Wm 0 1).toNat = c at nf pb ⊢
  have h := stf_e (Wm := Wm) (n := n) (c := c) (by omega) (2 ^ c - 1) (Nat.le_refl _)
  have es : 2 ^ c = (2 ^ c - 1) + 1 := by omega
  have ei : (((2 ^ c - 1 : Nat) : Nat) : Int) = ((2 ^ c : Nat) : Int) - 1 := by omega
  rcases h with ⟨a1_q, a2_q⟩ | ⟨a1_q, a2_q⟩
  · rw [show stfM Wm n (2 ^ c) = stfM Wm n ((2 ^ c - 1) + 1) from congrArg _ es, stfM_1 ⟨Or.inl a1_q, by rw [ei]; exact nf⟩, a2_q, ei]
  · rw [show stfM Wm n (2 ^ c) = stfM Wm n ((2 ^ c - 1) + 1) from congrArg _ es, stfM_0 (fun r => by
      rcases r.1 with r1_q | r1_q
      · omega
      · have b := bcn_full ⟨c, by omega⟩ ⟨(stfM Wm n (2 ^ c - 1)).toNat, by omega⟩ (by show (stfM Wm n (2 ^ c - 1)).toNat < 2 ^ c - 1; omega)
        dsimp only at b
        rw [show (((stfM Wm n (2 ^ c - 1)).toNat : Nat) : Int) = stfM Wm n (2 ^ c - 1) by omega] at b
        rw [ei] at r1_q
        omega)]
    exact a1_q
set_option maxHeartbeats 4000000 in
set_option maxRecDepth 20000 in
theorem c_M_staffed {Γ : zv_M} {L : Int} {σ Wm S : zv_H} {b : Int} (hb1_q : b = 0 ∨ b = 1) (h0_q : stM σ σ b 0 Wm S) (hSI : SI (Wm 0 1) (Wm 0 3) S) (hWI : WI Wm) {n : Int}  : zC Γ m_M_staffed 3 0 0 (GM L) [zR 289, zI n] σ (zPI (GM L) (fun z σ' => z = stfQ Wm n ∧ σ' = σ)) := by
  refine zC_of (ls0 := [_, _, _, _]) zm_M_staffed (by decide) rfl (Nat.le_of_ble_eq_true rfl) ?_
  generalize hQ : (zPI (GM L) (fun z σ' => z = stfQ Wm n ∧ σ' = σ)) = Q
  have hb := h0_q.2.2.1
  have w1_q := hWI.1
  have w3_q := hWI.2.2.1
  have r0_q := rM_0 h0_q.1
  have b00_q := hSI.1
  have b12_q := hSI.2.2.1
  have bc := hSI.2.2.2.1
  have bm := hSI.2.2.2.2.1
  have bl := hSI.2.2.2.2.2.1
  have pb := pow_b w1_q
  refine ziload_n (k := 0) rfl rfl ?_
  refine ziconst (k := 1) rfl (by decide) ?_
  refine zbipush (k := 2) rfl rfl ?_
  refine zfS1 (k := 3) rfl c_M_is fm_M_is lk_12_315 rfl rfl (Nat.le_of_ble_eq_true rfl) (by decide) ⟨by decide, by decide⟩ ?_
  refine zif_ne (k := 4) rfl rfl (fun c1_q => ?_) (fun c1_q => ?_)
  · skip
    have hnn : 0 ≤ n ∧ n ≤ 99 := by omega
    refine ziconst (k := 7) rfl (by decide) ?_
    refine zistore_n (k := 8) (ls' := [_, _, _, _]) rfl (Nat.le_of_ble_eq_true rfl) rfl ?_
    refine ziconst (k := 9) rfl (by decide) ?_
    refine zistore_n (k := 10) (ls' := [_, _, _, _]) rfl (Nat.le_of_ble_eq_true rfl) rfl ?_
    have lp16_q : ∀ (g : Nat) (j : Nat) (σ2 : zv_H), (2 ^ (Wm 0 1).toNat - j) < g → (j ≤ 2 ^ (Wm 0 1).toNat) → (σ2 = σ) → zV Γ m_M_staffed 3 0 0 Q (GM L) (0, 0) 16 [some (zR 289), some (zI n), some (zI (stfM Wm n j)), some (zI j)] [] σ2 := by
      intro g
      induction g with
      | zero => intro j σ2 hg; exact absurd hg (Nat.not_lt_zero _)
      | succ g ih16_q =>
        intro j σ2 hg hj hs
        rw [hs]
        have mb := stfM_b (Wm := Wm) (n := n) j (by omega)
        refine ziload_n (k := 11) rfl rfl ?_
        refine ziconst (k := 12) rfl (by decide) ?_
        refine zaload_n (k := 13) rfl rfl ?_
        refine zgF 14 (k := 14) rfl ob_289 fl_12_54 rfl fx_289_14 ?_
        refine zaload_n (k := 15) rfl rfl ?_
        refine zgI 13 (k := 16) rfl ob_289 fl_12_51 rfl fx_289_13 ?_
        rw [hb]
        refine ziaload (k := 17) rfl ar_291 ⟨by omega, by omega⟩ ?_
        rw [h0_q.2.1.1.1]
        refine zishl (k := 18) rfl ?_
        rw [zshl_p w1_q]
        refine zicmp_ge (k := 19) rfl rfl (fun c2_q => ?_) (fun c2_q => ?_)
        · skip
          refine ziload_n (k := 37) rfl rfl ?_
          refine zireturn (k := 38) rfl rfl rfl ?_
          rw [← hQ]
          exact ⟨rfl, _, rfl, by unfold stfQ; rw [if_pos hnn, show j = 2 ^ (Wm 0 1).toNat by omega]; exact stf_end hWI hnn.1, rfl⟩
        · skip
          refine ziload_n (k := 20) rfl rfl ?_
          refine ziconst (k := 21) rfl (by decide) ?_
          refine zicmp_eq (k := 22) rfl rfl (fun c3_q => ?_) (fun c3_q => ?_)
          · skip
            refine zaload_n (k := 28) rfl rfl ?_
            refine ziload_n (k := 29) rfl rfl ?_
            refine ziload_n (k := 30) rfl rfl ?_
            refine zpVI (k := 31) rfl (c_M_isStaffed hb1_q h0_q hSI hWI ⟨by omega, by omega⟩ hnn) fm_M_isStaffed lk_12_516 rfl rfl ob_289 ⟨_, rfl, rfl⟩ (Nat.le_of_ble_eq_true rfl) (by decide) ⟨by decide, by decide⟩ (fun z σ3 h2_q => ?_)
            rw [h2_q.1]
            refine zif_eq (k := 32) rfl rfl (fun c4_q => ?_) (fun c4_q => ?_)
            · skip
              refine ziincB (k := 35) (ls' := [_, _, _, _]) rfl rfl (by decide) (by omega) rfl ?_
              refine zgoto (k := 36) rfl rfl ?_
              first
              | (have r := ih16_q (j + 1) _ (by omega) (by omega) rfl
                 rw [stfM_1 ⟨by first | exact Or.inl (by assumption) | exact Or.inr (by assumption), by rcases h2_q.2 with g | g; exact g.2; omega⟩] at r
                 exact r)
              | (have r := ih16_q (j + 1) _ (by omega) (by omega) rfl
                 rw [stfM_0 (fun q => by rcases h2_q.2 with g | g; omega; exact g.2 q.2)] at r
                 exact r)
              | (have r := ih16_q (j + 1) _ (by omega) (by omega) rfl
                 rw [stfM_0 (fun q => by rcases q.1 with q1_q | q1_q <;> omega)] at r
                 exact r)
            · skip
              refine ziload_n (k := 33) rfl rfl ?_
              refine zistore_n (k := 34) (ls' := [_, _, _, _]) rfl (Nat.le_of_ble_eq_true rfl) rfl ?_
              refine ziincB (k := 35) (ls' := [_, _, _, _]) rfl rfl (by decide) (by omega) rfl ?_
              refine zgoto (k := 36) rfl rfl ?_
              first
              | (have r := ih16_q (j + 1) _ (by omega) (by omega) rfl
                 rw [stfM_1 ⟨by first | exact Or.inl (by assumption) | exact Or.inr (by assumption), by rcases h2_q.2 with g | g; exact g.2; omega⟩] at r
                 exact r)
              | (have r := ih16_q (j + 1) _ (by omega) (by omega) rfl
                 rw [stfM_0 (fun q => by rcases h2_q.2 with g | g; omega; exact g.2 q.2)] at r
                 exact r)
              | (have r := ih16_q (j + 1) _ (by omega) (by omega) rfl
                 rw [stfM_0 (fun q => by rcases q.1 with q1_q | q1_q <;> omega)] at r
                 exact r)
          · skip
            refine ziload_n (k := 23) rfl rfl ?_
            refine zfS1 (k := 24) rfl (c_M_bits (by omega)) fm_M_bits lk_12_510 rfl rfl (Nat.le_of_ble_eq_true rfl) (by decide) ⟨by decide, by decide⟩ ?_
            refine ziload_n (k := 25) rfl rfl ?_
            refine zfS1 (k := 26) rfl (c_M_bits (by omega)) fm_M_bits lk_12_510 rfl rfl (Nat.le_of_ble_eq_true rfl) (by decide) ⟨by decide, by decide⟩ ?_
            refine zicmp_ge (k := 27) rfl rfl (fun c5_q => ?_) (fun c5_q => ?_)
            · skip
              refine ziincB (k := 35) (ls' := [_, _, _, _]) rfl rfl (by decide) (by omega) rfl ?_
              refine zgoto (k := 36) rfl rfl ?_
              first
              | (have r := ih16_q (j + 1) _ (by omega) (by omega) rfl
                 rw [stfM_1 ⟨by first | exact Or.inl (by assumption) | exact Or.inr (by assumption), by rcases h2_q.2 with g | g; exact g.2; omega⟩] at r
                 exact r)
              | (have r := ih16_q (j + 1) _ (by omega) (by omega) rfl
                 rw [stfM_0 (fun q => by rcases h2_q.2 with g | g; omega; exact g.2 q.2)] at r
                 exact r)
              | (have r := ih16_q (j + 1) _ (by omega) (by omega) rfl
                 rw [stfM_0 (fun q => by rcases q.1 with q1_q | q1_q <;> omega)] at r
                 exact r)
            · skip
              refine zaload_n (k := 28) rfl rfl ?_
              refine ziload_n (k := 29) rfl rfl ?_
              refine ziload_n (k := 30) rfl rfl ?_
              refine zpVI (k := 31) rfl (c_M_isStaffed hb1_q h0_q hSI hWI ⟨by omega, by omega⟩ hnn) fm_M_isStaffed lk_12_516 rfl rfl ob_289 ⟨_, rfl, rfl⟩ (Nat.le_of_ble_eq_true rfl) (by decide) ⟨by decide, by decide⟩ (fun z σ3 h2_q => ?_)
              rw [h2_q.1]
              refine zif_eq (k := 32) rfl rfl (fun c6_q => ?_) (fun c6_q => ?_)
              · skip
                refine ziincB (k := 35) (ls' := [_, _, _, _]) rfl rfl (by decide) (by omega) rfl ?_
                refine zgoto (k := 36) rfl rfl ?_
                first
                | (have r := ih16_q (j + 1) _ (by omega) (by omega) rfl
                   rw [stfM_1 ⟨by first | exact Or.inl (by assumption) | exact Or.inr (by assumption), by rcases h2_q.2 with g | g; exact g.2; omega⟩] at r
                   exact r)
                | (have r := ih16_q (j + 1) _ (by omega) (by omega) rfl
                   rw [stfM_0 (fun q => by rcases h2_q.2 with g | g; omega; exact g.2 q.2)] at r
                   exact r)
                | (have r := ih16_q (j + 1) _ (by omega) (by omega) rfl
                   rw [stfM_0 (fun q => by rcases q.1 with q1_q | q1_q <;> omega)] at r
                   exact r)
              · skip
                refine ziload_n (k := 33) rfl rfl ?_
                refine zistore_n (k := 34) (ls' := [_, _, _, _]) rfl (Nat.le_of_ble_eq_true rfl) rfl ?_
                refine ziincB (k := 35) (ls' := [_, _, _, _]) rfl rfl (by decide) (by omega) rfl ?_
                refine zgoto (k := 36) rfl rfl ?_
                first
                | (have r := ih16_q (j + 1) _ (by omega) (by omega) rfl
                   rw [stfM_1 ⟨by first | exact Or.inl (by assumption) | exact Or.inr (by assumption), by rcases h2_q.2 with g | g; exact g.2; omega⟩] at r
                   exact r)
                | (have r := ih16_q (j + 1) _ (by omega) (by omega) rfl
                   rw [stfM_0 (fun q => by rcases h2_q.2 with g | g; omega; exact g.2 q.2)] at r
                   exact r)
                | (have r := ih16_q (j + 1) _ (by omega) (by omega) rfl
                   rw [stfM_0 (fun q => by rcases q.1 with q1_q | q1_q <;> omega)] at r
                   exact r)
    exact lp16_q _ 0 _ (Nat.lt_succ_self _) (by omega) rfl
  · skip
    refine ziconst (k := 5) rfl (by decide) ?_
    refine zireturn (k := 6) rfl rfl rfl ?_
    rw [← hQ]
    exact ⟨rfl, _, rfl, by unfold stfQ; rw [if_neg (by omega)], rfl⟩
