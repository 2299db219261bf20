set_option maxHeartbeats 4000000 in
set_option maxRecDepth 20000 in
theorem c_M_areMarks {Γ : zv_M} {L : Int} {σ Wm S : zv_H} {b : Int} (hb1_q : b = 0 ∨ b = 1) (h0_q : stM σ σ b 0 Wm S) (hSI : SI (Wm 0 1) (Wm 0 3) S) (hWI : WI Wm) {k : Int}  : zC Γ m_M_areMarks 1 0 0 (GM L) [zR 289, zI k] σ (zPI (GM L) (fun z σ' => σ' = σ ∧ ((z = 1 ∧ prtP Wm k) ∨ (z = 0 ∧ ¬ prtP Wm k)))) := by
  refine zC_of (ls0 := [_, _, _, _]) zm_M_areMarks (by decide) rfl (Nat.le_of_ble_eq_true rfl) ?_
  generalize hQ : (zPI (GM L) (fun z σ' => σ' = σ ∧ ((z = 1 ∧ prtP Wm k) ∨ (z = 0 ∧ ¬ prtP Wm k)))) = Q
  have hb := h0_q.2.2.1
  have w1_q := hWI.1
  have w3_q := hWI.2.2.1
  have r0_q := rM_0 h0_q.1
  have b00_q := hSI.1
  have b12_q := hSI.2.2.1
  have bc := hSI.2.2.2.1
  have bm := hSI.2.2.2.2.1
  have bl := hSI.2.2.2.2.2.1
  refine ziconst (k := 0) rfl (by decide) ?_
  refine zistore_n (k := 1) (ls' := [_, _, _, _]) rfl (Nat.le_of_ble_eq_true rfl) rfl ?_
  have lp2_q : ∀ (g : Nat) (i : Nat), ((Wm 0 3).toNat - i) < g → ((i : Int) ≤ Wm 0 3) → (∀ x y : Int, 0 ≤ y → y < x → x < i → pt2 Wm k x y) → zV Γ m_M_areMarks 1 0 0 Q (GM L) (0, 0) 2 [some (zR 289), some (zI k), some (zI i), none] [] σ := by
    intro g
    induction g with
    | zero => intro i hg; exact absurd hg (Nat.not_lt_zero _)
    | succ g ih2_q =>
      intro i hg hi hp
      refine ziload_n (k := 2) rfl rfl ?_
      refine zaload_n (k := 3) rfl rfl ?_
      refine zgF 21 (k := 4) rfl ob_289 fl_12_75 rfl fx_289_21 ?_
      refine zaload_n (k := 5) rfl rfl ?_
      refine zgI 13 (k := 6) rfl ob_289 fl_12_51 rfl fx_289_13 ?_
      rw [hb]
      refine ziaload (k := 7) rfl ar_298 ⟨by omega, by omega⟩ ?_
      rw [h0_q.2.1.1.2.2.1]
      refine zicmp_ge (k := 8) rfl rfl (fun c1_q => ?_) (fun c1_q => ?_)
      · skip
        refine ziconst (k := 38) rfl (by decide) ?_
        refine zzreturn (k := 39) rfl rfl (by first | exact Or.inl rfl | exact Or.inr rfl | omega) rfl ?_
        rw [← hQ]
        exact ⟨rfl, _, rfl, rfl, Or.inl ⟨rfl, (prt_pt2 hWI).mpr (fun x y h1_q h2_q h3_q => hp x y h1_q h2_q (by omega))⟩⟩
      · skip
        refine ziconst (k := 9) rfl (by decide) ?_
        refine zistore_n (k := 10) (ls' := [_, _, _, _]) rfl (Nat.le_of_ble_eq_true rfl) rfl ?_
        have lp17_q : ∀ (g : Nat) (j : Nat), (i - j) < g → ((j : Int) ≤ i) → (∀ y : Int, 0 ≤ y → y < j → pt2 Wm k i y) → zV Γ m_M_areMarks 1 0 0 Q (GM L) (0, 0) 17 [some (zR 289), some (zI k), some (zI i), some (zI j)] [] σ := by
          intro g
          induction g with
          | zero => intro j hg; exact absurd hg (Nat.not_lt_zero _)
          | succ g ih17_q =>
            intro j hg hj hq
            refine ziload_n (k := 11) rfl rfl ?_
            refine ziload_n (k := 12) rfl rfl ?_
            refine zicmp_ge (k := 13) rfl rfl (fun c2_q => ?_) (fun c2_q => ?_)
            · skip
              refine ziincB (k := 36) (ls' := [_, _, _, _]) rfl rfl (by decide) (by omega) rfl ?_
              refine zgoto (k := 37) rfl rfl ?_
              refine zforget (ls' := [_, _, _, _]) 3 rfl ?_
              refine ih2_q (i + 1) (by omega) (by omega) (fun x y h1_q h2_q h3_q => ?_)
              by_cases e : x = i
              · rw [e]; exact hq y h1_q (by omega)
              · exact hp x y h1_q h2_q (by omega)
            · skip
              refine zaload_n (k := 14) rfl rfl ?_
              refine ziload_n (k := 15) rfl rfl ?_
              refine zfV1 (k := 16) rfl (c_M_signs hb hb1_q (by omega)) fm_M_signs lk_12_459 rfl rfl ob_289 ⟨_, rfl, rfl⟩ (Nat.le_of_ble_eq_true rfl) (by decide) ⟨by decide, by decide⟩ ?_
              rw [(h0_q.2.1.2.2.1 i (by omega) (by omega)).2.1]
              refine zaload_n (k := 17) rfl rfl ?_
              refine ziload_n (k := 18) rfl rfl ?_
              refine zfV1 (k := 19) rfl (c_M_signs hb hb1_q (by omega)) fm_M_signs lk_12_459 rfl rfl ob_289 ⟨_, rfl, rfl⟩ (Nat.le_of_ble_eq_true rfl) (by decide) ⟨by decide, by decide⟩ ?_
              rw [(h0_q.2.1.2.2.1 j (by omega) (by omega)).2.1]
              refine zicmp_eq (k := 20) rfl rfl (fun c3_q => ?_) (fun c3_q => ?_)
              · skip
                refine ziincB (k := 34) (ls' := [_, _, _, _]) rfl rfl (by decide) (by omega) rfl ?_
                refine zgoto (k := 35) rfl rfl ?_
                refine ih17_q (j + 1) (by omega) (by omega) (fun y h1_q h2_q => ?_)
                by_cases e : y = j
                · rw [e]
                  first | exact Or.inl (by assumption) | exact Or.inr (by assumption)
                · exact hq y h1_q (by omega)
              · skip
                refine zaload_n (k := 21) rfl rfl ?_
                refine ziload_n (k := 22) rfl rfl ?_
                refine zfV1 (k := 23) rfl (c_M_signs hb hb1_q (by omega)) fm_M_signs lk_12_459 rfl rfl ob_289 ⟨_, rfl, rfl⟩ (Nat.le_of_ble_eq_true rfl) (by decide) ⟨by decide, by decide⟩ ?_
                rw [(h0_q.2.1.2.2.1 i (by omega) (by omega)).2.1]
                refine ziload_n (k := 24) rfl rfl ?_
                refine ziand (k := 25) rfl ?_
                refine zaload_n (k := 26) rfl rfl ?_
                refine ziload_n (k := 27) rfl rfl ?_
                refine zfV1 (k := 28) rfl (c_M_signs hb hb1_q (by omega)) fm_M_signs lk_12_459 rfl rfl ob_289 ⟨_, rfl, rfl⟩ (Nat.le_of_ble_eq_true rfl) (by decide) ⟨by decide, by decide⟩ ?_
                rw [(h0_q.2.1.2.2.1 j (by omega) (by omega)).2.1]
                refine ziload_n (k := 29) rfl rfl ?_
                refine ziand (k := 30) rfl ?_
                refine zicmp_ne (k := 31) rfl rfl (fun c4_q => ?_) (fun c4_q => ?_)
                · skip
                  refine ziincB (k := 34) (ls' := [_, _, _, _]) rfl rfl (by decide) (by omega) rfl ?_
                  refine zgoto (k := 35) rfl rfl ?_
                  refine ih17_q (j + 1) (by omega) (by omega) (fun y h1_q h2_q => ?_)
                  by_cases e : y = j
                  · rw [e]
                    first | exact Or.inl (by assumption) | exact Or.inr (by assumption)
                  · exact hq y h1_q (by omega)
                · skip
                  refine ziconst (k := 32) rfl (by decide) ?_
                  refine zzreturn (k := 33) rfl rfl (by first | exact Or.inl rfl | exact Or.inr rfl | omega) rfl ?_
                  rw [← hQ]
                  refine ⟨rfl, _, rfl, rfl, Or.inr ⟨rfl, fun q => ?_⟩⟩
                  rcases (prt_pt2 hWI).mp q i j (by omega) (by omega) (by omega) with h1_q | h1_q
                  · exact absurd h1_q (by assumption)
                  · exact absurd (by assumption) h1_q
        exact lp17_q _ 0 (Nat.lt_succ_self _) (by omega) (fun y h1_q h2_q => by omega)
  exact lp2_q _ 0 (Nat.lt_succ_self _) (by omega) (fun x y h1_q h2_q h3_q => by omega)
/-- the best marks below j, as the model finds them -/
noncomputable def mrkM (Wm : zv_H) : Nat → Int
  | 0 => -1
  | j + 1 => @ite Int ((mrkM Wm j = -1 ∨ bcn j < bcn (mrkM Wm j)) ∧ prtP Wm j) (Classical.propDecidable _) (j : Int) (mrkM Wm j)
theorem mrkM_1 {Wm : zv_H} {j : Nat} (h : (mrkM Wm j = -1 ∨ bcn j < bcn (mrkM Wm j)) ∧ prtP Wm j) : mrkM Wm (j + 1) = (j : Int) := if_pos h
theorem mrkM_0 {Wm : zv_H} {j : Nat} (h : ¬ ((mrkM Wm j = -1 ∨ bcn j < bcn (mrkM Wm j)) ∧ prtP Wm j)) : mrkM Wm (j + 1) = mrkM Wm j := if_neg h
theorem bcn_63 : ∀ j : Fin 63, bcn ((j.val : Nat) : Int) < bcn 63 := by decide +kernel
theorem mrk_e {Wm : zv_H} : ∀ j : Nat, j ≤ 63 → (mrkM Wm j = -1 ∧ mrkF Wm j = 63) ∨ (mrkM Wm j = mrkF Wm j ∧ 0 ≤ mrkM Wm j ∧ mrkM Wm j < 63)
  | 0, _ => Or.inl ⟨rfl, rfl⟩
  | j + 1, h => by
    have ih := mrk_e (Wm := Wm) j (by omega)
    have b := bcn_63 ⟨j, by omega⟩
    dsimp only at b
    by_cases p : prtP Wm j
    · rcases ih with ⟨a1_q, a2_q⟩ | ⟨a1_q, a2_q⟩
      · rw [mrkM_1 ⟨Or.inl a1_q, p⟩, mrkF_1 ⟨by rw [a2_q]; exact b, p⟩]
        exact Or.inr ⟨rfl, by omega⟩
      · by_cases q : bcn j < bcn (mrkF Wm j)
        · rw [mrkM_1 ⟨Or.inr (by rw [a1_q]; exact q), p⟩, mrkF_1 ⟨q, p⟩]
          exact Or.inr ⟨rfl, by omega⟩
        · rw [mrkM_0 (fun r => by rcases r.1 with r1_q | r1_q; omega; rw [a1_q] at r1_q; exact q r1_q), mrkF_0 (fun r => q r.1)]
          exact Or.inr ⟨a1_q, a2_q⟩
    · rw [mrkM_0 (fun r => p r.2), mrkF_0 (fun r => p r.2)]
      exact ih
theorem mrkM_b {Wm : zv_H} : ∀ j : Nat, j ≤ 64 → -1 ≤ mrkM Wm j ∧ mrkM Wm j ≤ 63
  | 0, _ => ⟨Int.le_refl _, by show (-1 : Int) ≤ 63; omega⟩
  | j + 1, h => by
    have ih := mrkM_b (Wm := Wm) j (by omega)
    by_cases q : (mrkM Wm j = -1 ∨ bcn j < bcn (mrkM Wm j)) ∧ prtP Wm j
    · rw [mrkM_1 q]; omega
    · rw [mrkM_0 q]; exact ih
theorem mrk_64 {Wm : zv_H} (hW : WI Wm) : mrkM Wm 64 = mrkF Wm 64 := by
  have h := mrk_e (Wm := Wm) 63 (Nat.le_refl _)
  have b63_q : ∀ x : Int, ¬ (bcn ((63 : Nat) : Int) < bcn x) ∨ ¬ (0 ≤ x ∧ x ≤ 63) := fun x => by
    by_cases hx : 0 ≤ x ∧ x ≤ 63
    · refine Or.inl ?_
      have e : bcn ((63 : Nat) : Int) = 6 := by decide
      rw [e]
      unfold bcn
      omega
    · exact Or.inr hx
  rcases h with ⟨a1_q, a2_q⟩ | ⟨a1_q, a2_q⟩
  · rw [mrkM_1 ⟨Or.inl a1_q, prt_63 hW⟩, mrkF_0 (fun r => by rw [a2_q] at r; exact absurd r.1 (Int.lt_irrefl _))]
    rw [a2_q]; rfl
  · have q := b63_q (mrkM Wm 63)
    rw [mrkM_0 (fun r => by rcases r.1 with r1_q | r1_q; omega; rcases q with q | q; exact q r1_q; omega), mrkF_0 (fun r => by rcases q with q | q; rw [a1_q] at q; exact q r.1; omega)]
    exact a1_q
set_option maxHeartbeats 4000000 in
set_option maxRecDepth 20000 in
theorem c_M_marks {Γ : zv_M} {L : Int} {σ Wm S : zv_H} {b : Int} (hb1_q : b = 0 ∨ b = 1) (h0_q : stM σ σ b 0 Wm S) (hSI : SI (Wm 0 1) (Wm 0 3) S) (hWI : WI Wm)  : zC Γ m_M_marks 3 0 0 (GM L) [zR 289] σ (zPI (GM L) (fun z σ' => z = mrkF Wm 64 ∧ σ' = σ)) := by
  refine zC_of (ls0 := [_, _, _]) zm_M_marks (by decide) rfl (Nat.le_of_ble_eq_true rfl) ?_
  generalize hQ : (zPI (GM L) (fun z σ' => z = mrkF Wm 64 ∧ σ' = σ)) = Q
  have hb := h0_q.2.2.1
  have w1_q := hWI.1
  have w3_q := hWI.2.2.1
  have r0_q := rM_0 h0_q.1
  have b00_q := hSI.1
  have b12_q := hSI.2.2.1
  have bc := hSI.2.2.2.1
  have bm := hSI.2.2.2.2.1
  have bl := hSI.2.2.2.2.2.1
  refine ziconst (k := 0) rfl (by decide) ?_
  refine zistore_n (k := 1) (ls' := [_, _, _]) rfl (Nat.le_of_ble_eq_true rfl) rfl ?_
  refine ziconst (k := 2) rfl (by decide) ?_
  refine zistore_n (k := 3) (ls' := [_, _, _]) rfl (Nat.le_of_ble_eq_true rfl) rfl ?_
  have lp4_q : ∀ (g : Nat) (j : Nat) (σ2 : zv_H), (64 - j) < g → (j ≤ 64) → (σ2 = σ) → zV Γ m_M_marks 3 0 0 Q (GM L) (0, 0) 4 [some (zR 289), some (zI (mrkM Wm j)), some (zI j)] [] σ2 := by
    intro g
    induction g with
    | zero => intro j σ2 hg; exact absurd hg (Nat.not_lt_zero _)
    | succ g ih4_q =>
      intro j σ2 hg hj hs
      rw [hs]
      have mb := mrkM_b (Wm := Wm) j hj
      refine ziload_n (k := 4) rfl rfl ?_
      refine zbipush (k := 5) rfl rfl ?_
      refine zicmp_ge (k := 6) rfl rfl (fun c1_q => ?_) (fun c1_q => ?_)
      · skip
        refine ziload_n (k := 23) rfl rfl ?_
        refine zireturn (k := 24) rfl rfl rfl ?_
        rw [← hQ]
        exact ⟨rfl, _, rfl, by rw [show j = 64 by omega]; exact mrk_64 hWI, rfl⟩
      · skip
        refine ziload_n (k := 7) rfl rfl ?_
        refine ziconst (k := 8) rfl (by decide) ?_
        refine zicmp_eq (k := 9) rfl rfl (fun c2_q => ?_) (fun c2_q => ?_)
        · skip
          refine zaload_n (k := 15) rfl rfl ?_
          refine ziload_n (k := 16) rfl rfl ?_
          refine zpVI (k := 17) rfl (c_M_areMarks hb1_q h0_q hSI hWI) fm_M_areMarks lk_12_513 rfl rfl ob_289 ⟨_, rfl, rfl⟩ (Nat.le_of_ble_eq_true rfl) (by decide) ⟨by decide, by decide⟩ (fun z σ3 h2_q => ?_)
          rw [h2_q.1]
          refine zif_eq (k := 18) rfl rfl (fun c3_q => ?_) (fun c3_q => ?_)
          · skip
            refine ziincB (k := 21) (ls' := [_, _, _]) rfl rfl (by decide) (by omega) rfl ?_
            refine zgoto (k := 22) rfl rfl ?_
            first
            | (have r := ih4_q (j + 1) _ (by omega) (by omega) rfl
               rw [mrkM_1 ⟨by first | exact Or.inl (by assumption) | exact Or.inr (by assumption), by rcases h2_q.2 with g | g; exact g.2; omega⟩] at r
               exact r)
            | (have r := ih4_q (j + 1) _ (by omega) (by omega) rfl
               rw [mrkM_0 (fun q => by rcases h2_q.2 with g | g; omega; exact g.2 q.2)] at r
               exact r)
            | (have r := ih4_q (j + 1) _ (by omega) (by omega) rfl
               rw [mrkM_0 (fun q => by rcases q.1 with q1_q | q1_q <;> omega)] at r
               exact r)
          · skip
            refine ziload_n (k := 19) rfl rfl ?_
            refine zistore_n (k := 20) (ls' := [_, _, _]) rfl (Nat.le_of_ble_eq_true rfl) rfl ?_
            refine ziincB (k := 21) (ls' := [_, _, _]) rfl rfl (by decide) (by omega) rfl ?_
            refine zgoto (k := 22) rfl rfl ?_
            first
            | (have r := ih4_q (j + 1) _ (by omega) (by omega) rfl
               rw [mrkM_1 ⟨by first | exact Or.inl (by assumption) | exact Or.inr (by assumption), by rcases h2_q.2 with g | g; exact g.2; omega⟩] at r
               exact r)
            | (have r := ih4_q (j + 1) _ (by omega) (by omega) rfl
               rw [mrkM_0 (fun q => by rcases h2_q.2 with g | g; omega; exact g.2 q.2)] at r
               exact r)
            | (have r := ih4_q (j + 1) _ (by omega) (by omega) rfl
               rw [mrkM_0 (fun q => by rcases q.1 with q1_q | q1_q <;> omega)] at r
               exact r)
        · skip
          refine ziload_n (k := 10) rfl rfl ?_
          refine zfS1 (k := 11) rfl (c_M_bits (by omega)) fm_M_bits lk_12_510 rfl rfl (Nat.le_of_ble_eq_true rfl) (by decide) ⟨by decide, by decide⟩ ?_
          refine ziload_n (k := 12) rfl rfl ?_
          refine zfS1 (k := 13) rfl (c_M_bits (by omega)) fm_M_bits lk_12_510 rfl rfl (Nat.le_of_ble_eq_true rfl) (by decide) ⟨by decide, by decide⟩ ?_
          refine zicmp_ge (k := 14) rfl rfl (fun c4_q => ?_) (fun c4_q => ?_)
          · skip
            refine ziincB (k := 21) (ls' := [_, _, _]) rfl rfl (by decide) (by omega) rfl ?_
            refine zgoto (k := 22) rfl rfl ?_
            first
            | (have r := ih4_q (j + 1) _ (by omega) (by omega) rfl
               rw [mrkM_1 ⟨by first | exact Or.inl (by assumption) | exact Or.inr (by assumption), by rcases h2_q.2 with g | g; exact g.2; omega⟩] at r
               exact r)
            | (have r := ih4_q (j + 1) _ (by omega) (by omega) rfl
               rw [mrkM_0 (fun q => by rcases h2_q.2 with g | g; omega; exact g.2 q.2)] at r
               exact r)
            | (have r := ih4_q (j + 1) _ (by omega) (by omega) rfl
               rw [mrkM_0 (fun q => by rcases q.1 with q1_q | q1_q <;> omega)] at r
               exact r)
          · skip
            refine zaload_n (k := 15) rfl rfl ?_
            refine ziload_n (k := 16) rfl rfl ?_
            refine zpVI (k := 17) rfl (c_M_areMarks hb1_q h0_q hSI hWI) fm_M_areMarks lk_12_513 rfl rfl ob_289 ⟨_, rfl, rfl⟩ (Nat.le_of_ble_eq_true rfl) (by decide) ⟨by decide, by decide⟩ (fun z σ3 h2_q => ?_)
            rw [h2_q.1]
            refine zif_eq (k := 18) rfl rfl (fun c5_q => ?_) (fun c5_q => ?_)
            · skip
              refine ziincB (k := 21) (ls' := [_, _, _]) rfl rfl (by decide) (by omega) rfl ?_
              refine zgoto (k := 22) rfl rfl ?_
              first
              | (have r := ih4_q (j + 1) _ (by omega) (by omega) rfl
                 rw [mrkM_1 ⟨by first | exact Or.inl (by assumption) | exact Or.inr (by assumption), by rcases h2_q.2 with g | g; exact g.2; omega⟩] at r
                 exact r)
              | (have r := ih4_q (j + 1) _ (by omega) (by omega) rfl
                 rw [mrkM_0 (fun q => by rcases h2_q.2 with g | g; omega; exact g.2 q.2)] at r
                 exact r)
              | (have r := ih4_q (j + 1) _ (by omega) (by omega) rfl
                 rw [mrkM_0 (fun q => by rcases q.1 with q1_q | q1_q <;> omega)] at r
                 exact r)
            · skip
              refine ziload_n (k := 19) rfl rfl ?_
              refine zistore_n (k := 20) (ls' := [_, _, _]) rfl (Nat.le_of_ble_eq_true rfl) rfl ?_
              refine ziincB (k := 21) (ls' := [_, _, _]) rfl rfl (by decide) (by omega) rfl ?_
              refine zgoto (k := 22) rfl rfl ?_
              first
              | (have r := ih4_q (j + 1) _ (by omega) (by omega) rfl
                 rw [mrkM_1 ⟨by first | exact Or.inl (by assumption) | exact Or.inr (by assumption), by rcases h2_q.2 with g | g; exact g.2; omega⟩] at r
                 exact r)
              | (have r := ih4_q (j + 1) _ (by omega) (by omega) rfl
                 rw [mrkM_0 (fun q => by rcases h2_q.2 with g | g; omega; exact g.2 q.2)] at r
                 exact r)
              | (have r := ih4_q (j + 1) _ (by omega) (by omega) rfl
                 rw [mrkM_0 (fun q => by rcases q.1 with q1_q | q1_q <;> omega)] at r
                 exact r)
  exact lp4_q _ 0 _ (Nat.lt_succ_self _) (by omega) rfl
