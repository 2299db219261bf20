noncomputable def mrkF (Wm : zv_H) : Nat → Int
  | 0 => 63
  | j + 1 => @ite Int (bcn j < bcn (mrkF Wm j) ∧ prtP Wm j) (Classical.propDecidable _) (j : Int) (mrkF Wm j)
theorem mrkF_1 {Wm : zv_H} {j : Nat} (h : bcn j < bcn (mrkF Wm j) ∧ prtP Wm j) : mrkF Wm (j + 1) = (j : Int) := if_pos h
theorem mrkF_0 {Wm : zv_H} {j : Nat} (h : ¬ (bcn j < bcn (mrkF Wm j) ∧ prtP Wm j)) : mrkF Wm (j + 1) = mrkF Wm j := if_neg h
theorem mrkF_b (Wm : zv_H) : ∀ j : Nat, j ≤ 64 → 0 ≤ mrkF Wm j ∧ mrkF Wm j ≤ 63
  | 0, _ => ⟨by show (0 : Int) ≤ 63; omega, Int.le_refl _⟩
  | j + 1, h => by
    by_cases q : bcn j < bcn (mrkF Wm j) ∧ prtP Wm j
    · rw [mrkF_1 q]; omega
    · rw [mrkF_0 q]; exact mrkF_b Wm j (by omega)
set_option maxHeartbeats 4000000 in
set_option maxRecDepth 20000 in
theorem c_NT_marks {Γ : zv_M} {L : Int} {w : Int} {σ S Wm : zv_H} (h8 : σ 1 8 = w) (hw : w ∈ wrL) (hW : vw 12 σ w = Wm) (hS : vw 10 σ 30 = S) (hSI : SI (Wm 0 1) (Wm 0 3) S) (hWI : WI Wm)  : zC Γ m_NT_marks 3 0 0 (GM L) [zR 1] σ (zPI (GM L) (fun z σ' => z = mrkF Wm 64 ∧ σ' = σ)) := by
  refine zC_of (ls0 := [_, _, _]) zm_NT_marks (by decide) rfl (Nat.le_of_ble_eq_true rfl) ?_
  generalize hQ : (zPI (GM L) (fun z σ' => z = mrkF Wm 64 ∧ σ' = σ)) = Q
  have ha : (30 : Int) ∈ stL := by decide
  have e30 : σ 30 = S 0 := st_e0 hS
  have e31 : σ 31 = S 1 := st_e (f := 1) hS (by omega)
  have e32 : σ 32 = S 2 := st_e (f := 2) hS (by omega)
  have e33 : σ 33 = S 3 := st_e (f := 3) hS (by omega)
  have e34 : σ 34 = S 4 := st_e (f := 4) hS (by omega)
  have e35 : σ 35 = S 5 := st_e (f := 5) hS (by omega)
  have e36 : σ 36 = S 6 := st_e (f := 6) hS (by omega)
  have e37 : σ 37 = S 7 := st_e (f := 7) hS (by omega)
  have e38 : σ 38 = S 8 := st_e (f := 8) hS (by omega)
  have e39 : σ 39 = S 9 := st_e (f := 9) hS (by omega)
  have e40 : σ 40 = S 10 := st_e (f := 10) hS (by omega)
  have ew0 : σ w = Wm 0 := st_e0 hW
  have ew1 : σ (w + 1) = Wm 1 := st_e (f := 1) hW (by omega)
  have ew2 : σ (w + 2) = Wm 2 := st_e (f := 2) hW (by omega)
  have ew3 : σ (w + 3) = Wm 3 := st_e (f := 3) hW (by omega)
  have ew4 : σ (w + 4) = Wm 4 := st_e (f := 4) hW (by omega)
  have ew5 : σ (w + 5) = Wm 5 := st_e (f := 5) hW (by omega)
  have ew6 : σ (w + 6) = Wm 6 := st_e (f := 6) hW (by omega)
  have ew7 : σ (w + 7) = Wm 7 := st_e (f := 7) hW (by omega)
  have ew8 : σ (w + 8) = Wm 8 := st_e (f := 8) hW (by omega)
  have ew9 : σ (w + 9) = Wm 9 := st_e (f := 9) hW (by omega)
  have ew10 : σ (w + 10) = Wm 10 := st_e (f := 10) hW (by omega)
  have ew11 : σ (w + 11) = Wm 11 := st_e (f := 11) hW (by omega)
  have ew12 : σ (w + 12) = Wm 12 := st_e (f := 12) hW (by omega)
  have hSI0 := hSI
  have hWI0 := hWI
  obtain ⟨b0, b11, b12, bc, bm, bl, br⟩ := hSI
  obtain ⟨w1, w2, w3, w4, w5, w6, w7, w8, w9, w10⟩ := hWI
  refine zbipush (k := 0) rfl rfl ?_
  refine zistore_n (k := 1) (ls' := [_, _, _]) rfl (Nat.le_of_ble_eq_true rfl) rfl ?_
  refine ziconst (k := 2) rfl (by decide) ?_
  refine zistore_n (k := 3) (ls' := [_, _, _]) rfl (Nat.le_of_ble_eq_true rfl) rfl ?_
  have lp5 : ∀ (g : Nat) (j : Nat) (σ2 : zv_H), (64 - j) < g → (j ≤ 64) → (σ2 = σ) → zV Γ m_NT_marks 3 0 0 Q (GM L) (0, 0) 5 [some (zR 1), some (zI (mrkF Wm j)), some (zI j)] [] σ2 := by
    intro g
    induction g with
    | zero => intro j σ2 hg; exact absurd hg (Nat.not_lt_zero _)
    | succ g ih5 =>
      intro j σ2 hg hj hs
      rw [hs]
      have mb := mrkF_b Wm j hj
      refine ziload_n (k := 4) rfl rfl ?_
      refine zbipush (k := 5) rfl rfl ?_
      refine zicmp_gt (k := 6) rfl rfl (fun c1 => ?_) (fun c1 => ?_)
      · skip
        refine ziload_n (k := 21) rfl rfl ?_
        refine zireturn (k := 22) rfl rfl rfl ?_
        rw [← hQ]
        exact ⟨rfl, _, rfl, by rw [show j = 64 by omega], rfl⟩
      · skip
        refine ziload_n (k := 7) rfl rfl ?_
        refine zfS1 (k := 8) rfl (c_J_bitCount (by omega)) fm_J_bitCount lk_11_248 rfl rfl (Nat.le_of_ble_eq_true rfl) (by decide) ⟨by decide, by decide⟩ ?_
        refine ziload_n (k := 9) rfl rfl ?_
        refine zfS1 (k := 10) rfl (c_J_bitCount (by omega)) fm_J_bitCount lk_11_248 rfl rfl (Nat.le_of_ble_eq_true rfl) (by decide) ⟨by decide, by decide⟩ ?_
        refine zicmp_ge (k := 11) rfl rfl (fun c2 => ?_) (fun c2 => ?_)
        · skip
          refine ziincB (k := 19) (ls' := [_, _, _]) rfl rfl (by decide) (by omega) rfl ?_
          refine zgoto (k := 20) rfl rfl ?_
          first
          | (have r := ih5 (j + 1) _ (by omega) (by omega) rfl
             rw [mrkF_0 (fun q => by omega)] at r
             exact r)
          | (have r := ih5 (j + 1) _ (by omega) (by omega) rfl
             rw [mrkF_0 (fun q => by rcases h2.2 with g | g; omega; exact g.2 q.2)] at r
             exact r)
          | (have r := ih5 (j + 1) _ (by omega) (by omega) rfl
             rw [mrkF_1 ⟨by omega, by rcases h2.2 with g | g; exact g.2; omega⟩] at r
             exact r)
        · skip
          refine zaload_n (k := 12) rfl rfl ?_
          refine zgR 8 (k := 13) rfl ob_1 fl_11_19 rfl fx_1_8 ?_
          first | rw [h8] | rw [h0.2 1 8 (by omega) (by omega) (by omega), h8]
          refine ziload_n (k := 14) rfl rfl ?_
          refine zpVI (k := 15) rfl (c_War_parts hw hW w3) fm_War_parts lk_11_253 rfl rfl (wr_ob hw) ⟨_, rfl, rfl⟩ (Nat.le_of_ble_eq_true rfl) (by decide) ⟨by decide, by decide⟩ (fun z σ3 h2 => ?_)
          rw [h2.1]
          refine zif_eq (k := 16) rfl rfl (fun c3 => ?_) (fun c3 => ?_)
          · skip
            refine ziincB (k := 19) (ls' := [_, _, _]) rfl rfl (by decide) (by omega) rfl ?_
            refine zgoto (k := 20) rfl rfl ?_
            first
            | (have r := ih5 (j + 1) _ (by omega) (by omega) rfl
               rw [mrkF_0 (fun q => by omega)] at r
               exact r)
            | (have r := ih5 (j + 1) _ (by omega) (by omega) rfl
               rw [mrkF_0 (fun q => by rcases h2.2 with g | g; omega; exact g.2 q.2)] at r
               exact r)
            | (have r := ih5 (j + 1) _ (by omega) (by omega) rfl
               rw [mrkF_1 ⟨by omega, by rcases h2.2 with g | g; exact g.2; omega⟩] at r
               exact r)
          · skip
            refine ziload_n (k := 17) rfl rfl ?_
            refine zistore_n (k := 18) (ls' := [_, _, _]) rfl (Nat.le_of_ble_eq_true rfl) rfl ?_
            refine ziincB (k := 19) (ls' := [_, _, _]) rfl rfl (by decide) (by omega) rfl ?_
            refine zgoto (k := 20) rfl rfl ?_
            first
            | (have r := ih5 (j + 1) _ (by omega) (by omega) rfl
               rw [mrkF_0 (fun q => by omega)] at r
               exact r)
            | (have r := ih5 (j + 1) _ (by omega) (by omega) rfl
               rw [mrkF_0 (fun q => by rcases h2.2 with g | g; omega; exact g.2 q.2)] at r
               exact r)
            | (have r := ih5 (j + 1) _ (by omega) (by omega) rfl
               rw [mrkF_1 ⟨by omega, by rcases h2.2 with g | g; exact g.2; omega⟩] at r
               exact r)
  exact lp5 _ 0 _ (Nat.lt_succ_self _) (by omega) rfl
