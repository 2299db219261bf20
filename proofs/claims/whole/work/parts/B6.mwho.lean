set_option maxHeartbeats 4000000 in
set_option maxRecDepth 20000 in
theorem c_M_isSeen {Γ : zv_M} {L : Int} {σ Wm S : zv_H} {b : Int} (hb1_q : b = 0 ∨ b = 1) (h0_q : stM σ σ b 0 Wm S) (hSI : SI (Wm 0 1) (Wm 0 3) S) (hWI : WI Wm) (hsn : 0 ≤ σ 289 67 ∧ σ 289 67 ≤ 16) {m : Int} (hm : 0 ≤ m ∧ m < Wm 0 3)  : zC Γ m_M_isSeen 1 0 0 (GM L) [zR 289, zI m] σ (zFn (some (zI (zB (sfit (Wm 7) (σ 332) (σ 333) m (σ 289 67).toNat)))) (GM L) σ) := by
  refine zC_of (ls0 := [_, _, _]) zm_M_isSeen (by decide) rfl (Nat.le_of_ble_eq_true rfl) ?_
  generalize hQ : (zFn (some (zI (zB (sfit (Wm 7) (σ 332) (σ 333) m (σ 289 67).toNat)))) (GM L) σ) = Q
  have hb := h0_q.2.2.1
  have w1_q := hWI.1
  have w3_q := hWI.2.2.1
  have r0_q := rM_0 h0_q.1
  have b00_q := hSI.1
  have b12_q := hSI.2.2.1
  have bc := hSI.2.2.2.1
  have bm := hSI.2.2.2.2.1
  have bl := hSI.2.2.2.2.2.1
  refine ziconst (k := 0) rfl (by decide) ?_
  refine zistore_n (k := 1) (ls' := [_, _, _]) rfl (Nat.le_of_ble_eq_true rfl) rfl ?_
  have lp2_q : ∀ (g : Nat) (r : Nat), ((σ 289 67).toNat - r) < g → ((r : Int) ≤ σ 289 67) → (sfit (Wm 7) (σ 332) (σ 333) m r = true) → zV Γ m_M_isSeen 1 0 0 Q (GM L) (0, 0) 2 [some (zR 289), some (zI m), some (zI r)] [] σ := by
    intro g
    induction g with
    | zero => intro r hg; exact absurd hg (Nat.not_lt_zero _)
    | succ g ih2_q =>
      intro r hg hr hf
      refine ziload_n (k := 2) rfl rfl ?_
      refine zaload_n (k := 3) rfl rfl ?_
      refine zgI 67 (k := 4) rfl ob_289 fl_12_216 rfl fx_289_67 ?_
      refine zicmp_ge (k := 5) rfl rfl (fun c1_q => ?_) (fun c1_q => ?_)
      · skip
        refine ziconst (k := 25) rfl (by decide) ?_
        refine zzreturn (k := 26) rfl rfl (by first | exact Or.inl rfl | exact Or.inr rfl | omega) rfl ?_
        rw [← hQ]
        exact ⟨by rw [show (σ 289 67).toNat = r by omega, hf]; rfl, rfl, rfl⟩
      · skip
        refine zaload_n (k := 6) rfl rfl ?_
        refine ziload_n (k := 7) rfl rfl ?_
        refine zfV1 (k := 8) rfl (c_M_signs hb hb1_q (by omega)) fm_M_signs lk_12_459 rfl rfl ob_289 ⟨_, rfl, rfl⟩ (Nat.le_of_ble_eq_true rfl) (by decide) ⟨by decide, by decide⟩ ?_
        rw [(h0_q.2.1.2.2.1 m (by omega) (by omega)).2.1]
        refine zaload_n (k := 9) rfl rfl ?_
        refine zgF 68 (k := 10) rfl ob_289 fl_12_219 rfl fx_289_68 ?_
        refine ziload_n (k := 11) rfl rfl ?_
        refine ziaload (k := 12) rfl ar_332 ⟨by omega, by omega⟩ ?_
        refine zishr (k := 13) rfl ?_
        refine ziconst (k := 14) rfl (by decide) ?_
        refine ziandM (k := 15) 1 rfl (by decide) rfl 2 rfl ?_
        refine zaload_n (k := 16) rfl rfl ?_
        refine zgF 69 (k := 17) rfl ob_289 fl_12_222 rfl fx_289_69 ?_
        refine ziload_n (k := 18) rfl rfl ?_
        refine ziaload (k := 19) rfl ar_333 ⟨by omega, by omega⟩ ?_
        refine zicmp_eq (k := 20) rfl rfl (fun c2_q => ?_) (fun c2_q => ?_)
        · skip
          refine ziincB (k := 23) (ls' := [_, _, _]) rfl rfl (by decide) (by omega) rfl ?_
          refine zgoto (k := 24) rfl rfl ?_
          exact ih2_q (r + 1) (by omega) (by omega) (by rw [sfit_s, hf]; simp only [Bool.true_and, decide_eq_true_eq]; assumption)
        · skip
          refine ziconst (k := 21) rfl (by decide) ?_
          refine zzreturn (k := 22) rfl rfl (by first | exact Or.inl rfl | exact Or.inr rfl | omega) rfl ?_
          rw [← hQ]
          have e : sfit (Wm 7) (σ 332) (σ 333) m (r + 1) = false := by rw [sfit_s, hf]; simp only [Bool.true_and, decide_eq_false_iff_not]; assumption
          have e2_q := sfit_le e ((σ 289 67).toNat - (r + 1))
          rw [show r + 1 + ((σ 289 67).toNat - (r + 1)) = (σ 289 67).toNat by omega] at e2_q
          exact ⟨by rw [e2_q]; rfl, rfl, rfl⟩
  exact lp2_q _ 0 (Nat.lt_succ_self _) (by omega) rfl
theorem seb_63 (sg sS sH : Int → Int) (r : Nat) {j : Nat} {n : Int} (hj : (j : Int) ≤ n) (hn : n ≤ 6) : 0 ≤ sebN sg sS sH r j ∧ sebN sg sS sH r j < 64 := by
  have h := sebN_b sg sS sH r j
  have e : j = 0 ∨ j = 1 ∨ j = 2 ∨ j = 3 ∨ j = 4 ∨ j = 5 ∨ j = 6 := by omega
  rcases e with rfl | rfl | rfl | rfl | rfl | rfl | rfl <;> omega
set_option maxHeartbeats 4000000 in
set_option maxRecDepth 20000 in
theorem c_M_who {Γ : zv_M} {L : Int} {σ Wm S : zv_H} {b : Int} (hb1_q : b = 0 ∨ b = 1) (h0_q : stM σ σ b 0 Wm S) (hSI : SI (Wm 0 1) (Wm 0 3) S) (hWI : WI Wm) (hsn : 0 ≤ σ 289 67 ∧ σ 289 67 ≤ 16) {t : Int}  : zC Γ m_M_who 3 0 0 (GM L) [zR 289, zI t] σ (zFn (some (zI (whoQ (Wm 7) (Wm 0 3).toNat (sebN (Wm 7) (σ 332) (σ 333) (σ 289 67).toNat (Wm 0 3).toNat) t))) (GM L) σ) := by
  refine zC_of (ls0 := [_, _, _, _, _, _, _, _]) zm_M_who (by decide) rfl (Nat.le_of_ble_eq_true rfl) ?_
  generalize hQ : (zFn (some (zI (whoQ (Wm 7) (Wm 0 3).toNat (sebN (Wm 7) (σ 332) (σ 333) (σ 289 67).toNat (Wm 0 3).toNat) t))) (GM L) σ) = Q
  have hb := h0_q.2.2.1
  have w1_q := hWI.1
  have w3_q := hWI.2.2.1
  have r0_q := rM_0 h0_q.1
  have b00_q := hSI.1
  have b12_q := hSI.2.2.1
  have bc := hSI.2.2.2.1
  have bm := hSI.2.2.2.2.1
  have bl := hSI.2.2.2.2.2.1
  refine ziload_n (k := 0) rfl rfl ?_
  refine ziconst (k := 1) rfl (by decide) ?_
  refine ziconst (k := 2) rfl (by decide) ?_
  refine zfS1 (k := 3) rfl c_M_is fm_M_is lk_12_315 rfl rfl (Nat.le_of_ble_eq_true rfl) (by decide) ⟨by decide, by decide⟩ ?_
  refine zif_ne (k := 4) rfl rfl (fun c1_q => ?_) (fun c1_q => ?_)
  · skip
    have htt : 0 ≤ t ∧ t ≤ 2 := by omega
    refine ziconst (k := 7) rfl (by decide) ?_
    refine zistore_n (k := 8) (ls' := [_, _, _, _, _, _, _, _]) rfl (Nat.le_of_ble_eq_true rfl) rfl ?_
    refine ziconst (k := 9) rfl (by decide) ?_
    refine zistore_n (k := 10) (ls' := [_, _, _, _, _, _, _, _]) rfl (Nat.le_of_ble_eq_true rfl) rfl ?_
    have lp15_q : ∀ (g : Nat) (j : Nat), ((Wm 0 3).toNat - j) < g → ((j : Int) ≤ Wm 0 3) → zV Γ m_M_who 3 0 0 Q (GM L) (0, 0) 15 [some (zR 289), some (zI t), some (zI (sebN (Wm 7) (σ 332) (σ 333) (σ 289 67).toNat j)), some (zI j), none, none, none, none] [] σ := by
      intro g
      induction g with
      | zero => intro j hg; exact absurd hg (Nat.not_lt_zero _)
      | succ g ih15_q =>
        intro j hg hj
        refine ziload_n (k := 11) rfl rfl ?_
        refine zaload_n (k := 12) rfl rfl ?_
        refine zgF 21 (k := 13) rfl ob_289 fl_12_75 rfl fx_289_21 ?_
        refine zaload_n (k := 14) rfl rfl ?_
        refine zgI 13 (k := 15) rfl ob_289 fl_12_51 rfl fx_289_13 ?_
        rw [hb]
        refine ziaload (k := 16) rfl ar_298 ⟨by omega, by omega⟩ ?_
        rw [h0_q.2.1.1.2.2.1]
        refine zicmp_ge (k := 17) rfl rfl (fun c2_q => ?_) (fun c2_q => ?_)
        · skip
          obtain ⟨B, hB⟩ : ∃ B : Int, B = (sebN (Wm 7) (σ 332) (σ 333) (σ 289 67).toNat (Wm 0 3).toNat) := ⟨_, rfl⟩
          have b64_q := seb_63 (Wm 7) (σ 332) (σ 333) (σ 289 67).toNat (j := (Wm 0 3).toNat) (n := Wm 0 3) (by omega) w3_q.2
          have bbb := sebN_b (Wm 7) (σ 332) (σ 333) (σ 289 67).toNat (Wm 0 3).toNat
          rw [show j = (Wm 0 3).toNat by omega]
          rw [← hB] at hQ b64_q bbb ⊢
          have hcn := cnt_bcn (n := (Wm 0 3).toNat) (by omega) bbb
          refine ziload_n (k := 32) rfl rfl ?_
          refine zif_ne (k := 33) rfl rfl (fun c3_q => ?_) (fun c3_q => ?_)
          · skip
            refine ziconst (k := 36) rfl (by decide) ?_
            refine zistore_n (k := 37) (ls' := [_, _, _, _, _, _, _, _]) rfl (Nat.le_of_ble_eq_true rfl) rfl ?_
            refine zldcw (k := 38) (z := 100000000) rfl kc_12_404 rfl ?_
            refine zistore (k := 39) (ls' := [_, _, _, _, _, _, _, _]) rfl (Nat.le_of_ble_eq_true rfl) rfl ?_
            refine ziconst (k := 40) rfl (by decide) ?_
            refine zistore (k := 41) (ls' := [_, _, _, _, _, _, _, _]) rfl (Nat.le_of_ble_eq_true rfl) rfl ?_
            have lp68_q : ∀ (g : Nat) (s : Nat), (6 - s) < g → (s ≤ 6) → (B = 0 → s = 0) → zV Γ m_M_who 3 0 0 Q (GM L) (0, 0) 68 [some (zR 289), some (zI t), some (zI B), some (zI (tlM (Wm 7) (Wm 0 3).toNat B s).1), some (zI (tlM (Wm 7) (Wm 0 3).toNat B s).2), some (zI s), none, none] [] σ := by
              intro g
              induction g with
              | zero => intro s hg; exact absurd hg (Nat.not_lt_zero _)
              | succ g ih68_q =>
                intro s hg hs hz
                have tb := tlM_b (sg := Wm 7) (n := (Wm 0 3).toNat) (b := B) (by omega) s hs
                refine ziload (k := 42) rfl rfl ?_
                refine zbipush (k := 43) rfl rfl ?_
                refine zicmp_ge (k := 44) rfl rfl (fun c4_q => ?_) (fun c4_q => ?_)
                · skip
                  refine ziload_n (k := 99) rfl rfl ?_
                  refine ziconst (k := 100) rfl (by decide) ?_
                  refine zicmp_eq (k := 101) rfl rfl (fun c5_q => ?_) (fun c5_q => ?_)
                  · skip
                    refine ziload_n (k := 105) rfl rfl ?_
                    refine zgoto (k := 106) rfl rfl ?_
                    refine zireturn (k := 108) rfl rfl rfl ?_
                    rw [← hQ]
                    refine ⟨?_, rfl, rfl⟩
                    unfold whoQ telQ
                    rw [if_neg (by omega)]
                    have et : t = 1 ∨ t = 2 := by omega
                    have tn := telN_b (Wm 7) (Wm 0 3).toNat B 5
                    rcases et with et | et
                    · rw [if_pos et]
                      by_cases hB0 : B = 0
                      · have hs0_q := hz hB0
                        subst hs0_q
                        rw [if_pos hB0]
                        first
                        | rfl
                        | (exfalso; exact absurd (show (tlM (Wm 7) (Wm 0 3).toNat B 0).1 = -1 from rfl) (by assumption))
                        | (exfalso; omega)
                      · have hs6_q : s = 6 := by omega
                        subst hs6_q
                        rw [if_neg hB0]
                        first
                        | rfl
                        | (exfalso; omega)
                    · rw [if_neg (by omega), if_pos et]
                      by_cases hB0 : B = 0
                      · have hs0_q := hz hB0
                        subst hs0_q
                        rw [if_pos hB0]
                        first
                        | rfl
                        | (exfalso; exact absurd (show (tlM (Wm 7) (Wm 0 3).toNat B 0).1 = -1 from rfl) (by assumption))
                        | (exfalso; omega)
                      · have hs6_q : s = 6 := by omega
                        subst hs6_q
                        rw [if_neg hB0]
                        have e1_q : (tlM (Wm 7) (Wm 0 3).toNat B 6).1 = telN (Wm 7) (Wm 0 3).toNat B 5 := rfl
                        first
                        | rfl
                        | (exfalso; omega)
                  · skip
                    refine ziload_n (k := 102) rfl rfl ?_
                    refine ziconst (k := 103) rfl (by decide) ?_
                    refine zicmp_ne (k := 104) rfl rfl (fun c6_q => ?_) (fun c6_q => ?_)
                    · skip
                      refine ziload (k := 107) rfl rfl ?_
                      refine zireturn (k := 108) rfl rfl rfl ?_
                      rw [← hQ]
                      refine ⟨?_, rfl, rfl⟩
                      unfold whoQ telQ
                      rw [if_neg (by omega)]
                      have et : t = 1 ∨ t = 2 := by omega
                      have tn := telN_b (Wm 7) (Wm 0 3).toNat B 5
                      rcases et with et | et
                      · rw [if_pos et]
                        by_cases hB0 : B = 0
                        · have hs0_q := hz hB0
                          subst hs0_q
                          rw [if_pos hB0]
                          first
                          | rfl
                          | (exfalso; exact absurd (show (tlM (Wm 7) (Wm 0 3).toNat B 0).1 = -1 from rfl) (by assumption))
                          | (exfalso; omega)
                        · have hs6_q : s = 6 := by omega
                          subst hs6_q
                          rw [if_neg hB0]
                          first
                          | rfl
                          | (exfalso; omega)
                      · rw [if_neg (by omega), if_pos et]
                        by_cases hB0 : B = 0
                        · have hs0_q := hz hB0
                          subst hs0_q
                          rw [if_pos hB0]
                          first
                          | rfl
                          | (exfalso; exact absurd (show (tlM (Wm 7) (Wm 0 3).toNat B 0).1 = -1 from rfl) (by assumption))
                          | (exfalso; omega)
                        · have hs6_q : s = 6 := by omega
                          subst hs6_q
                          rw [if_neg hB0]
                          have e1_q : (tlM (Wm 7) (Wm 0 3).toNat B 6).1 = telN (Wm 7) (Wm 0 3).toNat B 5 := rfl
                          first
                          | rfl
                          | (exfalso; omega)
                    · skip
                      refine ziload_n (k := 105) rfl rfl ?_
                      refine zgoto (k := 106) rfl rfl ?_
                      refine zireturn (k := 108) rfl rfl rfl ?_
                      rw [← hQ]
                      refine ⟨?_, rfl, rfl⟩
                      unfold whoQ telQ
                      rw [if_neg (by omega)]
                      have et : t = 1 ∨ t = 2 := by omega
                      have tn := telN_b (Wm 7) (Wm 0 3).toNat B 5
                      rcases et with et | et
                      · rw [if_pos et]
                        by_cases hB0 : B = 0
                        · have hs0_q := hz hB0
                          subst hs0_q
                          rw [if_pos hB0]
                          first
                          | rfl
                          | (exfalso; exact absurd (show (tlM (Wm 7) (Wm 0 3).toNat B 0).1 = -1 from rfl) (by assumption))
                          | (exfalso; omega)
                        · have hs6_q : s = 6 := by omega
                          subst hs6_q
                          rw [if_neg hB0]
                          first
                          | rfl
                          | (exfalso; omega)
                      · rw [if_neg (by omega), if_pos et]
                        by_cases hB0 : B = 0
                        · have hs0_q := hz hB0
                          subst hs0_q
                          rw [if_pos hB0]
                          first
                          | rfl
                          | (exfalso; exact absurd (show (tlM (Wm 7) (Wm 0 3).toNat B 0).1 = -1 from rfl) (by assumption))
                          | (exfalso; omega)
                        · have hs6_q : s = 6 := by omega
                          subst hs6_q
                          rw [if_neg hB0]
                          have e1_q : (tlM (Wm 7) (Wm 0 3).toNat B 6).1 = telN (Wm 7) (Wm 0 3).toNat B 5 := rfl
                          first
                          | rfl
                          | (exfalso; omega)
                · skip
                  refine ziload_n (k := 45) rfl rfl ?_
                  refine zif_eq (k := 46) rfl rfl (fun c7_q => ?_) (fun c7_q => ?_)
                  · skip
                    refine ziload_n (k := 99) rfl rfl ?_
                    refine ziconst (k := 100) rfl (by decide) ?_
                    refine zicmp_eq (k := 101) rfl rfl (fun c8_q => ?_) (fun c8_q => ?_)
                    · skip
                      refine ziload_n (k := 105) rfl rfl ?_
                      refine zgoto (k := 106) rfl rfl ?_
                      refine zireturn (k := 108) rfl rfl rfl ?_
                      rw [← hQ]
                      refine ⟨?_, rfl, rfl⟩
                      unfold whoQ telQ
                      rw [if_neg (by omega)]
                      have et : t = 1 ∨ t = 2 := by omega
                      have tn := telN_b (Wm 7) (Wm 0 3).toNat B 5
                      rcases et with et | et
                      · rw [if_pos et]
                        by_cases hB0 : B = 0
                        · have hs0_q := hz hB0
                          subst hs0_q
                          rw [if_pos hB0]
                          first
                          | rfl
                          | (exfalso; exact absurd (show (tlM (Wm 7) (Wm 0 3).toNat B 0).1 = -1 from rfl) (by assumption))
                          | (exfalso; omega)
                        · have hs6_q : s = 6 := by omega
                          subst hs6_q
                          rw [if_neg hB0]
                          first
                          | rfl
                          | (exfalso; omega)
                      · rw [if_neg (by omega), if_pos et]
                        by_cases hB0 : B = 0
                        · have hs0_q := hz hB0
                          subst hs0_q
                          rw [if_pos hB0]
                          first
                          | rfl
                          | (exfalso; exact absurd (show (tlM (Wm 7) (Wm 0 3).toNat B 0).1 = -1 from rfl) (by assumption))
                          | (exfalso; omega)
                        · have hs6_q : s = 6 := by omega
                          subst hs6_q
                          rw [if_neg hB0]
                          have e1_q : (tlM (Wm 7) (Wm 0 3).toNat B 6).1 = telN (Wm 7) (Wm 0 3).toNat B 5 := rfl
                          first
                          | rfl
                          | (exfalso; omega)
                    · skip
                      refine ziload_n (k := 102) rfl rfl ?_
                      refine ziconst (k := 103) rfl (by decide) ?_
                      refine zicmp_ne (k := 104) rfl rfl (fun c9_q => ?_) (fun c9_q => ?_)
                      · skip
                        refine ziload (k := 107) rfl rfl ?_
                        refine zireturn (k := 108) rfl rfl rfl ?_
                        rw [← hQ]
                        refine ⟨?_, rfl, rfl⟩
                        unfold whoQ telQ
                        rw [if_neg (by omega)]
                        have et : t = 1 ∨ t = 2 := by omega
                        have tn := telN_b (Wm 7) (Wm 0 3).toNat B 5
                        rcases et with et | et
                        · rw [if_pos et]
                          by_cases hB0 : B = 0
                          · have hs0_q := hz hB0
                            subst hs0_q
                            rw [if_pos hB0]
                            first
                            | rfl
                            | (exfalso; exact absurd (show (tlM (Wm 7) (Wm 0 3).toNat B 0).1 = -1 from rfl) (by assumption))
                            | (exfalso; omega)
                          · have hs6_q : s = 6 := by omega
                            subst hs6_q
                            rw [if_neg hB0]
                            first
                            | rfl
                            | (exfalso; omega)
                        · rw [if_neg (by omega), if_pos et]
                          by_cases hB0 : B = 0
                          · have hs0_q := hz hB0
                            subst hs0_q
                            rw [if_pos hB0]
                            first
                            | rfl
                            | (exfalso; exact absurd (show (tlM (Wm 7) (Wm 0 3).toNat B 0).1 = -1 from rfl) (by assumption))
                            | (exfalso; omega)
                          · have hs6_q : s = 6 := by omega
                            subst hs6_q
                            rw [if_neg hB0]
                            have e1_q : (tlM (Wm 7) (Wm 0 3).toNat B 6).1 = telN (Wm 7) (Wm 0 3).toNat B 5 := rfl
                            first
                            | rfl
                            | (exfalso; omega)
                      · skip
                        refine ziload_n (k := 105) rfl rfl ?_
                        refine zgoto (k := 106) rfl rfl ?_
                        refine zireturn (k := 108) rfl rfl rfl ?_
                        rw [← hQ]
                        refine ⟨?_, rfl, rfl⟩
                        unfold whoQ telQ
                        rw [if_neg (by omega)]
                        have et : t = 1 ∨ t = 2 := by omega
                        have tn := telN_b (Wm 7) (Wm 0 3).toNat B 5
                        rcases et with et | et
                        · rw [if_pos et]
                          by_cases hB0 : B = 0
                          · have hs0_q := hz hB0
                            subst hs0_q
                            rw [if_pos hB0]
                            first
                            | rfl
                            | (exfalso; exact absurd (show (tlM (Wm 7) (Wm 0 3).toNat B 0).1 = -1 from rfl) (by assumption))
                            | (exfalso; omega)
                          · have hs6_q : s = 6 := by omega
                            subst hs6_q
                            rw [if_neg hB0]
                            first
                            | rfl
                            | (exfalso; omega)
                        · rw [if_neg (by omega), if_pos et]
                          by_cases hB0 : B = 0
                          · have hs0_q := hz hB0
                            subst hs0_q
                            rw [if_pos hB0]
                            first
                            | rfl
                            | (exfalso; exact absurd (show (tlM (Wm 7) (Wm 0 3).toNat B 0).1 = -1 from rfl) (by assumption))
                            | (exfalso; omega)
                          · have hs6_q : s = 6 := by omega
                            subst hs6_q
                            rw [if_neg hB0]
                            have e1_q : (tlM (Wm 7) (Wm 0 3).toNat B 6).1 = telN (Wm 7) (Wm 0 3).toNat B 5 := rfl
                            first
                            | rfl
                            | (exfalso; omega)
                  · skip
                    refine ziconst (k := 47) rfl (by decide) ?_
                    refine zistore (k := 48) (ls' := [_, _, _, _, _, _, _, _]) rfl (Nat.le_of_ble_eq_true rfl) rfl ?_
                    refine ziconst (k := 49) rfl (by decide) ?_
                    refine zistore (k := 50) (ls' := [_, _, _, _, _, _, _, _]) rfl (Nat.le_of_ble_eq_true rfl) rfl ?_
                    have lp85_q : ∀ (g : Nat) (i : Nat), ((Wm 0 3).toNat - i) < g → ((i : Int) ≤ Wm 0 3) → zV Γ m_M_who 3 0 0 Q (GM L) (0, 0) 85 [some (zR 289), some (zI t), some (zI B), some (zI (tlM (Wm 7) (Wm 0 3).toNat B s).1), some (zI (tlM (Wm 7) (Wm 0 3).toNat B s).2), some (zI s), some (zI (mlH (Wm 7) B s i)), some (zI i)] [] σ := by
                      intro g
                      induction g with
                      | zero => intro i hg; exact absurd hg (Nat.not_lt_zero _)
                      | succ g ih85_q =>
                        intro i hg hi
                        have mb := ml_b (Wm 7) B s i
                        refine ziload (k := 51) rfl rfl ?_
                        refine zaload_n (k := 52) rfl rfl ?_
                        refine zgF 21 (k := 53) rfl ob_289 fl_12_75 rfl fx_289_21 ?_
                        refine zaload_n (k := 54) rfl rfl ?_
                        refine zgI 13 (k := 55) rfl ob_289 fl_12_51 rfl fx_289_13 ?_
                        rw [hb]
                        refine ziaload (k := 56) rfl ar_298 ⟨by omega, by omega⟩ ?_
                        rw [h0_q.2.1.1.2.2.1]
                        refine zicmp_ge (k := 57) rfl rfl (fun c10_q => ?_) (fun c10_q => ?_)
                        · skip
                          have bm2_q := ml_b (Wm 7) B s (Wm 0 3).toNat
                          have cm2_q := cnt_ml (Wm 7) B s (Wm 0 3).toNat
                          have qm2_q : mlQ (Wm 7) (Wm 0 3).toNat B s = max (mlH (Wm 7) B s (Wm 0 3).toNat) (mlL (Wm 7) B s (Wm 0 3).toNat) := if_neg (by omega)
                          rw [show i = (Wm 0 3).toNat by omega]
                          refine ziload (k := 76) rfl rfl ?_
                          refine ziload_n (k := 77) rfl rfl ?_
                          refine zfS1 (k := 78) rfl (c_M_bits (by omega)) fm_M_bits lk_12_510 rfl rfl (Nat.le_of_ble_eq_true rfl) (by decide) ⟨by decide, by decide⟩ ?_
                          refine ziload (k := 79) rfl rfl ?_
                          refine zisubB (k := 80) rfl (by omega) ?_
                          refine zicmp_le (k := 81) rfl rfl (fun c11_q => ?_) (fun c11_q => ?_)
                          · skip
                            refine ziload_n (k := 84) rfl rfl ?_
                            refine zfS1 (k := 85) rfl (c_M_bits (by omega)) fm_M_bits lk_12_510 rfl rfl (Nat.le_of_ble_eq_true rfl) (by decide) ⟨by decide, by decide⟩ ?_
                            refine ziload (k := 86) rfl rfl ?_
                            refine zisubB (k := 87) rfl (by omega) ?_
                            refine zistore (k := 88) (ls' := [_, _, _, _, _, _, _, _]) rfl (Nat.le_of_ble_eq_true rfl) rfl ?_
                            first
                            | rw [show mlH (Wm 7) B s (Wm 0 3).toNat = mlQ (Wm 7) (Wm 0 3).toNat B s by omega]
                            | rw [show bcn B - mlH (Wm 7) B s (Wm 0 3).toNat = mlQ (Wm 7) (Wm 0 3).toNat B s by omega]
                            refine ziload (k := 89) rfl rfl ?_
                            refine ziload (k := 90) rfl rfl ?_
                            refine zicmp_lt (k := 91) rfl rfl (fun c12_q => ?_) (fun c12_q => ?_)
                            · skip
                              refine ziload (k := 93) rfl rfl ?_
                              refine zistore (k := 94) (ls' := [_, _, _, _, _, _, _, _]) rfl (Nat.le_of_ble_eq_true rfl) rfl ?_
                              refine ziload (k := 95) rfl rfl ?_
                              refine zistore_n (k := 96) (ls' := [_, _, _, _, _, _, _, _]) rfl (Nat.le_of_ble_eq_true rfl) rfl ?_
                              refine ziincB (k := 97) (ls' := [_, _, _, _, _, _, _, _]) rfl rfl (by decide) (by omega) rfl ?_
                              refine zgoto (k := 98) rfl rfl ?_
                              refine zforget (ls' := [_, _, _, _, _, _, _, _]) 6 rfl ?_
                              refine zforget (ls' := [_, _, _, _, _, _, _, _]) 7 rfl ?_
                              first
                              | (have en : tlM (Wm 7) (Wm 0 3).toNat B (s + 1) = ((s : Int), mlQ (Wm 7) (Wm 0 3).toNat B s) := by rw [tlM_s (by omega)]; exact if_pos (by omega)
                                 have r := ih68_q (s + 1) (by omega) (by omega) (fun q => by omega)
                                 rw [en] at r
                                 exact r)
                              | (have en : tlM (Wm 7) (Wm 0 3).toNat B (s + 1) = tlM (Wm 7) (Wm 0 3).toNat B s := by rw [tlM_s (by omega)]; exact if_neg (by omega)
                                 have r := ih68_q (s + 1) (by omega) (by omega) (fun q => by omega)
                                 rw [en] at r
                                 exact r)
                            · skip
                              refine zgoto (k := 92) rfl rfl ?_
                              refine ziincB (k := 97) (ls' := [_, _, _, _, _, _, _, _]) rfl rfl (by decide) (by omega) rfl ?_
                              refine zgoto (k := 98) rfl rfl ?_
                              refine zforget (ls' := [_, _, _, _, _, _, _, _]) 6 rfl ?_
                              refine zforget (ls' := [_, _, _, _, _, _, _, _]) 7 rfl ?_
                              first
                              | (have en : tlM (Wm 7) (Wm 0 3).toNat B (s + 1) = ((s : Int), mlQ (Wm 7) (Wm 0 3).toNat B s) := by rw [tlM_s (by omega)]; exact if_pos (by omega)
                                 have r := ih68_q (s + 1) (by omega) (by omega) (fun q => by omega)
                                 rw [en] at r
                                 exact r)
                              | (have en : tlM (Wm 7) (Wm 0 3).toNat B (s + 1) = tlM (Wm 7) (Wm 0 3).toNat B s := by rw [tlM_s (by omega)]; exact if_neg (by omega)
                                 have r := ih68_q (s + 1) (by omega) (by omega) (fun q => by omega)
                                 rw [en] at r
                                 exact r)
                          · skip
                            refine ziload (k := 82) rfl rfl ?_
                            refine zgoto (k := 83) rfl rfl ?_
                            refine zistore (k := 88) (ls' := [_, _, _, _, _, _, _, _]) rfl (Nat.le_of_ble_eq_true rfl) rfl ?_
                            first
                            | rw [show mlH (Wm 7) B s (Wm 0 3).toNat = mlQ (Wm 7) (Wm 0 3).toNat B s by omega]
                            | rw [show bcn B - mlH (Wm 7) B s (Wm 0 3).toNat = mlQ (Wm 7) (Wm 0 3).toNat B s by omega]
                            refine ziload (k := 89) rfl rfl ?_
                            refine ziload (k := 90) rfl rfl ?_
                            refine zicmp_lt (k := 91) rfl rfl (fun c13_q => ?_) (fun c13_q => ?_)
                            · skip
                              refine ziload (k := 93) rfl rfl ?_
                              refine zistore (k := 94) (ls' := [_, _, _, _, _, _, _, _]) rfl (Nat.le_of_ble_eq_true rfl) rfl ?_
                              refine ziload (k := 95) rfl rfl ?_
                              refine zistore_n (k := 96) (ls' := [_, _, _, _, _, _, _, _]) rfl (Nat.le_of_ble_eq_true rfl) rfl ?_
                              refine ziincB (k := 97) (ls' := [_, _, _, _, _, _, _, _]) rfl rfl (by decide) (by omega) rfl ?_
                              refine zgoto (k := 98) rfl rfl ?_
                              refine zforget (ls' := [_, _, _, _, _, _, _, _]) 6 rfl ?_
                              refine zforget (ls' := [_, _, _, _, _, _, _, _]) 7 rfl ?_
                              first
                              | (have en : tlM (Wm 7) (Wm 0 3).toNat B (s + 1) = ((s : Int), mlQ (Wm 7) (Wm 0 3).toNat B s) := by rw [tlM_s (by omega)]; exact if_pos (by omega)
                                 have r := ih68_q (s + 1) (by omega) (by omega) (fun q => by omega)
                                 rw [en] at r
                                 exact r)
                              | (have en : tlM (Wm 7) (Wm 0 3).toNat B (s + 1) = tlM (Wm 7) (Wm 0 3).toNat B s := by rw [tlM_s (by omega)]; exact if_neg (by omega)
                                 have r := ih68_q (s + 1) (by omega) (by omega) (fun q => by omega)
                                 rw [en] at r
                                 exact r)
                            · skip
                              refine zgoto (k := 92) rfl rfl ?_
                              refine ziincB (k := 97) (ls' := [_, _, _, _, _, _, _, _]) rfl rfl (by decide) (by omega) rfl ?_
                              refine zgoto (k := 98) rfl rfl ?_
                              refine zforget (ls' := [_, _, _, _, _, _, _, _]) 6 rfl ?_
                              refine zforget (ls' := [_, _, _, _, _, _, _, _]) 7 rfl ?_
                              first
                              | (have en : tlM (Wm 7) (Wm 0 3).toNat B (s + 1) = ((s : Int), mlQ (Wm 7) (Wm 0 3).toNat B s) := by rw [tlM_s (by omega)]; exact if_pos (by omega)
                                 have r := ih68_q (s + 1) (by omega) (by omega) (fun q => by omega)
                                 rw [en] at r
                                 exact r)
                              | (have en : tlM (Wm 7) (Wm 0 3).toNat B (s + 1) = tlM (Wm 7) (Wm 0 3).toNat B s := by rw [tlM_s (by omega)]; exact if_neg (by omega)
                                 have r := ih68_q (s + 1) (by omega) (by omega) (fun q => by omega)
                                 rw [en] at r
                                 exact r)
                        · skip
                          refine ziload (k := 58) rfl rfl ?_
                          refine ziload_n (k := 59) rfl rfl ?_
                          refine ziload (k := 60) rfl rfl ?_
                          refine zfS1 (k := 61) rfl (c_M_has2 (by omega)) fm_M_has2 lk_12_357 rfl rfl (Nat.le_of_ble_eq_true rfl) (by decide) ⟨by decide, by decide⟩ ?_
                          refine zif_eq (k := 62) rfl rfl (fun c14_q => ?_) (fun c14_q => ?_)
                          · skip
                            refine ziconst (k := 71) rfl (by decide) ?_
                            refine ziaddB (k := 72) rfl (by omega) ?_
                            first
                            | rw [show mlH (Wm 7) B s i + zshr (Wm 7 i) s % 2 = mlH (Wm 7) B s (i + 1) from (if_pos (by omega)).symm]
                            | rw [show mlH (Wm 7) B s i + 0 = mlH (Wm 7) B s (i + 1) from by rw [Int.add_zero]; exact (if_neg (by omega)).symm]
                            refine zistore (k := 73) (ls' := [_, _, _, _, _, _, _, _]) rfl (Nat.le_of_ble_eq_true rfl) rfl ?_
                            refine ziincB (k := 74) (ls' := [_, _, _, _, _, _, _, _]) rfl rfl (by decide) (by omega) rfl ?_
                            refine zgoto (k := 75) rfl rfl ?_
                            exact ih85_q (i + 1) (by omega) (by omega)
                          · skip
                            refine zaload_n (k := 63) rfl rfl ?_
                            refine ziload (k := 64) rfl rfl ?_
                            refine zfV1 (k := 65) rfl (c_M_signs hb hb1_q (by omega)) fm_M_signs lk_12_459 rfl rfl ob_289 ⟨_, rfl, rfl⟩ (Nat.le_of_ble_eq_true rfl) (by decide) ⟨by decide, by decide⟩ ?_
                            rw [(h0_q.2.1.2.2.1 i (by omega) (by omega)).2.1]
                            refine ziload (k := 66) rfl rfl ?_
                            refine zishr (k := 67) rfl ?_
                            refine ziconst (k := 68) rfl (by decide) ?_
                            refine ziandM (k := 69) 1 rfl (by decide) rfl 2 rfl ?_
                            refine zgoto (k := 70) rfl rfl ?_
                            refine ziaddB (k := 72) rfl (by omega) ?_
                            first
                            | rw [show mlH (Wm 7) B s i + zshr (Wm 7 i) s % 2 = mlH (Wm 7) B s (i + 1) from (if_pos (by omega)).symm]
                            | rw [show mlH (Wm 7) B s i + 0 = mlH (Wm 7) B s (i + 1) from by rw [Int.add_zero]; exact (if_neg (by omega)).symm]
                            refine zistore (k := 73) (ls' := [_, _, _, _, _, _, _, _]) rfl (Nat.le_of_ble_eq_true rfl) rfl ?_
                            refine ziincB (k := 74) (ls' := [_, _, _, _, _, _, _, _]) rfl rfl (by decide) (by omega) rfl ?_
                            refine zgoto (k := 75) rfl rfl ?_
                            exact ih85_q (i + 1) (by omega) (by omega)
                    exact lp85_q _ 0 (Nat.lt_succ_self _) (by omega)
            exact lp68_q _ 0 (Nat.lt_succ_self _) (by omega) (fun _ => rfl)
          · skip
            refine ziload_n (k := 34) rfl rfl ?_
            refine zireturn (k := 35) rfl rfl rfl ?_
            rw [← hQ]
            exact ⟨by unfold whoQ; rw [if_pos (by omega)], rfl, rfl⟩
        · skip
          refine ziload_n (k := 18) rfl rfl ?_
          refine zaload_n (k := 19) rfl rfl ?_
          refine ziload_n (k := 20) rfl rfl ?_
          refine zfV1 (k := 21) rfl (c_M_isSeen hb1_q h0_q hSI hWI hsn ⟨by omega, by omega⟩) fm_M_isSeen lk_12_519 rfl rfl ob_289 ⟨_, rfl, rfl⟩ (Nat.le_of_ble_eq_true rfl) (by decide) ⟨by decide, by decide⟩ ?_
          refine zif_eq (k := 22) rfl rfl (fun c15_q => ?_) (fun c15_q => ?_)
          · skip
            refine ziconst (k := 27) rfl (by decide) ?_
            refine zior (k := 28) rfl ?_
            first
            | (have kt := zB_t (by assumption)
               rw [zor_bit (by omega) (sebN_b (Wm 7) (σ 332) (σ 333) (σ 289 67).toNat j), show (sebN (Wm 7) (σ 332) (σ 333) (σ 289 67).toNat j) + 2 ^ j = (sebN (Wm 7) (σ 332) (σ 333) (σ 289 67).toNat (j + 1)) from (if_pos kt).symm])
            | (have kt := zB_f (by assumption)
               rw [zor_0 (seb_63 (Wm 7) (σ 332) (σ 333) (σ 289 67).toNat hj w3_q.2), show (sebN (Wm 7) (σ 332) (σ 333) (σ 289 67).toNat j) = (sebN (Wm 7) (σ 332) (σ 333) (σ 289 67).toNat (j + 1)) from (if_neg kt).symm])
            refine zistore_n (k := 29) (ls' := [_, _, _, _, _, _, _, _]) rfl (Nat.le_of_ble_eq_true rfl) rfl ?_
            refine ziincB (k := 30) (ls' := [_, _, _, _, _, _, _, _]) rfl rfl (by decide) (by omega) rfl ?_
            refine zgoto (k := 31) rfl rfl ?_
            exact ih15_q (j + 1) (by omega) (by omega)
          · skip
            refine ziconst (k := 23) rfl (by decide) ?_
            refine ziload_n (k := 24) rfl rfl ?_
            refine zishl (k := 25) rfl ?_
            refine zgoto (k := 26) rfl rfl ?_
            refine zior (k := 28) rfl ?_
            first
            | (have kt := zB_t (by assumption)
               rw [zor_bit (by omega) (sebN_b (Wm 7) (σ 332) (σ 333) (σ 289 67).toNat j), show (sebN (Wm 7) (σ 332) (σ 333) (σ 289 67).toNat j) + 2 ^ j = (sebN (Wm 7) (σ 332) (σ 333) (σ 289 67).toNat (j + 1)) from (if_pos kt).symm])
            | (have kt := zB_f (by assumption)
               rw [zor_0 (seb_63 (Wm 7) (σ 332) (σ 333) (σ 289 67).toNat hj w3_q.2), show (sebN (Wm 7) (σ 332) (σ 333) (σ 289 67).toNat j) = (sebN (Wm 7) (σ 332) (σ 333) (σ 289 67).toNat (j + 1)) from (if_neg kt).symm])
            refine zistore_n (k := 29) (ls' := [_, _, _, _, _, _, _, _]) rfl (Nat.le_of_ble_eq_true rfl) rfl ?_
            refine ziincB (k := 30) (ls' := [_, _, _, _, _, _, _, _]) rfl rfl (by decide) (by omega) rfl ?_
            refine zgoto (k := 31) rfl rfl ?_
            exact ih15_q (j + 1) (by omega) (by omega)
    exact lp15_q _ 0 (Nat.lt_succ_self _) (by omega)
  · skip
    refine ziconst (k := 5) rfl (by decide) ?_
    refine zireturn (k := 6) rfl rfl rfl ?_
    rw [← hQ]
    exact ⟨by unfold whoQ; rw [if_neg (by omega), if_neg (by omega), if_neg (by omega)], rfl, rfl⟩
