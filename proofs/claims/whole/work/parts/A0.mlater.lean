set_option maxHeartbeats 4000000 in
set_option maxRecDepth 20000 in
theorem c_M_later {Γ : zv_M} {L : Int} {σ Wm S : zv_H} {b : Int} (hb1 : b = 0 ∨ b = 1) (h0 : stM σ σ b 0 Wm S) (hSI : SI (Wm 0 1) (Wm 0 3) S) (hWI : WI Wm) {m n t : Int}  : zC Γ m_M_later 8 0 0 (GM L) [zR 289, zI m, zI n, zI t] σ (zPI (GM L) (fun z σ' => z = latQ Wm S m n t ∧ scrM σ σ')) := by
  refine zC_of (ls0 := [_, _, _, _, _]) zm_M_later (by decide) rfl (Nat.le_of_ble_eq_true rfl) ?_
  generalize hQ : (zPI (GM L) (fun z σ' => z = latQ Wm S m n t ∧ scrM σ σ')) = Q
  have hb := h0.2.2.1
  have w1 := hWI.1
  have w3 := hWI.2.2.1
  have r0 := rM_0 h0.1
  have b00 := hSI.1
  have b12 := hSI.2.2.1
  have bc := hSI.2.2.2.1
  have bm := hSI.2.2.2.2.1
  have bl := hSI.2.2.2.2.2.1
  refine zaload_n (k := 0) rfl rfl ?_
  refine ziload_n (k := 1) rfl rfl ?_
  refine zfV1 (k := 2) rfl (c_M_isMan hb hb1) fm_M_isMan lk_12_495 rfl rfl ob_289 ⟨_, rfl, rfl⟩ (Nat.le_of_ble_eq_true rfl) (by decide) ⟨by decide, by decide⟩ ?_
  rw [h0.2.1.1.2.2.1]
  refine zif_eq (k := 3) rfl rfl (fun c1 => ?_) (fun c1 => ?_)
  · skip
    refine ziconst (k := 15) rfl (by decide) ?_
    refine zireturn (k := 16) rfl rfl rfl ?_
    rw [← hQ]
    refine ⟨rfl, _, rfl, ?_, scrM_rf σ⟩
    unfold latQ
    rw [if_pos (by omega)]
  · skip
    have hmm : 0 ≤ m ∧ m < Wm 0 3 := by split at c1 <;> first | assumption | (exfalso; omega)
    have rm := r0.2.2.1 m hmm.1 hmm.2
    refine zaload_n (k := 4) rfl rfl ?_
    refine ziload_n (k := 5) rfl rfl ?_
    refine ziconst (k := 6) rfl (by decide) ?_
    refine zbipush (k := 7) rfl rfl ?_
    refine zfV1 (k := 8) rfl (c_M_isAh r0.1.1 b00 (by omega)) fm_M_isAhead lk_12_498 rfl rfl ob_289 ⟨_, rfl, rfl⟩ (Nat.le_of_ble_eq_true rfl) (by decide) ⟨by decide, by decide⟩ ?_
    refine zif_eq (k := 9) rfl rfl (fun c2 => ?_) (fun c2 => ?_)
    · skip
      refine ziconst (k := 15) rfl (by decide) ?_
      refine zireturn (k := 16) rfl rfl rfl ?_
      rw [← hQ]
      refine ⟨rfl, _, rfl, ?_, scrM_rf σ⟩
      unfold latQ
      rw [if_pos (by omega)]
    · skip
      have hnn : (0 ≤ n ∧ n ≤ 80) ∧ n ≤ 999 - S 0 0 := by split at c2 <;> first | assumption | (exfalso; omega)
      refine ziload_n (k := 10) rfl rfl ?_
      refine ziconst (k := 11) rfl (by decide) ?_
      refine ziconst (k := 12) rfl (by decide) ?_
      refine zfS1 (k := 13) rfl c_M_is fm_M_is lk_12_315 rfl rfl (Nat.le_of_ble_eq_true rfl) (by decide) ⟨by decide, by decide⟩ ?_
      refine zif_ne (k := 14) rfl rfl (fun c3 => ?_) (fun c3 => ?_)
      · skip
        have htt : 0 ≤ t ∧ t ≤ 3 := by split at c3 <;> first | assumption | (exfalso; omega)
        obtain ⟨N, rfl⟩ : ∃ N : Nat, n = N := ⟨n.toNat, by omega⟩
        refine zaload_n (k := 17) rfl rfl ?_
        refine ziconst (k := 18) rfl (by decide) ?_
        refine ziconst (k := 19) rfl (by decide) ?_
        refine zpV0 (k := 20) rfl (k_mcopy (t := 1) (f := 0) ⟨by omega, by omega⟩ ⟨by omega, by omega⟩ (by omega) h0.1 h0.2.1 hb hWI b12) fm_M_copies lk_12_420 rfl rfl ob_289 ⟨_, rfl, rfl⟩ (Nat.le_of_ble_eq_true rfl) (by decide) ⟨by decide, by decide⟩ (fun σ1 h1 => ?_)
        have h1e : stM (zup σ 289 62 (σ 289 62)) σ1 b 1 Wm S := by rw [zup_id rfl]; exact h1
        refine ziconst (k := 21) rfl (by decide) ?_
        refine zistore (k := 22) (ls' := [_, _, _, _, _]) rfl (Nat.le_of_ble_eq_true rfl) rfl ?_
        have lp39 : ∀ (g : Nat) (j : Nat) (e : Int) (σ1 : zv_H), (N - j) < g → (j ≤ N) → (stM (zup σ 289 62 e) σ1 b 1 Wm (gooF Wm S j).1) → zV Γ m_M_later 8 0 0 Q (GM L) (0, 0) 39 [some (zR 289), some (zI m), some (zI N), some (zI t), some (zI j)] [] σ1 := by
          intro g
          induction g with
          | zero => intro j e σ1 hg; exact absurd hg (Nat.not_lt_zero _)
          | succ g ih39 =>
            intro j e σ1 hg hj h0
            refine ziload (k := 23) rfl rfl ?_
            refine ziload_n (k := 24) rfl rfl ?_
            refine zicmp_ge (k := 25) rfl rfl (fun c4 => ?_) (fun c4 => ?_)
            · skip
              refine zbipush (k := 31) rfl rfl ?_
              refine ziload_n (k := 32) rfl rfl ?_
              refine ziaddB (k := 33) rfl (by omega) ?_
              refine zistore (k := 34) (ls' := [_, _, _, _, _]) rfl (Nat.le_of_ble_eq_true rfl) rfl ?_
              refine ziload_n (k := 35) rfl rfl ?_
              refine zif_ne (k := 36) rfl rfl (fun c5 => ?_) (fun c5 => ?_)
              · skip
                refine ziload_n (k := 42) rfl rfl ?_
                refine ziconst (k := 43) rfl (by decide) ?_
                refine zicmp_ne (k := 44) rfl rfl (fun c6 => ?_) (fun c6 => ?_)
                · skip
                  refine ziload_n (k := 50) rfl rfl ?_
                  refine ziconst (k := 51) rfl (by decide) ?_
                  refine zicmp_ne (k := 52) rfl rfl (fun c7 => ?_) (fun c7 => ?_)
                  · skip
                    refine zaload_n (k := 58) rfl rfl ?_
                    refine zgF 53 (k := 59) rfl ob_289 fl_12_174 rfl fx_289_53 ?_
                    refine ziload (k := 60) rfl rfl ?_
                    refine ziaload (k := 61) rfl ar_323 ⟨by omega, by omega⟩ ?_
                    first | rw [show (6 : Int) + m = 6 * 1 + m by omega, (h0.1.2.2.1 m hmm.1 hmm.2).2.2.2.2, show j = N by omega] | skip
                    refine zireturn (k := 62) rfl rfl rfl ?_
                    rw [← hQ]
                    refine ⟨rfl, _, rfl, ?_, scrM_st h0⟩
                    unfold latQ
                    rw [if_neg (by omega)]
                    first
                    | (rw [if_pos (by omega)]; rfl)
                    | (rw [if_neg (by omega), if_pos (by omega)]; rfl)
                    | (rw [if_neg (by omega), if_neg (by omega), if_pos (by omega)]; rfl)
                    | (rw [if_neg (by omega), if_neg (by omega), if_neg (by omega)]; rfl)
                  · skip
                    refine zaload_n (k := 53) rfl rfl ?_
                    refine zgF 52 (k := 54) rfl ob_289 fl_12_171 rfl fx_289_52 ?_
                    refine ziload (k := 55) rfl rfl ?_
                    refine ziaload (k := 56) rfl ar_322 ⟨by omega, by omega⟩ ?_
                    rw [show (6 : Int) + m = 6 * 1 + m by omega, (h0.1.2.2.1 m hmm.1 hmm.2).2.2.2.1, show j = N by omega]
                    refine zgoto (k := 57) rfl rfl ?_
                    first | rw [show (6 : Int) + m = 6 * 1 + m by omega, (h0.1.2.2.1 m hmm.1 hmm.2).2.2.2.2, show j = N by omega] | skip
                    refine zireturn (k := 62) rfl rfl rfl ?_
                    rw [← hQ]
                    refine ⟨rfl, _, rfl, ?_, scrM_st h0⟩
                    unfold latQ
                    rw [if_neg (by omega)]
                    first
                    | (rw [if_pos (by omega)]; rfl)
                    | (rw [if_neg (by omega), if_pos (by omega)]; rfl)
                    | (rw [if_neg (by omega), if_neg (by omega), if_pos (by omega)]; rfl)
                    | (rw [if_neg (by omega), if_neg (by omega), if_neg (by omega)]; rfl)
                · skip
                  refine zaload_n (k := 45) rfl rfl ?_
                  refine zgF 49 (k := 46) rfl ob_289 fl_12_162 rfl fx_289_49 ?_
                  refine ziload (k := 47) rfl rfl ?_
                  refine ziaload (k := 48) rfl ar_319 ⟨by omega, by omega⟩ ?_
                  rw [show (6 : Int) + m = 6 * 1 + m by omega, (h0.1.2.2.1 m hmm.1 hmm.2).1, show j = N by omega]
                  refine zgoto (k := 49) rfl rfl ?_
                  first | rw [show (6 : Int) + m = 6 * 1 + m by omega, (h0.1.2.2.1 m hmm.1 hmm.2).2.2.2.2, show j = N by omega] | skip
                  refine zireturn (k := 62) rfl rfl rfl ?_
                  rw [← hQ]
                  refine ⟨rfl, _, rfl, ?_, scrM_st h0⟩
                  unfold latQ
                  rw [if_neg (by omega)]
                  first
                  | (rw [if_pos (by omega)]; rfl)
                  | (rw [if_neg (by omega), if_pos (by omega)]; rfl)
                  | (rw [if_neg (by omega), if_neg (by omega), if_pos (by omega)]; rfl)
                  | (rw [if_neg (by omega), if_neg (by omega), if_neg (by omega)]; rfl)
              · skip
                refine zaload_n (k := 37) rfl rfl ?_
                refine zgF 50 (k := 38) rfl ob_289 fl_12_165 rfl fx_289_50 ?_
                refine ziload (k := 39) rfl rfl ?_
                refine ziaload (k := 40) rfl ar_320 ⟨by omega, by omega⟩ ?_
                rw [show (6 : Int) + m = 6 * 1 + m by omega, (h0.1.2.2.1 m hmm.1 hmm.2).2.1, show j = N by omega]
                refine zgoto (k := 41) rfl rfl ?_
                first | rw [show (6 : Int) + m = 6 * 1 + m by omega, (h0.1.2.2.1 m hmm.1 hmm.2).2.2.2.2, show j = N by omega] | skip
                refine zireturn (k := 62) rfl rfl rfl ?_
                rw [← hQ]
                refine ⟨rfl, _, rfl, ?_, scrM_st h0⟩
                unfold latQ
                rw [if_neg (by omega)]
                first
                | (rw [if_pos (by omega)]; rfl)
                | (rw [if_neg (by omega), if_pos (by omega)]; rfl)
                | (rw [if_neg (by omega), if_neg (by omega), if_pos (by omega)]; rfl)
                | (rw [if_neg (by omega), if_neg (by omega), if_neg (by omega)]; rfl)
            · skip
              refine zaload_n (k := 26) rfl rfl ?_
              refine ziconst (k := 27) rfl (by decide) ?_
              refine zpV0 (k := 28) rfl (c_M_passes hb1 ⟨by omega, by omega⟩ h0 (SI_goo hWI hSI j) hWI (by rw [goo_00 (by omega)]; omega)) fm_M_passes lk_12_501 rfl rfl ob_289 ⟨_, rfl, rfl⟩ (Nat.le_of_ble_eq_true rfl) (by decide) ⟨by decide, by decide⟩ (fun σ2 h2 => ?_)
              rw [zup_zup] at h2
              refine ziincB (k := 29) (ls' := [_, _, _, _, _]) rfl rfl (by decide) (by omega) rfl ?_
              refine zgoto (k := 30) rfl rfl ?_
              exact ih39 (j + 1) _ _ (by omega) (by omega) h2
        exact lp39 _ 0 _ _ (Nat.lt_succ_self _) (by omega) h1e
      · skip
        refine ziconst (k := 15) rfl (by decide) ?_
        refine zireturn (k := 16) rfl rfl rfl ?_
        rw [← hQ]
        refine ⟨rfl, _, rfl, ?_, scrM_rf σ⟩
        unfold latQ
        rw [if_pos (by omega)]
set_option maxHeartbeats 4000000 in
set_option maxRecDepth 20000 in
theorem c_M_caught {Γ : zv_M} {L : Int} {σ Wm S : zv_H} {b : Int} (hb1 : b = 0 ∨ b = 1) (h0 : stM σ σ b 0 Wm S) (hSI : SI (Wm 0 1) (Wm 0 3) S) (hWI : WI Wm) {m : Int}  : zC Γ m_M_caught 8 0 0 (GM L) [zR 289, zI m] σ (zPI (GM L) (fun z σ' => z = cauQ Wm S m ∧ scrM σ σ')) := by
  refine zC_of (ls0 := [_, _, _]) zm_M_caught (by decide) rfl (Nat.le_of_ble_eq_true rfl) ?_
  generalize hQ : (zPI (GM L) (fun z σ' => z = cauQ Wm S m ∧ scrM σ σ')) = Q
  have hb := h0.2.2.1
  have w1 := hWI.1
  have w3 := hWI.2.2.1
  have r0 := rM_0 h0.1
  have b00 := hSI.1
  have b12 := hSI.2.2.1
  have bc := hSI.2.2.2.1
  have bm := hSI.2.2.2.2.1
  have bl := hSI.2.2.2.2.2.1
  refine zaload_n (k := 0) rfl rfl ?_
  refine ziload_n (k := 1) rfl rfl ?_
  refine zfV1 (k := 2) rfl (c_M_isMan hb hb1) fm_M_isMan lk_12_495 rfl rfl ob_289 ⟨_, rfl, rfl⟩ (Nat.le_of_ble_eq_true rfl) (by decide) ⟨by decide, by decide⟩ ?_
  rw [h0.2.1.1.2.2.1]
  refine zif_ne (k := 3) rfl rfl (fun c1 => ?_) (fun c1 => ?_)
  · skip
    have hmm : 0 ≤ m ∧ m < Wm 0 3 := by split at c1 <;> first | assumption | (exfalso; omega)
    have rm := r0.2.2.1 m hmm.1 hmm.2
    refine zaload_n (k := 6) rfl rfl ?_
    refine ziconst (k := 7) rfl (by decide) ?_
    refine ziconst (k := 8) rfl (by decide) ?_
    refine zpV0 (k := 9) rfl (k_mcopy (t := 1) (f := 0) ⟨by omega, by omega⟩ ⟨by omega, by omega⟩ (by omega) h0.1 h0.2.1 hb hWI b12) fm_M_copies lk_12_420 rfl rfl ob_289 ⟨_, rfl, rfl⟩ (Nat.le_of_ble_eq_true rfl) (by decide) ⟨by decide, by decide⟩ (fun σ1 h1 => ?_)
    have h1e : stM (zup σ 289 62 (σ 289 62)) σ1 b 1 Wm S := by rw [zup_id rfl]; exact h1
    refine ziconst (k := 10) rfl (by decide) ?_
    refine zistore_n (k := 11) (ls' := [_, _, _]) rfl (Nat.le_of_ble_eq_true rfl) rfl ?_
    have lp18 : ∀ (g : Nat) (p : Nat → Bool) (hp : (fun j => decide ((gooF Wm S j).1 5 m = 3)) = p) (j : Nat) (e : Int) (σ1 : zv_H), (aheadN S + 1 - j) < g → (j ≤ aheadN S + 1) → (fnd p (aheadN S + 1) 0 = fnd p (aheadN S + 1 - j) j) → (scrM σ σ1) → (j ≤ aheadN S → stM (zup σ 289 62 e) σ1 b 1 Wm (gooF Wm S j).1) → zV Γ m_M_caught 8 0 0 Q (GM L) (0, 0) 18 [some (zR 289), some (zI m), some (zI j)] [] σ1 := by
      intro g
      induction g with
      | zero => intro p hp j e σ1 hg; exact absurd hg (Nat.not_lt_zero _)
      | succ g ih18 =>
        intro p hp j e σ1 hg hj hf hs h0
        have w15 := (scrM_15 hs).trans r0.1.1
        have aN : ((aheadN S : Nat) : Int) = min 80 (999 - S 0 0) := by unfold aheadN; omega
        refine zaload_n (k := 12) rfl rfl ?_
        refine ziload_n (k := 13) rfl rfl ?_
        refine ziconst (k := 14) rfl (by decide) ?_
        refine zbipush (k := 15) rfl rfl ?_
        refine zfV1 (k := 16) rfl (c_M_isAh w15 b00 (by omega)) fm_M_isAhead lk_12_498 rfl rfl ob_289 ⟨_, rfl, rfl⟩ (Nat.le_of_ble_eq_true rfl) (by decide) ⟨by decide, by decide⟩ ?_
        refine zif_eq (k := 17) rfl rfl (fun c2 => ?_) (fun c2 => ?_)
        · skip
          refine ziconst (k := 33) rfl (by decide) ?_
          refine zireturn (k := 34) rfl rfl rfl ?_
          rw [← hQ]
          refine ⟨rfl, _, rfl, ?_, hs⟩
          unfold cauQ
          rw [if_neg (by omega)]
          rw [hp, hf, show aheadN S + 1 - j = 0 by omega]
          rfl
        · skip
          have hj3 : j ≤ aheadN S := by omega
          have h0 := h0 hj3
          refine zaload_n (k := 18) rfl rfl ?_
          refine zgF 50 (k := 19) rfl ob_289 fl_12_165 rfl fx_289_50 ?_
          refine zbipush (k := 20) rfl rfl ?_
          refine ziload_n (k := 21) rfl rfl ?_
          refine ziaddB (k := 22) rfl (by omega) ?_
          refine ziaload (k := 23) rfl ar_320 ⟨by omega, by omega⟩ ?_
          rw [show (6 : Int) + m = 6 * 1 + m by omega, (h0.1.2.2.1 m hmm.1 hmm.2).2.1]
          refine ziconst (k := 24) rfl (by decide) ?_
          refine zicmp_ne (k := 25) rfl rfl (fun c3 => ?_) (fun c3 => ?_)
          · skip
            refine zaload_n (k := 28) rfl rfl ?_
            refine ziconst (k := 29) rfl (by decide) ?_
            refine zpV0 (k := 30) rfl (c_M_pass9 hb1 ⟨by omega, by omega⟩ h0 (SI_goo hWI hSI j) hWI) fm_M_passes lk_12_501 rfl rfl ob_289 ⟨_, rfl, rfl⟩ (Nat.le_of_ble_eq_true rfl) (by decide) ⟨by decide, by decide⟩ (fun σ2 h2 => ?_)
            rw [zup_zup] at h2
            refine ziincB (k := 31) (ls' := [_, _, _]) rfl rfl (by decide) (by omega) rfl ?_
            refine zgoto (k := 32) rfl rfl ?_
            have en : fnd p (aheadN S + 1) 0 = fnd p (aheadN S + 1 - (j + 1)) (j + 1) := by
              rw [hf, show aheadN S + 1 - j = aheadN S + 1 - (j + 1) + 1 by omega, fnd_s, if_neg (by rw [← hp]; simp only [decide_eq_true_eq]; assumption)]
            refine ih18 p hp (j + 1) ((pasF Wm (gooF Wm S j).1).2) _ (by omega) (by omega) en (scrM_st h2) (fun hj2 => ?_)
            rw [show (gooF Wm S (j + 1)).1 = (pasF Wm (gooF Wm S j).1).1 from rfl, pas_1 (by rw [goo_00 (by omega)]; omega)]
            exact h2
          · skip
            refine ziload_n (k := 26) rfl rfl ?_
            refine zireturn (k := 27) rfl rfl rfl ?_
            rw [← hQ]
            refine ⟨rfl, _, rfl, ?_, hs⟩
            unfold cauQ
            rw [if_neg (by omega)]
            rw [hp, hf, show aheadN S + 1 - j = aheadN S + 1 - (j + 1) + 1 by omega, fnd_s, if_pos (by rw [← hp]; simp only [decide_eq_true_eq]; assumption)]
    exact lp18 _ _ rfl 0 _ _ (Nat.lt_succ_self _) (by omega) rfl (scrM_s0 h1) (fun _ => h1e)
  · skip
    refine ziconst (k := 4) rfl (by decide) ?_
    refine zireturn (k := 5) rfl rfl rfl ?_
    rw [← hQ]
    refine ⟨rfl, _, rfl, ?_, scrM_rf σ⟩
    unfold cauQ
    rw [if_pos (by omega)]
set_option maxHeartbeats 4000000 in
set_option maxRecDepth 20000 in
theorem c_M_filled {Γ : zv_M} {L : Int} {σ Wm S : zv_H} {b : Int} (hb1 : b = 0 ∨ b = 1) (h0 : stM σ σ b 0 Wm S) (hSI : SI (Wm 0 1) (Wm 0 3) S) (hWI : WI Wm)  : zC Γ m_M_filled 8 0 0 (GM L) [zR 289] σ (zPI (GM L) (fun z σ' => z = filQ Wm S ∧ scrM σ σ')) := by
  refine zC_of (ls0 := [_, _]) zm_M_filled (by decide) rfl (Nat.le_of_ble_eq_true rfl) ?_
  generalize hQ : (zPI (GM L) (fun z σ' => z = filQ Wm S ∧ scrM σ σ')) = Q
  have hb := h0.2.2.1
  have w1 := hWI.1
  have w3 := hWI.2.2.1
  have r0 := rM_0 h0.1
  have b00 := hSI.1
  have b12 := hSI.2.2.1
  have bc := hSI.2.2.2.1
  have bm := hSI.2.2.2.2.1
  have bl := hSI.2.2.2.2.2.1
  refine zaload_n (k := 0) rfl rfl ?_
  refine ziconst (k := 1) rfl (by decide) ?_
  refine ziconst (k := 2) rfl (by decide) ?_
  refine zpV0 (k := 3) rfl (k_mcopy (t := 1) (f := 0) ⟨by omega, by omega⟩ ⟨by omega, by omega⟩ (by omega) h0.1 h0.2.1 hb hWI b12) fm_M_copies lk_12_420 rfl rfl ob_289 ⟨_, rfl, rfl⟩ (Nat.le_of_ble_eq_true rfl) (by decide) ⟨by decide, by decide⟩ (fun σ1 h1 => ?_)
  have h1e : stM (zup σ 289 62 (σ 289 62)) σ1 b 1 Wm S := by rw [zup_id rfl]; exact h1
  refine ziconst (k := 4) rfl (by decide) ?_
  refine zistore_n (k := 5) (ls' := [_, _]) rfl (Nat.le_of_ble_eq_true rfl) rfl ?_
  have lp8 : ∀ (g : Nat) (p : Nat → Bool) (hp : (fun j => decide (sumN ((gooF Wm S j).1 1) (Wm 0 1).toNat = 0)) = p) (j : Nat) (e : Int) (σ1 : zv_H), (aheadN S + 1 - j) < g → (j ≤ aheadN S + 1) → (fnd p (aheadN S + 1) 0 = fnd p (aheadN S + 1 - j) j) → (scrM σ σ1) → (j ≤ aheadN S → stM (zup σ 289 62 e) σ1 b 1 Wm (gooF Wm S j).1) → zV Γ m_M_filled 8 0 0 Q (GM L) (0, 0) 8 [some (zR 289), some (zI j)] [] σ1 := by
    intro g
    induction g with
    | zero => intro p hp j e σ1 hg; exact absurd hg (Nat.not_lt_zero _)
    | succ g ih8 =>
      intro p hp j e σ1 hg hj hf hs h0
      have w15 := (scrM_15 hs).trans r0.1.1
      have aN : ((aheadN S : Nat) : Int) = min 80 (999 - S 0 0) := by unfold aheadN; omega
      refine zaload_n (k := 6) rfl rfl ?_
      refine ziload_n (k := 7) rfl rfl ?_
      refine ziconst (k := 8) rfl (by decide) ?_
      refine zbipush (k := 9) rfl rfl ?_
      refine zfV1 (k := 10) rfl (c_M_isAh w15 b00 (by omega)) fm_M_isAhead lk_12_498 rfl rfl ob_289 ⟨_, rfl, rfl⟩ (Nat.le_of_ble_eq_true rfl) (by decide) ⟨by decide, by decide⟩ ?_
      refine zif_eq (k := 11) rfl rfl (fun c1 => ?_) (fun c1 => ?_)
      · skip
        refine ziconst (k := 23) rfl (by decide) ?_
        refine zireturn (k := 24) rfl rfl rfl ?_
        rw [← hQ]
        refine ⟨rfl, _, rfl, ?_, hs⟩
        unfold filQ
        skip
        rw [hp, hf, show aheadN S + 1 - j = 0 by omega]
        rfl
      · skip
        have hj3 : j ≤ aheadN S := by omega
        have h0 := h0 hj3
        refine zaload_n (k := 12) rfl rfl ?_
        refine ziconst (k := 13) rfl (by decide) ?_
        refine zfV1 (k := 14) rfl (c_M_quotas hb1 ⟨by omega, by omega⟩ h0 (SI_goo hWI hSI j) hWI) fm_M_quotas lk_12_484 rfl rfl ob_289 ⟨_, rfl, rfl⟩ (Nat.le_of_ble_eq_true rfl) (by decide) ⟨by decide, by decide⟩ ?_
        refine zif_ne (k := 15) rfl rfl (fun c2 => ?_) (fun c2 => ?_)
        · skip
          refine zaload_n (k := 18) rfl rfl ?_
          refine ziconst (k := 19) rfl (by decide) ?_
          refine zpV0 (k := 20) rfl (c_M_pass9 hb1 ⟨by omega, by omega⟩ h0 (SI_goo hWI hSI j) hWI) fm_M_passes lk_12_501 rfl rfl ob_289 ⟨_, rfl, rfl⟩ (Nat.le_of_ble_eq_true rfl) (by decide) ⟨by decide, by decide⟩ (fun σ2 h2 => ?_)
          rw [zup_zup] at h2
          refine ziincB (k := 21) (ls' := [_, _]) rfl rfl (by decide) (by omega) rfl ?_
          refine zgoto (k := 22) rfl rfl ?_
          have en : fnd p (aheadN S + 1) 0 = fnd p (aheadN S + 1 - (j + 1)) (j + 1) := by
            rw [hf, show aheadN S + 1 - j = aheadN S + 1 - (j + 1) + 1 by omega, fnd_s, if_neg (by rw [← hp]; simp only [decide_eq_true_eq]; assumption)]
          refine ih8 p hp (j + 1) ((pasF Wm (gooF Wm S j).1).2) _ (by omega) (by omega) en (scrM_st h2) (fun hj2 => ?_)
          rw [show (gooF Wm S (j + 1)).1 = (pasF Wm (gooF Wm S j).1).1 from rfl, pas_1 (by rw [goo_00 (by omega)]; omega)]
          exact h2
        · skip
          refine ziload_n (k := 16) rfl rfl ?_
          refine zireturn (k := 17) rfl rfl rfl ?_
          rw [← hQ]
          refine ⟨rfl, _, rfl, ?_, hs⟩
          unfold filQ
          skip
          rw [hp, hf, show aheadN S + 1 - j = aheadN S + 1 - (j + 1) + 1 by omega, fnd_s, if_pos (by rw [← hp]; simp only [decide_eq_true_eq]; assumption)]
  exact lp8 _ _ rfl 0 _ _ (Nat.lt_succ_self _) (by omega) rfl (scrM_s0 h1) (fun _ => h1e)
