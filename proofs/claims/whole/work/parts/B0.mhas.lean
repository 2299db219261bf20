set_option maxHeartbeats 4000000 in
set_option maxRecDepth 20000 in
theorem c_M_has {Γ : zv_M} {L : Int} {σ Wm S : zv_H} {b : Int} (hb1_q : b = 0 ∨ b = 1) (h0_q : stM σ σ b 0 Wm S) (hSI : SI (Wm 0 1) (Wm 0 3) S) (hWI : WI Wm) {t : Int} (hsd : 0 ≤ σ 289 59 ∧ σ 289 59 ≤ 2147483647)  : zC Γ m_M_has 3 0 0 (GM L) [zR 289, zI t] σ (zFn (some (zI (hasQ Wm S (σ 289 67) (σ 289 58) (σ 289 59) t))) (GM L) σ) := by
  refine zC_of (ls0 := [_, _, _, _]) zm_M_has (by decide) rfl (Nat.le_of_ble_eq_true rfl) ?_
  generalize hQ : (zFn (some (zI (hasQ Wm S (σ 289 67) (σ 289 58) (σ 289 59) t))) (GM L) σ) = Q
  have hb := h0_q.2.2.1
  have w1_q := hWI.1
  have w3_q := hWI.2.2.1
  have r0_q := rM_0 h0_q.1
  have b00_q := hSI.1
  have b12_q := hSI.2.2.1
  have bc := hSI.2.2.2.1
  have bm := hSI.2.2.2.2.1
  have bl := hSI.2.2.2.2.2.1
  refine ziconst (k := 0) rfl (by decide) ?_
  refine zistore_n (k := 1) (ls' := [_, _, _, _]) rfl (Nat.le_of_ble_eq_true rfl) rfl ?_
  refine ziload_n (k := 2) rfl rfl ?_
  refine ztabC (k := 3) (v := 0) 0 rfl rfl (by decide) rfl rfl (fun c1_q => ?_) (fun c1_q => ?_)
  · skip
    refine zaload_n (k := 4) rfl rfl ?_
    refine zgF 14 (k := 5) rfl ob_289 fl_12_54 rfl fx_289_14 ?_
    refine zaload_n (k := 6) rfl rfl ?_
    refine zgI 13 (k := 7) rfl ob_289 fl_12_51 rfl fx_289_13 ?_
    rw [hb]
    refine ziaload (k := 8) rfl ar_291 ⟨by omega, by omega⟩ ?_
    rw [h0_q.2.1.1.1]
    refine zireturn (k := 9) rfl rfl rfl ?_
    rw [← hQ]
    exact ⟨by rw [show t = 0 by assumption]; rfl, rfl, rfl⟩
  refine ztabC (k := 3) (v := 1) 1 rfl rfl (by decide) rfl rfl (fun c2_q => ?_) (fun c2_q => ?_)
  · skip
    refine zaload_n (k := 10) rfl rfl ?_
    refine zgF 18 (k := 11) rfl ob_289 fl_12_66 rfl fx_289_18 ?_
    refine zaload_n (k := 12) rfl rfl ?_
    refine zgI 13 (k := 13) rfl ob_289 fl_12_51 rfl fx_289_13 ?_
    rw [hb]
    refine ziaload (k := 14) rfl ar_295 ⟨by omega, by omega⟩ ?_
    rw [h0_q.2.1.1.2.1]
    refine zireturn (k := 15) rfl rfl rfl ?_
    rw [← hQ]
    exact ⟨by rw [show t = 1 by assumption]; rfl, rfl, rfl⟩
  refine ztabC (k := 3) (v := 2) 2 rfl rfl (by decide) rfl rfl (fun c3_q => ?_) (fun c3_q => ?_)
  · skip
    refine zaload_n (k := 16) rfl rfl ?_
    refine zgF 21 (k := 17) rfl ob_289 fl_12_75 rfl fx_289_21 ?_
    refine zaload_n (k := 18) rfl rfl ?_
    refine zgI 13 (k := 19) rfl ob_289 fl_12_51 rfl fx_289_13 ?_
    rw [hb]
    refine ziaload (k := 20) rfl ar_298 ⟨by omega, by omega⟩ ?_
    rw [h0_q.2.1.1.2.2.1]
    refine zireturn (k := 21) rfl rfl rfl ?_
    rw [← hQ]
    exact ⟨by rw [show t = 2 by assumption]; rfl, rfl, rfl⟩
  refine ztabC (k := 3) (v := 3) 3 rfl rfl (by decide) rfl rfl (fun c4_q => ?_) (fun c4_q => ?_)
  · skip
    refine zaload_n (k := 22) rfl rfl ?_
    refine zgF 45 (k := 23) rfl ob_289 fl_12_150 rfl fx_289_45 ?_
    refine ziconst (k := 24) rfl (by decide) ?_
    refine ziaload (k := 25) rfl ar_315 ⟨by omega, by omega⟩ ?_
    rw [r0_q.1.1]
    refine zireturn (k := 26) rfl rfl rfl ?_
    rw [← hQ]
    exact ⟨by rw [show t = 3 by assumption]; rfl, rfl, rfl⟩
  refine ztabC (k := 3) (v := 4) 4 rfl rfl (by decide) rfl rfl (fun c5_q => ?_) (fun c5_q => ?_)
  · skip
    refine zaload_n (k := 27) rfl rfl ?_
    refine ziconst (k := 28) rfl (by decide) ?_
    refine zfV1 (k := 29) rfl (c_M_quotas hb1_q ⟨by omega, by omega⟩ h0_q hSI hWI) fm_M_quotas lk_12_484 rfl rfl ob_289 ⟨_, rfl, rfl⟩ (Nat.le_of_ble_eq_true rfl) (by decide) ⟨by decide, by decide⟩ ?_
    refine zireturn (k := 30) rfl rfl rfl ?_
    rw [← hQ]
    exact ⟨by rw [show t = 4 by assumption]; rfl, rfl, rfl⟩
  refine ztabC (k := 3) (v := 5) 5 rfl rfl (by decide) rfl rfl (fun c6_q => ?_) (fun c6_q => ?_)
  · skip
    refine zaload_n (k := 31) rfl rfl ?_
    refine ziconst (k := 32) rfl (by decide) ?_
    refine zfV1 (k := 33) rfl (c_M_are hb1_q h0_q hSI hWI) fm_M_are lk_12_487 rfl rfl ob_289 ⟨_, rfl, rfl⟩ (Nat.le_of_ble_eq_true rfl) (by decide) ⟨by decide, by decide⟩ ?_
    refine zireturn (k := 34) rfl rfl rfl ?_
    rw [← hQ]
    exact ⟨by rw [show t = 5 by assumption]; rfl, rfl, rfl⟩
  refine ztabC (k := 3) (v := 6) 6 rfl rfl (by decide) rfl rfl (fun c7_q => ?_) (fun c7_q => ?_)
  · skip
    refine zaload_n (k := 35) rfl rfl ?_
    refine ziconst (k := 36) rfl (by decide) ?_
    refine zfV1 (k := 37) rfl (c_M_are hb1_q h0_q hSI hWI) fm_M_are lk_12_487 rfl rfl ob_289 ⟨_, rfl, rfl⟩ (Nat.le_of_ble_eq_true rfl) (by decide) ⟨by decide, by decide⟩ ?_
    refine zireturn (k := 38) rfl rfl rfl ?_
    rw [← hQ]
    exact ⟨by rw [show t = 6 by assumption]; rfl, rfl, rfl⟩
  refine ztabC (k := 3) (v := 7) 7 rfl rfl (by decide) rfl rfl (fun c8_q => ?_) (fun c8_q => ?_)
  · skip
    refine ziconst (k := 39) rfl (by decide) ?_
    refine zistore_n (k := 40) (ls' := [_, _, _, _]) rfl (Nat.le_of_ble_eq_true rfl) rfl ?_
    have lp125_q : ∀ (g : Nat) (j : Nat), ((Wm 0 3).toNat - j) < g → ((j : Int) ≤ Wm 0 3) → zV Γ m_M_has 3 0 0 Q (GM L) (0, 0) 125 [some (zR 289), some (zI t), some (zI (sumN (S 7) j)), some (zI j)] [] σ := by
      intro g
      induction g with
      | zero => intro j hg; exact absurd hg (Nat.not_lt_zero _)
      | succ g ih125_q =>
        intro j hg hj
        have sj := sumN_b (f := S 7) (B := 99) j (fun k h1_q h2_q => by have := bm k h1_q (by omega); omega)
        refine ziload_n (k := 41) rfl rfl ?_
        refine zaload_n (k := 42) rfl rfl ?_
        refine zgF 21 (k := 43) rfl ob_289 fl_12_75 rfl fx_289_21 ?_
        refine zaload_n (k := 44) rfl rfl ?_
        refine zgI 13 (k := 45) rfl ob_289 fl_12_51 rfl fx_289_13 ?_
        rw [hb]
        refine ziaload (k := 46) rfl ar_298 ⟨by omega, by omega⟩ ?_
        rw [h0_q.2.1.1.2.2.1]
        refine zicmp_ge (k := 47) rfl rfl (fun c9_q => ?_) (fun c9_q => ?_)
        · skip
          rw [show j = (Wm 0 3).toNat by omega]
          refine ziload_n (k := 57) rfl rfl ?_
          refine zireturn (k := 58) rfl rfl rfl ?_
          rw [← hQ]
          exact ⟨by rw [show t = 7 by assumption]; rfl, rfl, rfl⟩
        · skip
          refine ziload_n (k := 48) rfl rfl ?_
          refine zaload_n (k := 49) rfl rfl ?_
          refine zgF 52 (k := 50) rfl ob_289 fl_12_171 rfl fx_289_52 ?_
          refine ziload_n (k := 51) rfl rfl ?_
          refine ziaload (k := 52) rfl ar_322 ⟨by omega, by omega⟩ ?_
          rw [(r0_q.2.2.1 j (by omega) (by omega)).2.2.2.1]
          have q := bm j (by omega) (by omega)
          refine ziaddB (k := 53) rfl (by omega) ?_
          refine zistore_n (k := 54) (ls' := [_, _, _, _]) rfl (Nat.le_of_ble_eq_true rfl) rfl ?_
          refine ziincB (k := 55) (ls' := [_, _, _, _]) rfl rfl (by decide) (by omega) rfl ?_
          refine zgoto (k := 56) rfl rfl ?_
          exact ih125_q (j + 1) (by omega) (by omega)
    exact lp125_q _ 0 (Nat.lt_succ_self _) (by omega)
  refine ztabC (k := 3) (v := 8) 8 rfl rfl (by decide) rfl rfl (fun c10_q => ?_) (fun c10_q => ?_)
  · skip
    refine ziconst (k := 59) rfl (by decide) ?_
    refine zistore_n (k := 60) (ls' := [_, _, _, _]) rfl (Nat.le_of_ble_eq_true rfl) rfl ?_
    have lp157_q : ∀ (g : Nat) (j : Nat), ((Wm 0 3).toNat - j) < g → ((j : Int) ≤ Wm 0 3) → zV Γ m_M_has 3 0 0 Q (GM L) (0, 0) 157 [some (zR 289), some (zI t), some (zI (sumN (S 8) j)), some (zI j)] [] σ := by
      intro g
      induction g with
      | zero => intro j hg; exact absurd hg (Nat.not_lt_zero _)
      | succ g ih157_q =>
        intro j hg hj
        have sj := sumN_b (f := S 8) (B := 9999) j (fun k h1_q h2_q => by have := bm k h1_q (by omega); omega)
        refine ziload_n (k := 61) rfl rfl ?_
        refine zaload_n (k := 62) rfl rfl ?_
        refine zgF 21 (k := 63) rfl ob_289 fl_12_75 rfl fx_289_21 ?_
        refine zaload_n (k := 64) rfl rfl ?_
        refine zgI 13 (k := 65) rfl ob_289 fl_12_51 rfl fx_289_13 ?_
        rw [hb]
        refine ziaload (k := 66) rfl ar_298 ⟨by omega, by omega⟩ ?_
        rw [h0_q.2.1.1.2.2.1]
        refine zicmp_ge (k := 67) rfl rfl (fun c11_q => ?_) (fun c11_q => ?_)
        · skip
          rw [show j = (Wm 0 3).toNat by omega]
          refine ziload_n (k := 77) rfl rfl ?_
          refine zireturn (k := 78) rfl rfl rfl ?_
          rw [← hQ]
          exact ⟨by rw [show t = 8 by assumption]; rfl, rfl, rfl⟩
        · skip
          refine ziload_n (k := 68) rfl rfl ?_
          refine zaload_n (k := 69) rfl rfl ?_
          refine zgF 53 (k := 70) rfl ob_289 fl_12_174 rfl fx_289_53 ?_
          refine ziload_n (k := 71) rfl rfl ?_
          refine ziaload (k := 72) rfl ar_323 ⟨by omega, by omega⟩ ?_
          rw [(r0_q.2.2.1 j (by omega) (by omega)).2.2.2.2]
          have q := bm j (by omega) (by omega)
          refine ziaddB (k := 73) rfl (by omega) ?_
          refine zistore_n (k := 74) (ls' := [_, _, _, _]) rfl (Nat.le_of_ble_eq_true rfl) rfl ?_
          refine ziincB (k := 75) (ls' := [_, _, _, _]) rfl rfl (by decide) (by omega) rfl ?_
          refine zgoto (k := 76) rfl rfl ?_
          exact ih157_q (j + 1) (by omega) (by omega)
    exact lp157_q _ 0 (Nat.lt_succ_self _) (by omega)
  refine ztabC (k := 3) (v := 9) 9 rfl rfl (by decide) rfl rfl (fun c12_q => ?_) (fun c12_q => ?_)
  · skip
    refine zaload_n (k := 79) rfl rfl ?_
    refine zgF 55 (k := 80) rfl ob_289 fl_12_180 rfl fx_289_55 ?_
    refine ziconst (k := 81) rfl (by decide) ?_
    refine ziaload (k := 82) rfl ar_325 ⟨by omega, by omega⟩ ?_
    rw [r0_q.1.2]
    refine zireturn (k := 83) rfl rfl rfl ?_
    rw [← hQ]
    exact ⟨by rw [show t = 9 by assumption]; rfl, rfl, rfl⟩
  refine ztabC (k := 3) (v := 10) 10 rfl rfl (by decide) rfl rfl (fun c13_q => ?_) (fun c13_q => ?_)
  · skip
    refine zaload_n (k := 84) rfl rfl ?_
    refine zgI 67 (k := 85) rfl ob_289 fl_12_216 rfl fx_289_67 ?_
    refine zireturn (k := 86) rfl rfl rfl ?_
    rw [← hQ]
    exact ⟨by rw [show t = 10 by assumption]; rfl, rfl, rfl⟩
  refine ztabC (k := 3) (v := 11) 11 rfl rfl (by decide) rfl rfl (fun c14_q => ?_) (fun c14_q => ?_)
  · skip
    refine zaload_n (k := 87) rfl rfl ?_
    refine zgI 58 (k := 88) rfl ob_289 fl_12_189 rfl fx_289_58 ?_
    refine zireturn (k := 89) rfl rfl rfl ?_
    rw [← hQ]
    exact ⟨by rw [show t = 11 by assumption]; rfl, rfl, rfl⟩
  refine ztabC (k := 3) (v := 12) 12 rfl rfl (by decide) rfl rfl (fun c15_q => ?_) (fun c15_q => ?_)
  · skip
    refine zaload_n (k := 90) rfl rfl ?_
    refine zgL 59 (k := 91) rfl ob_289 fl_12_192 rfl fx_289_59 ?_
    refine zl2i (k := 92) rfl ?_
    rw [w32_id (by omega) (by omega)]
    refine zireturn (k := 93) rfl rfl rfl ?_
    rw [← hQ]
    exact ⟨by rw [show t = 12 by assumption]; rfl, rfl, rfl⟩
  refine ztabOut (k := 3) rfl (by omega) rfl ?_
  refine ziconst (k := 94) rfl (by decide) ?_
  refine zireturn (k := 95) rfl rfl rfl ?_
  rw [← hQ]
  exact ⟨by rw [hasQ_n (by omega)], rfl, rfl⟩
set_option maxHeartbeats 4000000 in
set_option maxRecDepth 20000 in
theorem c_M_kept {Γ : zv_M} {L : Int} {σ Wm S : zv_H} {b : Int} (hb1_q : b = 0 ∨ b = 1) (h0_q : stM σ σ b 0 Wm S) (hSI : SI (Wm 0 1) (Wm 0 3) S) (hWI : WI Wm) {k t : Int}  : zC Γ m_M_kept 1 0 0 (GM L) [zR 289, zI k, zI t] σ (zFn (some (zI (kepQ S k t))) (GM L) σ) := by
  refine zC_of (ls0 := [_, _, _]) zm_M_kept (by decide) rfl (Nat.le_of_ble_eq_true rfl) ?_
  generalize hQ : (zFn (some (zI (kepQ S k t))) (GM L) σ) = Q
  have hb := h0_q.2.2.1
  have w1_q := hWI.1
  have w3_q := hWI.2.2.1
  have r0_q := rM_0 h0_q.1
  have b00_q := hSI.1
  have b12_q := hSI.2.2.1
  have bc := hSI.2.2.2.1
  have bm := hSI.2.2.2.2.1
  have bl := hSI.2.2.2.2.2.1
  refine ziload_n (k := 0) rfl rfl ?_
  refine ziconst (k := 1) rfl (by decide) ?_
  refine zaload_n (k := 2) rfl rfl ?_
  refine zgF 55 (k := 3) rfl ob_289 fl_12_180 rfl fx_289_55 ?_
  refine ziconst (k := 4) rfl (by decide) ?_
  refine ziaload (k := 5) rfl ar_325 ⟨by omega, by omega⟩ ?_
  rw [r0_q.1.2]
  refine ziconst (k := 6) rfl (by decide) ?_
  refine zisubB (k := 7) rfl (by omega) ?_
  refine zfS1 (k := 8) rfl c_M_is fm_M_is lk_12_315 rfl rfl (Nat.le_of_ble_eq_true rfl) (by decide) ⟨by decide, by decide⟩ ?_
  refine zif_eq (k := 9) rfl rfl (fun c1_q => ?_) (fun c1_q => ?_)
  · skip
    refine ziconst (k := 24) rfl (by decide) ?_
    refine zireturn (k := 25) rfl rfl rfl ?_
    rw [← hQ]
    refine ⟨?_, rfl, rfl⟩
    unfold kepQ
    first
    | (rw [if_pos (by omega)]; done)
    | (rw [if_neg (by omega)]
       have e : t = 0 ∨ t = 1 ∨ t = 2 ∨ t = 3 := by omega
       rcases e with rfl | rfl | rfl | rfl
       · rw [show 4 * k + (0 : Int) = 4 * k by omega, rk.1]; rfl
       · rw [rk.2.1]; rfl
       · rw [rk.2.2.1]; rfl
       · rw [rk.2.2.2]; rfl)
    | (rw [if_neg (by omega), if_neg (by omega), if_neg (by omega), if_neg (by omega), if_neg (by omega)]; done)
  · skip
    have hkk : 0 ≤ k ∧ k ≤ S 0 12 - 1 := by omega
    refine ziload_n (k := 10) rfl rfl ?_
    refine ziconst (k := 11) rfl (by decide) ?_
    refine ziconst (k := 12) rfl (by decide) ?_
    refine zfS1 (k := 13) rfl c_M_is fm_M_is lk_12_315 rfl rfl (Nat.le_of_ble_eq_true rfl) (by decide) ⟨by decide, by decide⟩ ?_
    refine zif_eq (k := 14) rfl rfl (fun c2_q => ?_) (fun c2_q => ?_)
    · skip
      refine ziconst (k := 24) rfl (by decide) ?_
      refine zireturn (k := 25) rfl rfl rfl ?_
      rw [← hQ]
      refine ⟨?_, rfl, rfl⟩
      unfold kepQ
      first
      | (rw [if_pos (by omega)]; done)
      | (rw [if_neg (by omega)]
         have e : t = 0 ∨ t = 1 ∨ t = 2 ∨ t = 3 := by omega
         rcases e with rfl | rfl | rfl | rfl
         · rw [show 4 * k + (0 : Int) = 4 * k by omega, rk.1]; rfl
         · rw [rk.2.1]; rfl
         · rw [rk.2.2.1]; rfl
         · rw [rk.2.2.2]; rfl)
      | (rw [if_neg (by omega), if_neg (by omega), if_neg (by omega), if_neg (by omega), if_neg (by omega)]; done)
    · skip
      have htt : 0 ≤ t ∧ t ≤ 3 := by omega
      have rk := r0_q.2.2.2.2 k hkk.1 (by omega)
      refine zaload_n (k := 15) rfl rfl ?_
      refine zgF 56 (k := 16) rfl ob_289 fl_12_183 rfl fx_289_56 ?_
      refine ziconst (k := 17) rfl (by decide) ?_
      refine ziload_n (k := 18) rfl rfl ?_
      refine zimulB (k := 19) rfl (by omega) ?_
      refine ziload_n (k := 20) rfl rfl ?_
      refine ziaddB (k := 21) rfl (by omega) ?_
      refine ziaload (k := 22) rfl ar_326 ⟨by omega, by omega⟩ ?_
      refine zgoto (k := 23) rfl rfl ?_
      refine zireturn (k := 25) rfl rfl rfl ?_
      rw [← hQ]
      refine ⟨?_, rfl, rfl⟩
      unfold kepQ
      first
      | (rw [if_pos (by omega)]; done)
      | (rw [if_neg (by omega)]
         have e : t = 0 ∨ t = 1 ∨ t = 2 ∨ t = 3 := by omega
         rcases e with rfl | rfl | rfl | rfl
         · rw [show 4 * k + (0 : Int) = 4 * k by omega, rk.1]; rfl
         · rw [rk.2.1]; rfl
         · rw [rk.2.2.1]; rfl
         · rw [rk.2.2.2]; rfl)
      | (rw [if_neg (by omega), if_neg (by omega), if_neg (by omega), if_neg (by omega), if_neg (by omega)]; done)
