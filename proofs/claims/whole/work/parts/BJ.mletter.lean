set_option maxHeartbeats 4000000 in
set_option maxRecDepth 20000 in
theorem c_M_manyOf {Γ : zv_M} {L : Int} {σ : zv_H} {b t : Int} (hb1_q : b = 0 ∨ b = 1)  : zC Γ m_M_manyOf 0 0 0 (GM L) [zR 289, zI b, zI t] σ (zFn (some (zI (if t = 0 then σ 291 b else σ 298 b))) (GM L) σ) := by
  refine zC_of (ls0 := [_, _, _]) zm_M_manyOf (by decide) rfl (Nat.le_of_ble_eq_true rfl) ?_
  generalize hQ : (zFn (some (zI (if t = 0 then σ 291 b else σ 298 b))) (GM L) σ) = Q
  refine ziload_n (k := 0) rfl rfl ?_
  refine zif_ne (k := 1) rfl rfl (fun c1_q => ?_) (fun c1_q => ?_)
  · skip
    refine zaload_n (k := 7) rfl rfl ?_
    refine zgF 21 (k := 8) rfl ob_289 fl_12_75 rfl fx_289_21 ?_
    refine ziload_n (k := 9) rfl rfl ?_
    refine ziaload (k := 10) rfl ar_298 ⟨by omega, by omega⟩ ?_
    refine zireturn (k := 11) rfl rfl rfl ?_
    rw [← hQ]
    exact ⟨by first | (rw [if_pos (by omega)]; done) | (rw [if_neg (by omega)]; done) | (exfalso; omega), rfl, rfl⟩
  · skip
    refine zaload_n (k := 2) rfl rfl ?_
    refine zgF 14 (k := 3) rfl ob_289 fl_12_54 rfl fx_289_14 ?_
    refine ziload_n (k := 4) rfl rfl ?_
    refine ziaload (k := 5) rfl ar_291 ⟨by omega, by omega⟩ ?_
    refine zgoto (k := 6) rfl rfl ?_
    refine zireturn (k := 11) rfl rfl rfl ?_
    rw [← hQ]
    exact ⟨by first | (rw [if_pos (by omega)]; done) | (rw [if_neg (by omega)]; done) | (exfalso; omega), rfl, rfl⟩
set_option maxHeartbeats 4000000 in
set_option maxRecDepth 20000 in
theorem c_M_nameOf {Γ : zv_M} {L : Int} {σ : zv_H} {b t k : Int} (hb1_q : b = 0 ∨ b = 1) (hk : 0 ≤ k ∧ (t = 0 → k < 7) ∧ (t ≠ 0 → k < 6))  : zC Γ m_M_nameOf 0 0 0 (GM L) [zR 289, zI b, zI t, zI k] σ (zFn (some (zL (if t = 0 then σ 306 (7 * b + k) else σ 307 (6 * b + k)))) (GM L) σ) := by
  refine zC_of (ls0 := [_, _, _, _]) zm_M_nameOf (by decide) rfl (Nat.le_of_ble_eq_true rfl) ?_
  generalize hQ : (zFn (some (zL (if t = 0 then σ 306 (7 * b + k) else σ 307 (6 * b + k)))) (GM L) σ) = Q
  refine ziload_n (k := 0) rfl rfl ?_
  refine zif_ne (k := 1) rfl rfl (fun c1_q => ?_) (fun c1_q => ?_)
  · skip
    refine zaload_n (k := 11) rfl rfl ?_
    refine zgF 30 (k := 12) rfl ob_289 fl_12_103 rfl fx_289_30 ?_
    refine zbipush (k := 13) rfl rfl ?_
    refine ziload_n (k := 14) rfl rfl ?_
    refine zimulB (k := 15) rfl (by omega) ?_
    refine ziload_n (k := 16) rfl rfl ?_
    refine ziaddB (k := 17) rfl (by omega) ?_
    refine zlaload (k := 18) rfl ar_307 ⟨by omega, by omega⟩ ?_
    refine zlreturn (k := 19) rfl rfl rfl ?_
    rw [← hQ]
    exact ⟨by first | (rw [if_pos (by omega)]; done) | (rw [if_neg (by omega)]; done) | (exfalso; omega), rfl, rfl⟩
  · skip
    refine zaload_n (k := 2) rfl rfl ?_
    refine zgF 29 (k := 3) rfl ob_289 fl_12_99 rfl fx_289_29 ?_
    refine zbipush (k := 4) rfl rfl ?_
    refine ziload_n (k := 5) rfl rfl ?_
    refine zimulB (k := 6) rfl (by omega) ?_
    refine ziload_n (k := 7) rfl rfl ?_
    refine ziaddB (k := 8) rfl (by omega) ?_
    refine zlaload (k := 9) rfl ar_306 ⟨by omega, by omega⟩ ?_
    refine zgoto (k := 10) rfl rfl ?_
    refine zlreturn (k := 19) rfl rfl rfl ?_
    rw [← hQ]
    exact ⟨by first | (rw [if_pos (by omega)]; done) | (rw [if_neg (by omega)]; done) | (exfalso; omega), rfl, rfl⟩
set_option maxHeartbeats 4000000 in
set_option maxRecDepth 20000 in
theorem c_M_letter {Γ : zv_M} {L : Int} {σ Wm S : zv_H} {b : Int} (hb1_q : b = 0 ∨ b = 1) (h0_q : stM σ σ b 0 Wm S) (hSI : SI (Wm 0 1) (Wm 0 3) S) (hWI : WI Wm) {t c k : Int}  : zC Γ m_M_letter 2 0 0 (GM L) [zR 289, zI t, zI c, zI k] σ (zFn (some (zI (letQ Wm t c k))) (GM L) σ) := by
  refine zC_of (ls0 := [_, _, _, _, _, _, _, _, _]) zm_M_letter (by decide) rfl (Nat.le_of_ble_eq_true rfl) ?_
  generalize hQ : (zFn (some (zI (letQ Wm t c k))) (GM L) σ) = Q
  have hb := h0_q.2.2.1
  have w1_q := hWI.1
  have w3_q := hWI.2.2.1
  have r0_q := rM_0 h0_q.1
  have b00_q := hSI.1
  have b12_q := hSI.2.2.1
  have bc := hSI.2.2.2.1
  have bm := hSI.2.2.2.2.1
  have bl := hSI.2.2.2.2.2.1
  have n291_q : σ 291 b = Wm 0 1 := h0_q.2.1.1.1
  have n298_q : σ 298 b = Wm 0 3 := h0_q.2.1.1.2.2.1
  refine ziload_n (k := 0) rfl rfl ?_
  refine ziconst (k := 1) rfl (by decide) ?_
  refine ziconst (k := 2) rfl (by decide) ?_
  refine zfS1 (k := 3) rfl c_M_is fm_M_is lk_12_315 rfl rfl (Nat.le_of_ble_eq_true rfl) (by decide) ⟨by decide, by decide⟩ ?_
  refine zif_eq (k := 4) rfl rfl (fun c1_q => ?_) (fun c1_q => ?_)
  · skip
    refine ziconst (k := 21) rfl (by decide) ?_
    refine zireturn (k := 22) rfl rfl rfl ?_
    rw [← hQ]
    refine ⟨szI ?_, rfl, rfl⟩
    unfold letQ
    by_cases hk9_q : 0 ≤ k ∧ k < 6
    · rw [if_neg (fun q => q hk9_q), if_neg (by omega), if_neg (by omega)]
    · rw [if_pos hk9_q]
  · skip
    have htt : t = 0 ∨ t = 1 := by omega
    refine ziload_n (k := 5) rfl rfl ?_
    refine ziconst (k := 6) rfl (by decide) ?_
    refine zaload_n (k := 7) rfl rfl ?_
    refine zaload_n (k := 8) rfl rfl ?_
    refine zgI 13 (k := 9) rfl ob_289 fl_12_51 rfl fx_289_13 ?_
    rw [hb]
    refine ziload_n (k := 10) rfl rfl ?_
    refine zfV1 (k := 11) rfl (c_M_manyOf hb1_q) fm_M_manyOf lk_12_307 rfl rfl ob_289 ⟨_, rfl, rfl⟩ (Nat.le_of_ble_eq_true rfl) (by decide) ⟨by decide, by decide⟩ ?_
    rw [n291_q, n298_q]
    refine ziconst (k := 12) rfl (by decide) ?_
    refine zisubB (k := 13) rfl (by omega) ?_
    refine zfS1 (k := 14) rfl c_M_is fm_M_is lk_12_315 rfl rfl (Nat.le_of_ble_eq_true rfl) (by decide) ⟨by decide, by decide⟩ ?_
    refine zif_eq (k := 15) rfl rfl (fun c2_q => ?_) (fun c2_q => ?_)
    · skip
      refine ziconst (k := 21) rfl (by decide) ?_
      refine zireturn (k := 22) rfl rfl rfl ?_
      rw [← hQ]
      refine ⟨szI ?_, rfl, rfl⟩
      unfold letQ
      by_cases hk9_q : 0 ≤ k ∧ k < 6
      · rw [if_neg (fun q => q hk9_q), if_neg (by omega), if_neg (by omega)]
      · rw [if_pos hk9_q]
    · skip
      have hcc : 0 ≤ c ∧ (t = 0 → c < Wm 0 1) ∧ (t ≠ 0 → c < Wm 0 3) := by omega
      refine ziload_n (k := 16) rfl rfl ?_
      refine ziconst (k := 17) rfl (by decide) ?_
      refine ziconst (k := 18) rfl (by decide) ?_
      refine zfS1 (k := 19) rfl c_M_is fm_M_is lk_12_315 rfl rfl (Nat.le_of_ble_eq_true rfl) (by decide) ⟨by decide, by decide⟩ ?_
      refine zif_ne (k := 20) rfl rfl (fun c3_q => ?_) (fun c3_q => ?_)
      · skip
        have hkk : 0 ≤ k ∧ k ≤ 5 := by omega
        obtain ⟨u, v, hu, hl, hnm⟩ : ∃ u v : Int, u = (if t = 0 then σ 306 (7 * b + c) else σ 307 (6 * b + c)) ∧ letQ Wm t c k = zlet v (5 - k.toNat) % 27 ∧ nmR v u := by
          rcases htt with e | e
          · have el : letQ Wm t c k = zlet (Wm 1 c) (5 - k.toNat) % 27 := by
              unfold letQ
              rw [if_neg (by omega), if_pos ⟨e, hcc.1, hcc.2.1 e⟩]
            exact ⟨σ 306 (7 * b + c), Wm 1 c, (if_pos e).symm, el, (h0_q.2.1.2.1 c hcc.1 (hcc.2.1 e)).2.2.2⟩
          · have el : letQ Wm t c k = zlet (Wm 5 c) (5 - k.toNat) % 27 := by
              unfold letQ
              rw [if_neg (by omega), if_neg (by omega), if_pos ⟨e, hcc.1, hcc.2.2 (by omega)⟩]
            exact ⟨σ 307 (6 * b + c), Wm 5 c, (if_neg (by omega)).symm, el, (h0_q.2.1.2.2.1 c hcc.1 (hcc.2.2 (by omega))).2.2⟩
        obtain ⟨U, j, hj, hU, hv, hu2_q⟩ := nmR_U hnm
        have l27_q := let_27 (k := k.toNat) hU hj.2 (by omega)
        rw [← hv, ← hl] at l27_q
        refine zaload_n (k := 23) rfl rfl ?_
        refine zaload_n (k := 24) rfl rfl ?_
        refine zgI 13 (k := 25) rfl ob_289 fl_12_51 rfl fx_289_13 ?_
        rw [hb]
        refine ziload_n (k := 26) rfl rfl ?_
        refine ziload_n (k := 27) rfl rfl ?_
        refine zfV1 (k := 28) rfl (c_M_nameOf hb1_q ⟨hcc.1, fun e => by have := hcc.2.1 e; omega, fun e => by have := hcc.2.2 e; omega⟩) fm_M_nameOf lk_12_311 rfl rfl ob_289 ⟨_, rfl, rfl⟩ (Nat.le_of_ble_eq_true rfl) (by decide) ⟨by decide, by decide⟩ ?_
        rw [← hu, hu2_q]
        refine zlstore (k := 29) (ls' := [_, _, _, _, _, _, _, _, _]) rfl (Nat.le_of_ble_eq_true rfl) rfl ?_
        refine ziconst (k := 30) rfl (by decide) ?_
        refine zistore (k := 31) (ls' := [_, _, _, _, _, _, _, _, _]) rfl (Nat.le_of_ble_eq_true rfl) rfl ?_
        refine zlload (k := 32) rfl rfl ?_
        refine zlstore (k := 33) (ls' := [_, _, _, _, _, _, _, _, _]) rfl (Nat.le_of_ble_eq_true rfl) rfl ?_
        refine zforget (ls' := [_, _, _, _, _, _, _, _, _]) 1 rfl ?_
        refine zforget (ls' := [_, _, _, _, _, _, _, _, _]) 2 rfl ?_
        have lp58_q : ∀ (g : Nat) (i : Nat), (j - i) < g → (i ≤ j) → zV Γ m_M_letter 2 0 0 Q (GM L) (0, 0) 58 [some (zR 289), none, none, some (zI k), some (zL (wv256 U 0 j)), none, some (zI i), some (zL (wv256 U 0 (j - i))), none] [] σ := by
          intro g
          induction g with
          | zero => intro i hg; exact absurd hg (Nat.not_lt_zero _)
          | succ g ih58_q =>
            intro i hg hi
            have wi : (i < j → wv256 U 0 (j - i) / 256 = wv256 U 0 (j - (i + 1)) ∧ 0 < wv256 U 0 (j - i)) ∧ (i = j → wv256 U 0 (j - i) = 0) := by
              constructor
              · intro h
                have q := wv256_p (U := U) (j := j - (i + 1)) (fun x hx => hU x (by omega))
                rw [show j - (i + 1) + 1 = j - i by omega] at q
                exact ⟨q.1, q.2.2⟩
              · intro h
                rw [h, Nat.sub_self]; rfl
            have wbi := wv256_62 (U := U) (j := j - i) (fun x hx => hU x (by omega)) (by omega)
            refine zlload (k := 34) rfl rfl ?_
            refine zlconst (k := 35) (z := 0) rfl rfl ?_
            refine zlcmp (k := 36) rfl ?_
            refine zif_le (k := 37) rfl rfl (fun c4_q => ?_) (fun c4_q => ?_)
            · skip
              have ei : i = j := by simp only [zcc4, zcc5] at *; omega
              refine ziload_n (k := 44) rfl rfl ?_
              refine ziload (k := 45) rfl rfl ?_
              refine zicmp_lt (k := 46) rfl rfl (fun c5_q => ?_) (fun c5_q => ?_)
              · skip
                refine zlload (k := 49) rfl rfl ?_
                refine zbipush (k := 50) rfl rfl ?_
                refine ziload (k := 51) rfl rfl ?_
                refine ziconst (k := 52) rfl (by decide) ?_
                refine zisubB (k := 53) rfl (by omega) ?_
                refine ziload_n (k := 54) rfl rfl ?_
                refine zisubB (k := 55) rfl (by omega) ?_
                refine zimulB (k := 56) rfl (by omega) ?_
                refine zlshr (k := 57) rfl ?_
                obtain ⟨d, hd⟩ : ∃ d : Nat, d = j - 1 - k.toNat := ⟨_, rfl⟩
                rw [zshrL_k (8 * d) (wv256_62 hU hj.2) (by omega) (by omega), wv256_d hU d (by omega), show j - d = k.toNat + 1 by omega]
                have wp := wv256_p (U := U) (j := k.toNat) (fun i hi => hU i (by omega))
                have wb := wv256_62 (U := U) (j := k.toNat + 1) (fun i hi => hU i (by omega)) (by omega)
                have Uk := hU k.toNat (by omega)
                refine zldc2 (k := 58) (z := 255) rfl kc_12_490 rfl ?_
                refine zland (k := 59) rfl ?_
                rw [zandL_m 8 (by decide) (by decide) wb, show (2 : Int) ^ 8 = 256 from rfl, wp.2.1]
                refine zl2i (k := 60) rfl ?_
                rw [w32_id (by omega) (by omega)]
                refine zbipush (k := 61) rfl rfl ?_
                refine zisubB (k := 62) rfl (by omega) ?_
                refine ziconst (k := 63) rfl (by decide) ?_
                refine ziaddB (k := 64) rfl (by omega) ?_
                refine zireturn (k := 65) rfl rfl rfl ?_
                rw [← hQ]
                exact ⟨szI (by rw [l27_q]; first | (rw [if_neg (by omega)]; done) | (rw [if_pos (by omega)]; omega)), rfl, rfl⟩
              · skip
                refine ziconst (k := 47) rfl (by decide) ?_
                refine zgoto (k := 48) rfl rfl ?_
                refine zireturn (k := 65) rfl rfl rfl ?_
                rw [← hQ]
                exact ⟨szI (by rw [l27_q]; first | (rw [if_neg (by omega)]; done) | (rw [if_pos (by omega)]; omega)), rfl, rfl⟩
            · skip
              refine ziincB (k := 38) (ls' := [_, _, _, _, _, _, _, _, _]) rfl rfl (by decide) (by omega) rfl ?_
              refine zlload (k := 39) rfl rfl ?_
              refine zbipush (k := 40) rfl rfl ?_
              refine zlshr (k := 41) rfl ?_
              refine zlstore (k := 42) (ls' := [_, _, _, _, _, _, _, _, _]) rfl (Nat.le_of_ble_eq_true rfl) rfl ?_
              refine zgoto (k := 43) rfl rfl ?_
              simp only [zcc4, zcc5] at *
              have hlt : i < j := by omega
              rw [zshrL_k (y := 8) 8 wbi rfl (by omega), show (2 : Int) ^ 8 = 256 from rfl, (wi.1 hlt).1]
              exact ih58_q (i + 1) (by omega) (by omega)
        exact lp58_q _ 0 (Nat.lt_succ_self _) (by omega)
      · skip
        refine ziconst (k := 21) rfl (by decide) ?_
        refine zireturn (k := 22) rfl rfl rfl ?_
        rw [← hQ]
        refine ⟨szI ?_, rfl, rfl⟩
        unfold letQ
        by_cases hk9_q : 0 ≤ k ∧ k < 6
        · rw [if_neg (fun q => q hk9_q), if_neg (by omega), if_neg (by omega)]
        · rw [if_pos hk9_q]
