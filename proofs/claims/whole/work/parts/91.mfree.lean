/-! a WEEK -/
theorem stM_e {σ0 σ Wm S : zv_H} {b v e e2 : Int} (h : stM (zup σ0 289 62 e) σ b v Wm S) : stM (zup σ0 289 62 e2) (zup σ 289 62 e2) b v Wm S := by
  obtain ⟨h1, h2, h3, h4⟩ := h
  refine ⟨rM_x h1 (fun x k a c => zup_n (by omega)), ?_, by rw [zup_n (by omega)]; exact h3, fun x k a c d => ?_⟩
  · have yf : ∀ x, 291 ≤ x → x ≤ 307 → zup σ 289 62 e2 x = σ x := fun x q1 q2 => funext (fun k => zup_n (by omega))
    unfold wM fmM at h2 ⊢
    rw [yf 291 (by omega) (by omega), yf 292 (by omega) (by omega), yf 293 (by omega) (by omega), yf 294 (by omega) (by omega), yf 295 (by omega) (by omega), yf 297 (by omega) (by omega), yf 298 (by omega) (by omega), yf 299 (by omega) (by omega), yf 300 (by omega) (by omega), yf 301 (by omega) (by omega), yf 302 (by omega) (by omega), yf 303 (by omega) (by omega), yf 304 (by omega) (by omega), yf 305 (by omega) (by omega), yf 306 (by omega) (by omega), yf 307 (by omega) (by omega)]
    exact h2
  · by_cases q : x = 289 ∧ k = 62
    · rw [q.1, q.2, zup_s, zup_s]
    · rw [zup_n q, zup_n q, h4 x k a c d, zup_n q]
theorem stM_62 {σ0 σ Wm S : zv_H} {b v e : Int} (h : stM (zup σ0 289 62 e) σ b v Wm S) : σ 289 62 = e := by rw [h.2.2.2 289 62 (by unfold inV; omega) (by omega) (by omega), zup_s]
theorem snd_kep {S : zv_H} {m c t e : Int} : sndF (kepF S e) m c t = kepF (sndF S m c t) e := by
  unfold sndF
  rw [kep_n (by omega) (by omega)]
  split
  · unfold kepF
    have e1 : ∀ k, zup S 9 (m * 7 + c) t 0 k = S 0 k := fun k => zup_n (by omega)
    rw [e1, e1]
    split
    · funext g k
      unfold zup
      (repeat' split) <;> first | rfl | (exfalso; omega)
    · funext g k
      unfold zup
      (repeat' split) <;> first | rfl | (exfalso; omega)
  · rfl
theorem sds_kep {Wm S : zv_H} {m c e : Int} : ∀ n : Nat, sdsF Wm (kepF S e) m c n = kepF (sdsF Wm S m c n) e
  | 0 => rfl
  | t + 1 => by
    show (if dstF Wm c t ≠ -1 then sndF (sdsF Wm (kepF S e) m c t) m t (kepF S e 0 0 + dstF Wm c t + Wm 0 4) else sdsF Wm (kepF S e) m c t) = kepF (if dstF Wm c t ≠ -1 then sndF (sdsF Wm S m c t) m t (S 0 0 + dstF Wm c t + Wm 0 4) else sdsF Wm S m c t) e
    rw [kep_n (by omega) (by omega), sds_kep t]
    split
    · exact snd_kep
    · rfl
set_option maxHeartbeats 4000000 in
set_option maxRecDepth 20000 in
theorem c_M_isFree {Γ : zv_M} {L : Int} {σ0 σ Wm S : zv_H} {b v en : Int} (hb1 : b = 0 ∨ b = 1) (hv : 0 ≤ v ∧ v < 22) (h0 : stM (zup σ0 289 62 en) σ b v Wm S) (hSI : SI (Wm 0 1) (Wm 0 3) S) (hWI : WI Wm) (hen : 0 ≤ en ∧ en ≤ 1000) {m : Int} (hm : 0 ≤ m ∧ m < Wm 0 3) (h5 : S 5 m = 0)  : zC Γ m_M_isFree 6 0 0 (GM L) [zR 289, zI v, zI m] σ (zP0 (GM L) (fun σ' => stM (zup σ0 289 62 (en + (metF Wm S m).2)) σ' b v Wm (metF Wm S m).1)) := by
  refine zC_of (ls0 := [_, _, _, _, _]) zm_M_isFree (by decide) rfl (Nat.le_of_ble_eq_true rfl) ?_
  generalize hQ : (zP0 (GM L) (fun σ' => stM (zup σ0 289 62 (en + (metF Wm S m).2)) σ' b v Wm (metF Wm S m).1)) = Q
  have hb := h0.2.2.1
  have w1 := hWI.1
  have w3 := hWI.2.2.1
  have bm := hSI.2.2.2.2.1 m hm.1 hm.2
  have bc := hSI.2.2.2.1 (S 4 m) bm.1.1 bm.1.2
  have b00 := hSI.1
  have rm := h0.1.2.2.1 m hm.1 hm.2
  have rc := h0.1.2.1 (S 4 m) bm.1.1 bm.1.2
  have h62 := stM_62 h0
  refine zbipush (k := 0) rfl rfl ?_
  refine ziload_n (k := 1) rfl rfl ?_
  refine zimulB (k := 2) rfl (by omega) ?_
  refine ziload_n (k := 3) rfl rfl ?_
  refine ziaddB (k := 4) rfl (by omega) ?_
  refine zistore_n (k := 5) (ls' := [_, _, _, _, _]) rfl (Nat.le_of_ble_eq_true rfl) rfl ?_
  refine zaload_n (k := 6) rfl rfl ?_
  refine zgF 49 (k := 7) rfl ob_289 fl_12_162 rfl fx_289_49 ?_
  refine ziload_n (k := 8) rfl rfl ?_
  refine ziaload (k := 9) rfl ar_319 ⟨by omega, by omega⟩ ?_
  rw [rm.1]
  refine zistore (k := 10) (ls' := [_, _, _, _, _]) rfl (Nat.le_of_ble_eq_true rfl) rfl ?_
  refine zaload_n (k := 11) rfl rfl ?_
  refine ziload_n (k := 12) rfl rfl ?_
  refine ziload_n (k := 13) rfl rfl ?_
  refine ziload (k := 14) rfl rfl ?_
  refine zaload_n (k := 15) rfl rfl ?_
  refine zgF 45 (k := 16) rfl ob_289 fl_12_150 rfl fx_289_45 ?_
  refine ziload_n (k := 17) rfl rfl ?_
  refine ziaload (k := 18) rfl ar_315 ⟨by omega, by omega⟩ ?_
  rw [h0.1.1.1]
  refine zfV1 (k := 19) rfl (c_M_isKnown hb1 hv h0 hSI hWI hm ⟨bm.1.1, bm.1.2⟩ (by omega)) fm_M_isKnown lk_12_465 rfl rfl ob_289 ⟨_, rfl, rfl⟩ (Nat.le_of_ble_eq_true rfl) (by decide) ⟨by decide, by decide⟩ ?_
  refine zif_eq (k := 20) rfl rfl (fun c1 => ?_) (fun c1 => ?_)
  · skip
    refine zaload_n (k := 32) rfl rfl ?_
    refine zgF 46 (k := 33) rfl ob_289 fl_12_153 rfl fx_289_46 ?_
    refine zbipush (k := 34) rfl rfl ?_
    refine ziload_n (k := 35) rfl rfl ?_
    refine zimulB (k := 36) rfl (by omega) ?_
    refine ziload (k := 37) rfl rfl ?_
    refine ziaddB (k := 38) rfl (by omega) ?_
    refine ziaload (k := 39) rfl ar_316 ⟨by omega, by omega⟩ ?_
    rw [rc.1]
    refine zif_le (k := 40) rfl rfl (fun c2 => ?_) (fun c2 => ?_)
    · skip
      refine zaload_n (k := 122) rfl rfl ?_
      refine ziload_n (k := 123) rfl rfl ?_
      refine ziload_n (k := 124) rfl rfl ?_
      refine zpV0 (k := 125) rfl (c_M_goesOn hb1 hv h0 hSI hWI hm) fm_M_goesOn_ lk_12_472 rfl rfl ob_289 ⟨_, rfl, rfl⟩ (Nat.le_of_ble_eq_true rfl) (by decide) ⟨by decide, by decide⟩ (fun σ2 h2 => ?_)
      refine zreturn (k := 126) rfl rfl rfl ?_
      rw [← hQ]
      refine ⟨rfl, rfl, ?_⟩
      unfold metF
      first
      | (rw [if_pos (show knwF Wm S m (S 4 m) (S 0 0) = true from zB_t (by assumption))]; rw [show en + (0 : Int) = en from Int.add_zero en]; exact h2)
      | (rw [if_neg (show ¬ knwF Wm S m (S 4 m) (S 0 0) = true from zB_f (by assumption)), if_pos (by omega)]; rw [show en + (0 : Int) = en from Int.add_zero en]; exact h2)
      | (rw [if_neg (show ¬ knwF Wm S m (S 4 m) (S 0 0) = true from zB_f (by assumption)), if_neg (by omega)]; exact h2)
    · skip
      refine zaload_n (k := 41) rfl rfl ?_
      refine zgF 46 (k := 42) rfl ob_289 fl_12_153 rfl fx_289_46 ?_
      refine zbipush (k := 43) rfl rfl ?_
      refine ziload_n (k := 44) rfl rfl ?_
      refine zimulB (k := 45) rfl (by omega) ?_
      refine ziload (k := 46) rfl rfl ?_
      refine ziaddB (k := 47) rfl (by omega) ?_
      refine zdup2 (k := 48) rfl rfl rfl ?_
      refine ziaload (k := 49) rfl ar_316 ⟨by omega, by omega⟩ ?_
      rw [rc.1]
      refine ziconst (k := 50) rfl (by decide) ?_
      refine zisubB (k := 51) rfl (by omega) ?_
      refine ziastore (k := 52) rfl ar_316 ⟨by omega, by omega⟩ (by omega) ?_
      refine zaload_n (k := 53) rfl rfl ?_
      refine zgF 53 (k := 54) rfl ob_289 fl_12_174 rfl fx_289_53 ?_
      refine ziload_n (k := 55) rfl rfl ?_
      refine zaload_n (k := 56) rfl rfl ?_
      refine zgF 53 (k := 57) rfl ob_289 fl_12_174 rfl fx_289_53 ?_
      refine ziload_n (k := 58) rfl rfl ?_
      refine ziaload (k := 59) rfl ar_323 ⟨by omega, by omega⟩ ?_
      rw [zup_n (by omega), rm.2.2.2.2]
      refine zaload_n (k := 60) rfl rfl ?_
      refine zgF 47 (k := 61) rfl ob_289 fl_12_156 rfl fx_289_47 ?_
      refine zbipush (k := 62) rfl rfl ?_
      refine ziload_n (k := 63) rfl rfl ?_
      refine zimulB (k := 64) rfl (by omega) ?_
      refine ziload (k := 65) rfl rfl ?_
      refine ziaddB (k := 66) rfl (by omega) ?_
      refine ziaload (k := 67) rfl ar_317 ⟨by omega, by omega⟩ ?_
      rw [zup_n (by omega), rc.2.1]
      refine ziaddB (k := 68) rfl (by omega) ?_
      refine zsipush (k := 69) rfl rfl ?_
      refine zicmp_le (k := 70) rfl rfl (fun c3 => ?_) (fun c3 => ?_)
      · skip
        refine zaload_n (k := 73) rfl rfl ?_
        refine zgF 53 (k := 74) rfl ob_289 fl_12_174 rfl fx_289_53 ?_
        refine ziload_n (k := 75) rfl rfl ?_
        refine ziaload (k := 76) rfl ar_323 ⟨by omega, by omega⟩ ?_
        rw [zup_n (by omega), rm.2.2.2.2]
        refine zaload_n (k := 77) rfl rfl ?_
        refine zgF 47 (k := 78) rfl ob_289 fl_12_156 rfl fx_289_47 ?_
        refine zbipush (k := 79) rfl rfl ?_
        refine ziload_n (k := 80) rfl rfl ?_
        refine zimulB (k := 81) rfl (by omega) ?_
        refine ziload (k := 82) rfl rfl ?_
        refine ziaddB (k := 83) rfl (by omega) ?_
        refine ziaload (k := 84) rfl ar_317 ⟨by omega, by omega⟩ ?_
        rw [zup_n (by omega), rc.2.1]
        refine ziaddB (k := 85) rfl (by omega) ?_
        first | rw [show zI 9999 = zI (min 9999 (S 8 m + S 2 (S 4 m))) by rw [show min 9999 (S 8 m + S 2 (S 4 m)) = 9999 by omega]] | rw [show zI (S 8 m + S 2 (S 4 m)) = zI (min 9999 (S 8 m + S 2 (S 4 m))) by rw [show min 9999 (S 8 m + S 2 (S 4 m)) = S 8 m + S 2 (S 4 m) by omega]]
        refine ziastore (k := 86) rfl ar_323 ⟨by omega, by omega⟩ (by omega) ?_
        refine zaload_n (k := 87) rfl rfl ?_
        refine zgF 52 (k := 88) rfl ob_289 fl_12_171 rfl fx_289_52 ?_
        refine ziload_n (k := 89) rfl rfl ?_
        refine zaload_n (k := 90) rfl rfl ?_
        refine zgF 52 (k := 91) rfl ob_289 fl_12_171 rfl fx_289_52 ?_
        refine ziload_n (k := 92) rfl rfl ?_
        refine ziaload (k := 93) rfl ar_322 ⟨by omega, by omega⟩ ?_
        rw [zup_n (by omega), zup_n (by omega), rm.2.2.2.1]
        refine zbipush (k := 94) rfl rfl ?_
        refine zicmp_ge (k := 95) rfl rfl (fun c4 => ?_) (fun c4 => ?_)
        · skip
          refine zbipush (k := 103) rfl rfl ?_
          first | rw [show zI 99 = zI (min 99 (S 7 m + 1)) by rw [show min 99 (S 7 m + 1) = 99 by omega]] | rw [show zI (S 7 m + 1) = zI (min 99 (S 7 m + 1)) by rw [show min 99 (S 7 m + 1) = S 7 m + 1 by omega]]
          refine ziastore (k := 104) rfl ar_322 ⟨by omega, by omega⟩ (by omega) ?_
          refine zaload_n (k := 105) rfl rfl ?_
          refine zgF 50 (k := 106) rfl ob_289 fl_12_165 rfl fx_289_50 ?_
          refine ziload_n (k := 107) rfl rfl ?_
          refine ziconst (k := 108) rfl (by decide) ?_
          refine ziastore (k := 109) rfl ar_320 ⟨by omega, by omega⟩ (by omega) ?_
          refine zaload_n (k := 110) rfl rfl ?_
          refine zdup (k := 111) rfl rfl ?_
          refine zgI 62 (k := 112) rfl ob_289 fl_12_201 rfl fx_289_62 ?_
          rw [zup_n (by omega), zup_n (by omega), zup_n (by omega), zup_n (by omega), h62]
          refine ziconst (k := 113) rfl (by decide) ?_
          refine ziaddB (k := 114) rfl (by omega) ?_
          refine zpI 62 (k := 115) rfl ob_289 fl_12_201 ⟨_, rfl, rfl⟩ rfl (by omega) rfl fx_289_62 ?_
          have g4 := stM_e (e2 := en + 1) (stM_m (f := 5) (x := 2) (stM_m (f := 7) (x := min 99 (S 7 m + 1)) (stM_m (f := 8) (x := min 9999 (S 8 m + S 2 (S 4 m))) (stM_c (f := 1) (i := S 4 m) (x := S 1 (S 4 m) - 1) h0 (by omega) (by omega) w1.2) (by omega) ⟨hm.1, by omega⟩ w3.2) (by omega) ⟨hm.1, by omega⟩ w3.2) (by omega) ⟨hm.1, by omega⟩ w3.2)
          have s4 := SI_m (m := m) (SI_q hSI (c := S 4 m) (v := S 1 (S 4 m) - 1) (by omega)) (zup (zup (zup (zup S 1 (S 4 m) (S 1 (S 4 m) - 1)) 8 m (min 9999 (S 8 m + S 2 (S 4 m)))) 7 m (min 99 (S 7 m + 1))) 5 m 2) (fun g k q => by rw [zup_n (by omega), zup_n (by omega), zup_n (by omega)]) (by simp [zup]; omega)
          refine zaload_n (k := 116) rfl rfl ?_
          refine ziload_n (k := 117) rfl rfl ?_
          refine ziload_n (k := 118) rfl rfl ?_
          refine ziconst (k := 119) rfl (by decide) ?_
          refine zpV0 (k := 120) rfl (c_M_writesDown (t := 1) hb1 hv g4 s4 hWI hm (by omega)) fm_M_writesDown lk_12_469 rfl rfl ob_289 ⟨_, rfl, rfl⟩ (Nat.le_of_ble_eq_true rfl) (by decide) ⟨by decide, by decide⟩ (fun σ2 h2 => ?_)
          rw [entF_n (S := S) (by (repeat rw [zup_n (by omega)])), show zup (zup (zup (zup S 1 (S 4 m) (S 1 (S 4 m) - 1)) 8 m (min 9999 (S 8 m + S 2 (S 4 m)))) 7 m (min 99 (S 7 m + 1))) 5 m 2 4 m = S 4 m by (repeat rw [zup_n (by omega)])] at h2
          refine zgoto (k := 121) rfl rfl ?_
          refine zreturn (k := 126) rfl rfl rfl ?_
          rw [← hQ]
          refine ⟨rfl, rfl, ?_⟩
          unfold metF
          first
          | (rw [if_pos (show knwF Wm S m (S 4 m) (S 0 0) = true from zB_t (by assumption))]; rw [show en + (0 : Int) = en from Int.add_zero en]; exact h2)
          | (rw [if_neg (show ¬ knwF Wm S m (S 4 m) (S 0 0) = true from zB_f (by assumption)), if_pos (by omega)]; rw [show en + (0 : Int) = en from Int.add_zero en]; exact h2)
          | (rw [if_neg (show ¬ knwF Wm S m (S 4 m) (S 0 0) = true from zB_f (by assumption)), if_neg (by omega)]; exact h2)
        · skip
          refine zaload_n (k := 96) rfl rfl ?_
          refine zgF 52 (k := 97) rfl ob_289 fl_12_171 rfl fx_289_52 ?_
          refine ziload_n (k := 98) rfl rfl ?_
          refine ziaload (k := 99) rfl ar_322 ⟨by omega, by omega⟩ ?_
          rw [zup_n (by omega), zup_n (by omega), rm.2.2.2.1]
          refine ziconst (k := 100) rfl (by decide) ?_
          refine ziaddB (k := 101) rfl (by omega) ?_
          refine zgoto (k := 102) rfl rfl ?_
          first | rw [show zI 99 = zI (min 99 (S 7 m + 1)) by rw [show min 99 (S 7 m + 1) = 99 by omega]] | rw [show zI (S 7 m + 1) = zI (min 99 (S 7 m + 1)) by rw [show min 99 (S 7 m + 1) = S 7 m + 1 by omega]]
          refine ziastore (k := 104) rfl ar_322 ⟨by omega, by omega⟩ (by omega) ?_
          refine zaload_n (k := 105) rfl rfl ?_
          refine zgF 50 (k := 106) rfl ob_289 fl_12_165 rfl fx_289_50 ?_
          refine ziload_n (k := 107) rfl rfl ?_
          refine ziconst (k := 108) rfl (by decide) ?_
          refine ziastore (k := 109) rfl ar_320 ⟨by omega, by omega⟩ (by omega) ?_
          refine zaload_n (k := 110) rfl rfl ?_
          refine zdup (k := 111) rfl rfl ?_
          refine zgI 62 (k := 112) rfl ob_289 fl_12_201 rfl fx_289_62 ?_
          rw [zup_n (by omega), zup_n (by omega), zup_n (by omega), zup_n (by omega), h62]
          refine ziconst (k := 113) rfl (by decide) ?_
          refine ziaddB (k := 114) rfl (by omega) ?_
          refine zpI 62 (k := 115) rfl ob_289 fl_12_201 ⟨_, rfl, rfl⟩ rfl (by omega) rfl fx_289_62 ?_
          have g4 := stM_e (e2 := en + 1) (stM_m (f := 5) (x := 2) (stM_m (f := 7) (x := min 99 (S 7 m + 1)) (stM_m (f := 8) (x := min 9999 (S 8 m + S 2 (S 4 m))) (stM_c (f := 1) (i := S 4 m) (x := S 1 (S 4 m) - 1) h0 (by omega) (by omega) w1.2) (by omega) ⟨hm.1, by omega⟩ w3.2) (by omega) ⟨hm.1, by omega⟩ w3.2) (by omega) ⟨hm.1, by omega⟩ w3.2)
          have s4 := SI_m (m := m) (SI_q hSI (c := S 4 m) (v := S 1 (S 4 m) - 1) (by omega)) (zup (zup (zup (zup S 1 (S 4 m) (S 1 (S 4 m) - 1)) 8 m (min 9999 (S 8 m + S 2 (S 4 m)))) 7 m (min 99 (S 7 m + 1))) 5 m 2) (fun g k q => by rw [zup_n (by omega), zup_n (by omega), zup_n (by omega)]) (by simp [zup]; omega)
          refine zaload_n (k := 116) rfl rfl ?_
          refine ziload_n (k := 117) rfl rfl ?_
          refine ziload_n (k := 118) rfl rfl ?_
          refine ziconst (k := 119) rfl (by decide) ?_
          refine zpV0 (k := 120) rfl (c_M_writesDown (t := 1) hb1 hv g4 s4 hWI hm (by omega)) fm_M_writesDown lk_12_469 rfl rfl ob_289 ⟨_, rfl, rfl⟩ (Nat.le_of_ble_eq_true rfl) (by decide) ⟨by decide, by decide⟩ (fun σ2 h2 => ?_)
          rw [entF_n (S := S) (by (repeat rw [zup_n (by omega)])), show zup (zup (zup (zup S 1 (S 4 m) (S 1 (S 4 m) - 1)) 8 m (min 9999 (S 8 m + S 2 (S 4 m)))) 7 m (min 99 (S 7 m + 1))) 5 m 2 4 m = S 4 m by (repeat rw [zup_n (by omega)])] at h2
          refine zgoto (k := 121) rfl rfl ?_
          refine zreturn (k := 126) rfl rfl rfl ?_
          rw [← hQ]
          refine ⟨rfl, rfl, ?_⟩
          unfold metF
          first
          | (rw [if_pos (show knwF Wm S m (S 4 m) (S 0 0) = true from zB_t (by assumption))]; rw [show en + (0 : Int) = en from Int.add_zero en]; exact h2)
          | (rw [if_neg (show ¬ knwF Wm S m (S 4 m) (S 0 0) = true from zB_f (by assumption)), if_pos (by omega)]; rw [show en + (0 : Int) = en from Int.add_zero en]; exact h2)
          | (rw [if_neg (show ¬ knwF Wm S m (S 4 m) (S 0 0) = true from zB_f (by assumption)), if_neg (by omega)]; exact h2)
      · skip
        refine zsipush (k := 71) rfl rfl ?_
        refine zgoto (k := 72) rfl rfl ?_
        first | rw [show zI 9999 = zI (min 9999 (S 8 m + S 2 (S 4 m))) by rw [show min 9999 (S 8 m + S 2 (S 4 m)) = 9999 by omega]] | rw [show zI (S 8 m + S 2 (S 4 m)) = zI (min 9999 (S 8 m + S 2 (S 4 m))) by rw [show min 9999 (S 8 m + S 2 (S 4 m)) = S 8 m + S 2 (S 4 m) by omega]]
        refine ziastore (k := 86) rfl ar_323 ⟨by omega, by omega⟩ (by omega) ?_
        refine zaload_n (k := 87) rfl rfl ?_
        refine zgF 52 (k := 88) rfl ob_289 fl_12_171 rfl fx_289_52 ?_
        refine ziload_n (k := 89) rfl rfl ?_
        refine zaload_n (k := 90) rfl rfl ?_
        refine zgF 52 (k := 91) rfl ob_289 fl_12_171 rfl fx_289_52 ?_
        refine ziload_n (k := 92) rfl rfl ?_
        refine ziaload (k := 93) rfl ar_322 ⟨by omega, by omega⟩ ?_
        rw [zup_n (by omega), zup_n (by omega), rm.2.2.2.1]
        refine zbipush (k := 94) rfl rfl ?_
        refine zicmp_ge (k := 95) rfl rfl (fun c5 => ?_) (fun c5 => ?_)
        · skip
          refine zbipush (k := 103) rfl rfl ?_
          first | rw [show zI 99 = zI (min 99 (S 7 m + 1)) by rw [show min 99 (S 7 m + 1) = 99 by omega]] | rw [show zI (S 7 m + 1) = zI (min 99 (S 7 m + 1)) by rw [show min 99 (S 7 m + 1) = S 7 m + 1 by omega]]
          refine ziastore (k := 104) rfl ar_322 ⟨by omega, by omega⟩ (by omega) ?_
          refine zaload_n (k := 105) rfl rfl ?_
          refine zgF 50 (k := 106) rfl ob_289 fl_12_165 rfl fx_289_50 ?_
          refine ziload_n (k := 107) rfl rfl ?_
          refine ziconst (k := 108) rfl (by decide) ?_
          refine ziastore (k := 109) rfl ar_320 ⟨by omega, by omega⟩ (by omega) ?_
          refine zaload_n (k := 110) rfl rfl ?_
          refine zdup (k := 111) rfl rfl ?_
          refine zgI 62 (k := 112) rfl ob_289 fl_12_201 rfl fx_289_62 ?_
          rw [zup_n (by omega), zup_n (by omega), zup_n (by omega), zup_n (by omega), h62]
          refine ziconst (k := 113) rfl (by decide) ?_
          refine ziaddB (k := 114) rfl (by omega) ?_
          refine zpI 62 (k := 115) rfl ob_289 fl_12_201 ⟨_, rfl, rfl⟩ rfl (by omega) rfl fx_289_62 ?_
          have g4 := stM_e (e2 := en + 1) (stM_m (f := 5) (x := 2) (stM_m (f := 7) (x := min 99 (S 7 m + 1)) (stM_m (f := 8) (x := min 9999 (S 8 m + S 2 (S 4 m))) (stM_c (f := 1) (i := S 4 m) (x := S 1 (S 4 m) - 1) h0 (by omega) (by omega) w1.2) (by omega) ⟨hm.1, by omega⟩ w3.2) (by omega) ⟨hm.1, by omega⟩ w3.2) (by omega) ⟨hm.1, by omega⟩ w3.2)
          have s4 := SI_m (m := m) (SI_q hSI (c := S 4 m) (v := S 1 (S 4 m) - 1) (by omega)) (zup (zup (zup (zup S 1 (S 4 m) (S 1 (S 4 m) - 1)) 8 m (min 9999 (S 8 m + S 2 (S 4 m)))) 7 m (min 99 (S 7 m + 1))) 5 m 2) (fun g k q => by rw [zup_n (by omega), zup_n (by omega), zup_n (by omega)]) (by simp [zup]; omega)
          refine zaload_n (k := 116) rfl rfl ?_
          refine ziload_n (k := 117) rfl rfl ?_
          refine ziload_n (k := 118) rfl rfl ?_
          refine ziconst (k := 119) rfl (by decide) ?_
          refine zpV0 (k := 120) rfl (c_M_writesDown (t := 1) hb1 hv g4 s4 hWI hm (by omega)) fm_M_writesDown lk_12_469 rfl rfl ob_289 ⟨_, rfl, rfl⟩ (Nat.le_of_ble_eq_true rfl) (by decide) ⟨by decide, by decide⟩ (fun σ2 h2 => ?_)
          rw [entF_n (S := S) (by (repeat rw [zup_n (by omega)])), show zup (zup (zup (zup S 1 (S 4 m) (S 1 (S 4 m) - 1)) 8 m (min 9999 (S 8 m + S 2 (S 4 m)))) 7 m (min 99 (S 7 m + 1))) 5 m 2 4 m = S 4 m by (repeat rw [zup_n (by omega)])] at h2
          refine zgoto (k := 121) rfl rfl ?_
          refine zreturn (k := 126) rfl rfl rfl ?_
          rw [← hQ]
          refine ⟨rfl, rfl, ?_⟩
          unfold metF
          first
          | (rw [if_pos (show knwF Wm S m (S 4 m) (S 0 0) = true from zB_t (by assumption))]; rw [show en + (0 : Int) = en from Int.add_zero en]; exact h2)
          | (rw [if_neg (show ¬ knwF Wm S m (S 4 m) (S 0 0) = true from zB_f (by assumption)), if_pos (by omega)]; rw [show en + (0 : Int) = en from Int.add_zero en]; exact h2)
          | (rw [if_neg (show ¬ knwF Wm S m (S 4 m) (S 0 0) = true from zB_f (by assumption)), if_neg (by omega)]; exact h2)
        · skip
          refine zaload_n (k := 96) rfl rfl ?_
          refine zgF 52 (k := 97) rfl ob_289 fl_12_171 rfl fx_289_52 ?_
          refine ziload_n (k := 98) rfl rfl ?_
          refine ziaload (k := 99) rfl ar_322 ⟨by omega, by omega⟩ ?_
          rw [zup_n (by omega), zup_n (by omega), rm.2.2.2.1]
          refine ziconst (k := 100) rfl (by decide) ?_
          refine ziaddB (k := 101) rfl (by omega) ?_
          refine zgoto (k := 102) rfl rfl ?_
          first | rw [show zI 99 = zI (min 99 (S 7 m + 1)) by rw [show min 99 (S 7 m + 1) = 99 by omega]] | rw [show zI (S 7 m + 1) = zI (min 99 (S 7 m + 1)) by rw [show min 99 (S 7 m + 1) = S 7 m + 1 by omega]]
          refine ziastore (k := 104) rfl ar_322 ⟨by omega, by omega⟩ (by omega) ?_
          refine zaload_n (k := 105) rfl rfl ?_
          refine zgF 50 (k := 106) rfl ob_289 fl_12_165 rfl fx_289_50 ?_
          refine ziload_n (k := 107) rfl rfl ?_
          refine ziconst (k := 108) rfl (by decide) ?_
          refine ziastore (k := 109) rfl ar_320 ⟨by omega, by omega⟩ (by omega) ?_
          refine zaload_n (k := 110) rfl rfl ?_
          refine zdup (k := 111) rfl rfl ?_
          refine zgI 62 (k := 112) rfl ob_289 fl_12_201 rfl fx_289_62 ?_
          rw [zup_n (by omega), zup_n (by omega), zup_n (by omega), zup_n (by omega), h62]
          refine ziconst (k := 113) rfl (by decide) ?_
          refine ziaddB (k := 114) rfl (by omega) ?_
          refine zpI 62 (k := 115) rfl ob_289 fl_12_201 ⟨_, rfl, rfl⟩ rfl (by omega) rfl fx_289_62 ?_
          have g4 := stM_e (e2 := en + 1) (stM_m (f := 5) (x := 2) (stM_m (f := 7) (x := min 99 (S 7 m + 1)) (stM_m (f := 8) (x := min 9999 (S 8 m + S 2 (S 4 m))) (stM_c (f := 1) (i := S 4 m) (x := S 1 (S 4 m) - 1) h0 (by omega) (by omega) w1.2) (by omega) ⟨hm.1, by omega⟩ w3.2) (by omega) ⟨hm.1, by omega⟩ w3.2) (by omega) ⟨hm.1, by omega⟩ w3.2)
          have s4 := SI_m (m := m) (SI_q hSI (c := S 4 m) (v := S 1 (S 4 m) - 1) (by omega)) (zup (zup (zup (zup S 1 (S 4 m) (S 1 (S 4 m) - 1)) 8 m (min 9999 (S 8 m + S 2 (S 4 m)))) 7 m (min 99 (S 7 m + 1))) 5 m 2) (fun g k q => by rw [zup_n (by omega), zup_n (by omega), zup_n (by omega)]) (by simp [zup]; omega)
          refine zaload_n (k := 116) rfl rfl ?_
          refine ziload_n (k := 117) rfl rfl ?_
          refine ziload_n (k := 118) rfl rfl ?_
          refine ziconst (k := 119) rfl (by decide) ?_
          refine zpV0 (k := 120) rfl (c_M_writesDown (t := 1) hb1 hv g4 s4 hWI hm (by omega)) fm_M_writesDown lk_12_469 rfl rfl ob_289 ⟨_, rfl, rfl⟩ (Nat.le_of_ble_eq_true rfl) (by decide) ⟨by decide, by decide⟩ (fun σ2 h2 => ?_)
          rw [entF_n (S := S) (by (repeat rw [zup_n (by omega)])), show zup (zup (zup (zup S 1 (S 4 m) (S 1 (S 4 m) - 1)) 8 m (min 9999 (S 8 m + S 2 (S 4 m)))) 7 m (min 99 (S 7 m + 1))) 5 m 2 4 m = S 4 m by (repeat rw [zup_n (by omega)])] at h2
          refine zgoto (k := 121) rfl rfl ?_
          refine zreturn (k := 126) rfl rfl rfl ?_
          rw [← hQ]
          refine ⟨rfl, rfl, ?_⟩
          unfold metF
          first
          | (rw [if_pos (show knwF Wm S m (S 4 m) (S 0 0) = true from zB_t (by assumption))]; rw [show en + (0 : Int) = en from Int.add_zero en]; exact h2)
          | (rw [if_neg (show ¬ knwF Wm S m (S 4 m) (S 0 0) = true from zB_f (by assumption)), if_pos (by omega)]; rw [show en + (0 : Int) = en from Int.add_zero en]; exact h2)
          | (rw [if_neg (show ¬ knwF Wm S m (S 4 m) (S 0 0) = true from zB_f (by assumption)), if_neg (by omega)]; exact h2)
  · skip
    refine zaload_n (k := 21) rfl rfl ?_
    refine zgF 50 (k := 22) rfl ob_289 fl_12_165 rfl fx_289_50 ?_
    refine ziload_n (k := 23) rfl rfl ?_
    refine ziconst (k := 24) rfl (by decide) ?_
    refine ziastore (k := 25) rfl ar_320 ⟨by omega, by omega⟩ (by omega) ?_
    have g3 := stM_m (f := 5) (i := m) (x := 3) h0 (by omega) ⟨hm.1, by omega⟩ w3.2
    have s3 := SI_m (m := m) hSI (zup S 5 m 3) (fun g k q => zup_n (by omega)) (by simp [zup]; omega)
    refine zaload_n (k := 26) rfl rfl ?_
    refine ziload_n (k := 27) rfl rfl ?_
    refine ziload_n (k := 28) rfl rfl ?_
    refine ziconst (k := 29) rfl (by decide) ?_
    refine zpV0 (k := 30) rfl (c_M_writesDown (t := 3) hb1 hv g3 s3 hWI hm (by omega)) fm_M_writesDown lk_12_469 rfl rfl ob_289 ⟨_, rfl, rfl⟩ (Nat.le_of_ble_eq_true rfl) (by decide) ⟨by decide, by decide⟩ (fun σ2 h2 => ?_)
    rw [entF_n (S := S) (by rw [zup_n (by omega)]), zup_n (a' := 4) (by omega)] at h2
    refine zgoto (k := 31) rfl rfl ?_
    refine zreturn (k := 126) rfl rfl rfl ?_
    rw [← hQ]
    refine ⟨rfl, rfl, ?_⟩
    unfold metF
    first
    | (rw [if_pos (show knwF Wm S m (S 4 m) (S 0 0) = true from zB_t (by assumption))]; rw [show en + (0 : Int) = en from Int.add_zero en]; exact h2)
    | (rw [if_neg (show ¬ knwF Wm S m (S 4 m) (S 0 0) = true from zB_f (by assumption)), if_pos (by omega)]; rw [show en + (0 : Int) = en from Int.add_zero en]; exact h2)
    | (rw [if_neg (show ¬ knwF Wm S m (S 4 m) (S 0 0) = true from zB_f (by assumption)), if_neg (by omega)]; exact h2)
