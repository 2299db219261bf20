set_option maxHeartbeats 4000000 in
set_option maxRecDepth 20000 in
theorem c_M_manOn {Γ : zv_M} {L : Int} {σ Wm : zv_H} {b : Int} (hb : σ 289 13 = b) (hb1_q : b = 0 ∨ b = 1) (hnc : σ 291 b = Wm 0 1) (w1_q : 0 ≤ Wm 0 1 ∧ Wm 0 1 ≤ 7) {wk : Int} (hwk : σ 315 1 = wk) (hwb : 0 ≤ wk ∧ wk ≤ 999) {T : Int → Int} {m p : Int} (hm : 0 ≤ m ∧ m < 6) (hp : 0 ≤ p ∧ p ≤ 1600) (hT : ∀ k, p ≤ k → k < p + 6 + Wm 0 1 → σ 290 k = T k ∧ 0 ≤ T k ∧ T k ≤ 255)  : zC Γ m_M_manOn 1 0 0 (GM L) [zR 289, zI m, zI p] σ (zPI (GM L) (fun z σ' => (z = 0 ∨ z = 1) ∧ (z = 1 ↔ mOK T (Wm 0 1) p) ∧ σ' = duM T m p wk (zup (zup (zup (zup (zup σ 319 (6 + m) (T p)) 320 (6 + m) (T (p + 1))) 321 (6 + m) (T (p + 2))) 322 (6 + m) (T (p + 3))) 323 (6 + m) (256 * T (p + 4) + T (p + 5))) (Wm 0 1))) := by
  refine zC_of (ls0 := [_, _, _, _, _]) zm_M_manOn (by decide) rfl (Nat.le_of_ble_eq_true rfl) ?_
  generalize hQ : (zPI (GM L) (fun z σ' => (z = 0 ∨ z = 1) ∧ (z = 1 ↔ mOK T (Wm 0 1) p) ∧ σ' = duM T m p wk (zup (zup (zup (zup (zup σ 319 (6 + m) (T p)) 320 (6 + m) (T (p + 1))) 321 (6 + m) (T (p + 2))) 322 (6 + m) (T (p + 3))) 323 (6 + m) (256 * T (p + 4) + T (p + 5))) (Wm 0 1))) = Q
  have s1_q := hT (p + 1) (by omega) (by omega)
  have s2_q := hT (p + 2) (by omega) (by omega)
  have s3_q := hT (p + 3) (by omega) (by omega)
  have s4_q := hT (p + 4) (by omega) (by omega)
  have s5_q := hT (p + 5) (by omega) (by omega)
  have s0_q := hT p (by omega) (by omega)
  have e45_q : p + 4 + 1 = p + 5 := by omega
  obtain ⟨σ5, h5_q⟩ : ∃ σ5 : zv_H, σ5 = zup (zup (zup (zup (zup σ 319 (6 + m) (T p)) 320 (6 + m) (T (p + 1))) 321 (6 + m) (T (p + 2))) 322 (6 + m) (T (p + 3))) 323 (6 + m) (256 * T (p + 4) + T (p + 5)) := ⟨_, rfl⟩
  have g5_q : ∀ x k, ¬ (319 ≤ x ∧ x ≤ 323) → σ5 x k = σ x k := fun x k q => by rw [h5_q, zup_n (by omega), zup_n (by omega), zup_n (by omega), zup_n (by omega), zup_n (by omega)]
  have fr : ∀ x k j, ¬ (319 ≤ x ∧ x ≤ 324) → duM T m p wk σ5 j x k = σ x k := fun x k j q => by rw [duM_n (by omega), g5_q x k (by omega)]
  rw [← h5_q] at hQ
  have cut195_q : ∀ (v : Int), ((v = 0 ∨ v = 1) ∧ (v = 1 ↔ ((T (p + 1) = 1 ∧ 1 ≤ T (p + 2) ∧ T (p + 2) ≤ 99) ∨ (T (p + 1) ≠ 1 ∧ T (p + 2) = 0)))) → zV Γ m_M_manOn 1 0 0 Q (GM L) (0, 0) 195 [some (zR 289), some (zI m), some (zI p), none, none] [zI v] (duM T m p wk σ5 (Wm 0 1)) := by
    intro v hv
    refine zistore (k := 126) (ls' := [_, _, _, _, _]) rfl (Nat.le_of_ble_eq_true rfl) rfl ?_
    refine zaload_n (k := 127) rfl rfl ?_
    refine zaload_n (k := 128) rfl rfl ?_
    refine zgF 0 (k := 129) rfl ob_289 fl_12_7 rfl fx_289_0 ?_
    refine ziload_n (k := 130) rfl rfl ?_
    refine ziaload (k := 131) rfl ar_290 ⟨by omega, by omega⟩ ?_
    rw [fr 290 _ _ (by omega), s0_q.1]
    refine zfV1 (k := 132) rfl (c_M_isCounty (b := b) ((fr 289 13 _ (by omega)).trans hb) hb1_q) fm_M_isCounty lk_12_492 rfl rfl ob_289 ⟨_, rfl, rfl⟩ (Nat.le_of_ble_eq_true rfl) (by decide) ⟨by decide, by decide⟩ ?_
    rw [fr 291 b _ (by omega), hnc]
    refine zif_eq (k := 133) rfl rfl (fun c1_q => ?_) (fun c1_q => ?_)
    · skip
      refine ziconst (k := 161) rfl (by decide) ?_
      refine zzreturn (k := 162) rfl rfl (by first | exact Or.inl rfl | exact Or.inr rfl | omega) rfl ?_
      rw [← hQ]
      refine ⟨rfl, _, rfl, by first | exact Or.inl rfl | exact Or.inr rfl, ?_, rfl⟩
      have hv2_q := hv.2
      unfold mOK
      constructor
      · intro q; first | (exact absurd q (by decide)) | exact ⟨by omega, by omega, hv2_q.mp (by omega), by omega, by omega⟩
      · rintro ⟨q1_q, q2_q, q3_q, q4_q, q5_q⟩; first | rfl | (exfalso; have q6_q := hv2_q.mpr q3_q; omega)
    · skip
      refine zaload_n (k := 134) rfl rfl ?_
      refine zgF 0 (k := 135) rfl ob_289 fl_12_7 rfl fx_289_0 ?_
      refine ziload_n (k := 136) rfl rfl ?_
      refine ziconst (k := 137) rfl (by decide) ?_
      refine ziaddB (k := 138) rfl (by omega) ?_
      refine ziaload (k := 139) rfl ar_290 ⟨by omega, by omega⟩ ?_
      rw [fr 290 _ _ (by omega), s1_q.1]
      refine ziconst (k := 140) rfl (by decide) ?_
      refine zicmp_gt (k := 141) rfl rfl (fun c2_q => ?_) (fun c2_q => ?_)
      · skip
        refine ziconst (k := 161) rfl (by decide) ?_
        refine zzreturn (k := 162) rfl rfl (by first | exact Or.inl rfl | exact Or.inr rfl | omega) rfl ?_
        rw [← hQ]
        refine ⟨rfl, _, rfl, by first | exact Or.inl rfl | exact Or.inr rfl, ?_, rfl⟩
        have hv2_q := hv.2
        unfold mOK
        constructor
        · intro q; first | (exact absurd q (by decide)) | exact ⟨by omega, by omega, hv2_q.mp (by omega), by omega, by omega⟩
        · rintro ⟨q1_q, q2_q, q3_q, q4_q, q5_q⟩; first | rfl | (exfalso; have q6_q := hv2_q.mpr q3_q; omega)
      · skip
        refine ziload (k := 142) rfl rfl ?_
        refine zif_eq (k := 143) rfl rfl (fun c3_q => ?_) (fun c3_q => ?_)
        · skip
          refine ziconst (k := 161) rfl (by decide) ?_
          refine zzreturn (k := 162) rfl rfl (by first | exact Or.inl rfl | exact Or.inr rfl | omega) rfl ?_
          rw [← hQ]
          refine ⟨rfl, _, rfl, by first | exact Or.inl rfl | exact Or.inr rfl, ?_, rfl⟩
          have hv2_q := hv.2
          unfold mOK
          constructor
          · intro q; first | (exact absurd q (by decide)) | exact ⟨by omega, by omega, hv2_q.mp (by omega), by omega, by omega⟩
          · rintro ⟨q1_q, q2_q, q3_q, q4_q, q5_q⟩; first | rfl | (exfalso; have q6_q := hv2_q.mpr q3_q; omega)
        · skip
          refine zaload_n (k := 144) rfl rfl ?_
          refine zgF 0 (k := 145) rfl ob_289 fl_12_7 rfl fx_289_0 ?_
          refine ziload_n (k := 146) rfl rfl ?_
          refine ziconst (k := 147) rfl (by decide) ?_
          refine ziaddB (k := 148) rfl (by omega) ?_
          refine ziaload (k := 149) rfl ar_290 ⟨by omega, by omega⟩ ?_
          rw [fr 290 _ _ (by omega), s3_q.1]
          refine zbipush (k := 150) rfl rfl ?_
          refine zicmp_gt (k := 151) rfl rfl (fun c4_q => ?_) (fun c4_q => ?_)
          · skip
            refine ziconst (k := 161) rfl (by decide) ?_
            refine zzreturn (k := 162) rfl rfl (by first | exact Or.inl rfl | exact Or.inr rfl | omega) rfl ?_
            rw [← hQ]
            refine ⟨rfl, _, rfl, by first | exact Or.inl rfl | exact Or.inr rfl, ?_, rfl⟩
            have hv2_q := hv.2
            unfold mOK
            constructor
            · intro q; first | (exact absurd q (by decide)) | exact ⟨by omega, by omega, hv2_q.mp (by omega), by omega, by omega⟩
            · rintro ⟨q1_q, q2_q, q3_q, q4_q, q5_q⟩; first | rfl | (exfalso; have q6_q := hv2_q.mpr q3_q; omega)
          · skip
            refine zaload_n (k := 152) rfl rfl ?_
            refine ziload_n (k := 153) rfl rfl ?_
            refine ziconst (k := 154) rfl (by decide) ?_
            refine ziaddB (k := 155) rfl (by omega) ?_
            refine zfV1 (k := 156) rfl (c_M_twoBytes (p := p + 4) (by rw [fr 290 _ _ (by omega), s4_q.1]; omega) (by rw [e45_q, fr 290 _ _ (by omega), s5_q.1]; omega) (by omega)) fm_M_twoBytes lk_12_545 rfl rfl ob_289 ⟨_, rfl, rfl⟩ (Nat.le_of_ble_eq_true rfl) (by decide) ⟨by decide, by decide⟩ ?_
            rw [e45_q, fr 290 _ _ (by omega), fr 290 _ _ (by omega), s4_q.1, s5_q.1]
            refine zsipush (k := 157) rfl rfl ?_
            refine zicmp_gt (k := 158) rfl rfl (fun c5_q => ?_) (fun c5_q => ?_)
            · skip
              refine ziconst (k := 161) rfl (by decide) ?_
              refine zzreturn (k := 162) rfl rfl (by first | exact Or.inl rfl | exact Or.inr rfl | omega) rfl ?_
              rw [← hQ]
              refine ⟨rfl, _, rfl, by first | exact Or.inl rfl | exact Or.inr rfl, ?_, rfl⟩
              have hv2_q := hv.2
              unfold mOK
              constructor
              · intro q; first | (exact absurd q (by decide)) | exact ⟨by omega, by omega, hv2_q.mp (by omega), by omega, by omega⟩
              · rintro ⟨q1_q, q2_q, q3_q, q4_q, q5_q⟩; first | rfl | (exfalso; have q6_q := hv2_q.mpr q3_q; omega)
            · skip
              refine ziconst (k := 159) rfl (by decide) ?_
              refine zgoto (k := 160) rfl rfl ?_
              refine zzreturn (k := 162) rfl rfl (by first | exact Or.inl rfl | exact Or.inr rfl | omega) rfl ?_
              rw [← hQ]
              refine ⟨rfl, _, rfl, by first | exact Or.inl rfl | exact Or.inr rfl, ?_, rfl⟩
              have hv2_q := hv.2
              unfold mOK
              constructor
              · intro q; first | (exact absurd q (by decide)) | exact ⟨by omega, by omega, hv2_q.mp (by omega), by omega, by omega⟩
              · rintro ⟨q1_q, q2_q, q3_q, q4_q, q5_q⟩; first | rfl | (exfalso; have q6_q := hv2_q.mpr q3_q; omega)
  refine zbipush (k := 0) rfl rfl ?_
  refine ziload_n (k := 1) rfl rfl ?_
  refine ziaddB (k := 2) rfl (by omega) ?_
  refine zistore_n (k := 3) (ls' := [_, _, _, _, _]) rfl (Nat.le_of_ble_eq_true rfl) rfl ?_
  refine zaload_n (k := 4) rfl rfl ?_
  refine zgF 49 (k := 5) rfl ob_289 fl_12_162 rfl fx_289_49 ?_
  refine ziload_n (k := 6) rfl rfl ?_
  refine zaload_n (k := 7) rfl rfl ?_
  refine zgF 0 (k := 8) rfl ob_289 fl_12_7 rfl fx_289_0 ?_
  refine ziload_n (k := 9) rfl rfl ?_
  refine ziaload (k := 10) rfl ar_290 ⟨by omega, by omega⟩ ?_
  rw [s0_q.1]
  refine ziastore (k := 11) rfl ar_319 ⟨by omega, by omega⟩ (by omega) ?_
  refine zaload_n (k := 12) rfl rfl ?_
  refine zgF 50 (k := 13) rfl ob_289 fl_12_165 rfl fx_289_50 ?_
  refine ziload_n (k := 14) rfl rfl ?_
  refine zaload_n (k := 15) rfl rfl ?_
  refine zgF 0 (k := 16) rfl ob_289 fl_12_7 rfl fx_289_0 ?_
  refine ziload_n (k := 17) rfl rfl ?_
  refine ziconst (k := 18) rfl (by decide) ?_
  refine ziaddB (k := 19) rfl (by omega) ?_
  refine ziaload (k := 20) rfl ar_290 ⟨by omega, by omega⟩ ?_
  rw [zup_n (by omega), s1_q.1]
  refine ziastore (k := 21) rfl ar_320 ⟨by omega, by omega⟩ (by omega) ?_
  refine zaload_n (k := 22) rfl rfl ?_
  refine zgF 51 (k := 23) rfl ob_289 fl_12_168 rfl fx_289_51 ?_
  refine ziload_n (k := 24) rfl rfl ?_
  refine zaload_n (k := 25) rfl rfl ?_
  refine zgF 0 (k := 26) rfl ob_289 fl_12_7 rfl fx_289_0 ?_
  refine ziload_n (k := 27) rfl rfl ?_
  refine ziconst (k := 28) rfl (by decide) ?_
  refine ziaddB (k := 29) rfl (by omega) ?_
  refine ziaload (k := 30) rfl ar_290 ⟨by omega, by omega⟩ ?_
  rw [zup_n (by omega), zup_n (by omega), s2_q.1]
  refine ziastore (k := 31) rfl ar_321 ⟨by omega, by omega⟩ (by omega) ?_
  refine zaload_n (k := 32) rfl rfl ?_
  refine zgF 52 (k := 33) rfl ob_289 fl_12_171 rfl fx_289_52 ?_
  refine ziload_n (k := 34) rfl rfl ?_
  refine zaload_n (k := 35) rfl rfl ?_
  refine zgF 0 (k := 36) rfl ob_289 fl_12_7 rfl fx_289_0 ?_
  refine ziload_n (k := 37) rfl rfl ?_
  refine ziconst (k := 38) rfl (by decide) ?_
  refine ziaddB (k := 39) rfl (by omega) ?_
  refine ziaload (k := 40) rfl ar_290 ⟨by omega, by omega⟩ ?_
  rw [zup_n (by omega), zup_n (by omega), zup_n (by omega), s3_q.1]
  refine ziastore (k := 41) rfl ar_322 ⟨by omega, by omega⟩ (by omega) ?_
  refine zaload_n (k := 42) rfl rfl ?_
  refine zgF 53 (k := 43) rfl ob_289 fl_12_174 rfl fx_289_53 ?_
  refine ziload_n (k := 44) rfl rfl ?_
  refine zaload_n (k := 45) rfl rfl ?_
  refine ziload_n (k := 46) rfl rfl ?_
  refine ziconst (k := 47) rfl (by decide) ?_
  refine ziaddB (k := 48) rfl (by omega) ?_
  refine zfV1 (k := 49) rfl (c_M_twoBytes (p := p + 4) (by rw [zup_n (by omega), zup_n (by omega), zup_n (by omega), zup_n (by omega), s4_q.1]; omega) (by rw [e45_q, zup_n (by omega), zup_n (by omega), zup_n (by omega), zup_n (by omega), s5_q.1]; omega) (by omega)) fm_M_twoBytes lk_12_545 rfl rfl ob_289 ⟨_, rfl, rfl⟩ (Nat.le_of_ble_eq_true rfl) (by decide) ⟨by decide, by decide⟩ ?_
  rw [e45_q, show (zup (zup (zup (zup σ 319 (6 + m) (T p)) 320 (6 + m) (T (p + 1))) 321 (6 + m) (T (p + 2))) 322 (6 + m) (T (p + 3))) 290 (p + 4) = T (p + 4) by rw [zup_n (by omega), zup_n (by omega), zup_n (by omega), zup_n (by omega), s4_q.1], show (zup (zup (zup (zup σ 319 (6 + m) (T p)) 320 (6 + m) (T (p + 1))) 321 (6 + m) (T (p + 2))) 322 (6 + m) (T (p + 3))) 290 (p + 5) = T (p + 5) by rw [zup_n (by omega), zup_n (by omega), zup_n (by omega), zup_n (by omega), s5_q.1]]
  refine ziastore (k := 50) rfl ar_323 ⟨by omega, by omega⟩ (by omega) ?_
  rw [← h5_q]
  refine ziconst (k := 51) rfl (by decide) ?_
  refine zistore (k := 52) (ls' := [_, _, _, _, _]) rfl (Nat.le_of_ble_eq_true rfl) rfl ?_
  have lp75_q : ∀ (g : Nat) (j : Nat), ((Wm 0 1).toNat - j) < g → ((j : Int) ≤ Wm 0 1) → zV Γ m_M_manOn 1 0 0 Q (GM L) (0, 0) 75 [some (zR 289), some (zI m), some (zI p), some (zI (6 + m)), some (zI j)] [] (duM T m p wk σ5 j) := by
    intro g
    induction g with
    | zero => intro j hg; exact absurd hg (Nat.not_lt_zero _)
    | succ g ih75_q =>
      intro j hg hj
      refine ziload (k := 53) rfl rfl ?_
      refine zaload_n (k := 54) rfl rfl ?_
      refine zgF 14 (k := 55) rfl ob_289 fl_12_54 rfl fx_289_14 ?_
      refine zaload_n (k := 56) rfl rfl ?_
      refine zgI 13 (k := 57) rfl ob_289 fl_12_51 rfl fx_289_13 ?_
      rw [fr 289 13 _ (by omega), hb]
      refine ziaload (k := 58) rfl ar_291 ⟨by omega, by omega⟩ ?_
      rw [fr 291 b _ (by omega), hnc]
      refine zicmp_ge (k := 59) rfl rfl (fun c6_q => ?_) (fun c6_q => ?_)
      · skip
        rw [show (j : Int) = Wm 0 1 by omega]
        refine zaload_n (k := 98) rfl rfl ?_
        refine zgF 0 (k := 99) rfl ob_289 fl_12_7 rfl fx_289_0 ?_
        refine ziload_n (k := 100) rfl rfl ?_
        refine ziconst (k := 101) rfl (by decide) ?_
        refine ziaddB (k := 102) rfl (by omega) ?_
        refine ziaload (k := 103) rfl ar_290 ⟨by omega, by omega⟩ ?_
        rw [fr 290 _ _ (by omega), s1_q.1]
        refine ziconst (k := 104) rfl (by decide) ?_
        refine zicmp_ne (k := 105) rfl rfl (fun c7_q => ?_) (fun c7_q => ?_)
        · skip
          refine zaload_n (k := 116) rfl rfl ?_
          refine zgF 0 (k := 117) rfl ob_289 fl_12_7 rfl fx_289_0 ?_
          refine ziload_n (k := 118) rfl rfl ?_
          refine ziconst (k := 119) rfl (by decide) ?_
          refine ziaddB (k := 120) rfl (by omega) ?_
          refine ziaload (k := 121) rfl ar_290 ⟨by omega, by omega⟩ ?_
          rw [fr 290 _ _ (by omega), s2_q.1]
          refine zif_ne (k := 122) rfl rfl (fun c8_q => ?_) (fun c8_q => ?_)
          · skip
            refine ziconst (k := 125) rfl (by decide) ?_
            refine zforget (ls' := [_, _, _, _, _]) 3 rfl ?_
            refine zforget (ls' := [_, _, _, _, _]) 4 rfl ?_
            refine cut195_q _ ⟨?_, ?_⟩
            · first
              | exact Or.inl rfl
              | exact Or.inr rfl
              | (split; exact Or.inr rfl; exact Or.inl rfl)
            · first
              | (exact ⟨fun _ => by omega, fun _ => rfl⟩)
              | (exact ⟨fun q => absurd q (by decide), fun q => by omega⟩)
              | (split
                 · exact ⟨fun _ => by omega, fun _ => rfl⟩
                 · exact ⟨fun q => absurd q (by decide), fun q => by omega⟩)
          · skip
            refine ziconst (k := 123) rfl (by decide) ?_
            refine zgoto (k := 124) rfl rfl ?_
            refine zforget (ls' := [_, _, _, _, _]) 3 rfl ?_
            refine zforget (ls' := [_, _, _, _, _]) 4 rfl ?_
            refine cut195_q _ ⟨?_, ?_⟩
            · first
              | exact Or.inl rfl
              | exact Or.inr rfl
              | (split; exact Or.inr rfl; exact Or.inl rfl)
            · first
              | (exact ⟨fun _ => by omega, fun _ => rfl⟩)
              | (exact ⟨fun q => absurd q (by decide), fun q => by omega⟩)
              | (split
                 · exact ⟨fun _ => by omega, fun _ => rfl⟩
                 · exact ⟨fun q => absurd q (by decide), fun q => by omega⟩)
        · skip
          refine zaload_n (k := 106) rfl rfl ?_
          refine zgF 0 (k := 107) rfl ob_289 fl_12_7 rfl fx_289_0 ?_
          refine ziload_n (k := 108) rfl rfl ?_
          refine ziconst (k := 109) rfl (by decide) ?_
          refine ziaddB (k := 110) rfl (by omega) ?_
          refine ziaload (k := 111) rfl ar_290 ⟨by omega, by omega⟩ ?_
          rw [fr 290 _ _ (by omega), s2_q.1]
          refine ziconst (k := 112) rfl (by decide) ?_
          refine zbipush (k := 113) rfl rfl ?_
          refine zfS1 (k := 114) rfl c_M_is fm_M_is lk_12_315 rfl rfl (Nat.le_of_ble_eq_true rfl) (by decide) ⟨by decide, by decide⟩ ?_
          refine zgoto (k := 115) rfl rfl ?_
          refine zforget (ls' := [_, _, _, _, _]) 3 rfl ?_
          refine zforget (ls' := [_, _, _, _, _]) 4 rfl ?_
          refine cut195_q _ ⟨?_, ?_⟩
          · first
            | exact Or.inl rfl
            | exact Or.inr rfl
            | (split; exact Or.inr rfl; exact Or.inl rfl)
          · first
            | (exact ⟨fun _ => by omega, fun _ => rfl⟩)
            | (exact ⟨fun q => absurd q (by decide), fun q => by omega⟩)
            | (split
               · exact ⟨fun _ => by omega, fun _ => rfl⟩
               · exact ⟨fun q => absurd q (by decide), fun q => by omega⟩)
      · skip
        refine zaload_n (k := 60) rfl rfl ?_
        refine zgF 54 (k := 61) rfl ob_289 fl_12_177 rfl fx_289_54 ?_
        refine zbipush (k := 62) rfl rfl ?_
        refine zbipush (k := 63) rfl rfl ?_
        refine ziload_n (k := 64) rfl rfl ?_
        refine zimulB (k := 65) rfl (by omega) ?_
        refine ziaddB (k := 66) rfl (by omega) ?_
        refine ziload (k := 67) rfl rfl ?_
        refine ziaddB (k := 68) rfl (by omega) ?_
        refine zaload_n (k := 69) rfl rfl ?_
        refine zgF 0 (k := 70) rfl ob_289 fl_12_7 rfl fx_289_0 ?_
        refine ziload_n (k := 71) rfl rfl ?_
        refine zbipush (k := 72) rfl rfl ?_
        refine ziaddB (k := 73) rfl (by omega) ?_
        refine ziload (k := 74) rfl rfl ?_
        refine ziaddB (k := 75) rfl (by omega) ?_
        refine ziaload (k := 76) rfl ar_290 ⟨by omega, by omega⟩ ?_
        rw [fr 290 _ _ (by omega), (hT _ (by omega) (by omega)).1]
        have tj := (hT (p + 6 + j) (by omega) (by omega)).2
        refine zif_ne (k := 77) rfl rfl (fun c9_q => ?_) (fun c9_q => ?_)
        · skip
          refine zaload_n (k := 80) rfl rfl ?_
          refine zgF 45 (k := 81) rfl ob_289 fl_12_150 rfl fx_289_45 ?_
          refine ziconst (k := 82) rfl (by decide) ?_
          refine ziaload (k := 83) rfl ar_315 ⟨by omega, by omega⟩ ?_
          rw [fr 315 1 _ (by omega), hwk]
          refine zaload_n (k := 84) rfl rfl ?_
          refine zgF 0 (k := 85) rfl ob_289 fl_12_7 rfl fx_289_0 ?_
          refine ziload_n (k := 86) rfl rfl ?_
          refine zbipush (k := 87) rfl rfl ?_
          refine ziaddB (k := 88) rfl (by omega) ?_
          refine ziload (k := 89) rfl rfl ?_
          refine ziaddB (k := 90) rfl (by omega) ?_
          refine ziaload (k := 91) rfl ar_290 ⟨by omega, by omega⟩ ?_
          rw [fr 290 _ _ (by omega), (hT _ (by omega) (by omega)).1]
          refine ziaddB (k := 92) rfl (by omega) ?_
          refine ziconst (k := 93) rfl (by decide) ?_
          refine zisubB (k := 94) rfl (by omega) ?_
          refine ziastore (k := 95) rfl ar_324 ⟨by omega, by omega⟩ (by omega) ?_
          rw [duM_s (by omega) (by first | (rw [if_pos (by assumption)]; done) | (rw [if_neg (by assumption)]; done))]
          refine ziincB (k := 96) (ls' := [_, _, _, _, _]) rfl rfl (by decide) (by omega) rfl ?_
          refine zgoto (k := 97) rfl rfl ?_
          exact ih75_q (j + 1) (by omega) (by omega)
        · skip
          refine ziconst (k := 78) rfl (by decide) ?_
          refine zgoto (k := 79) rfl rfl ?_
          refine ziastore (k := 95) rfl ar_324 ⟨by omega, by omega⟩ (by omega) ?_
          rw [duM_s (by omega) (by first | (rw [if_pos (by assumption)]; done) | (rw [if_neg (by assumption)]; done))]
          refine ziincB (k := 96) (ls' := [_, _, _, _, _]) rfl rfl (by decide) (by omega) rfl ?_
          refine zgoto (k := 97) rfl rfl ?_
          exact ih75_q (j + 1) (by omega) (by omega)
  rw [← duM_0 T m p wk σ5]
  exact lp75_q _ 0 (Nat.lt_succ_self _) (by omega)
