set_option maxHeartbeats 4000000 in
set_option maxRecDepth 20000 in
theorem c_M_manning {Γ : zv_M} {L : Int} {s : zSpan} {σ : zv_H} {T : Int → Int} {n i p : Int} {A : zv_H} (h : rdR s σ T n i A (Sum.inl p)) (hi1_q : i = 0 ∨ i = 1) (hA : AI T A) (hs : ∀ x k, inW i x k → s.2 x k) (k1_q : tK T p = 1)  : zC Γ m_M_manning 4 0 0 (GM L) [zR 289] σ (zP0 (GM L) (fun σ' => rdX s σ' T n i (if 6 ≤ A 0 3 then Sum.inr (6, tQ T p) else mnnF T A (tN T p)))) := by
  refine zC_of (ls0 := [_, _]) zm_M_manning (by decide) rfl (Nat.le_of_ble_eq_true rfl) ?_
  generalize hQ : (zP0 (GM L) (fun σ' => rdX s σ' T n i (if 6 ≤ A 0 3 then Sum.inr (6, tQ T p) else mnnF T A (tN T p)))) = Q
  have hA1 := hA.2.1
  have hA3 := hA.2.2.2.1
  have hA2 := hA.2.2.1
  have hA4 := hA.2.2.2.2.1
  refine zaload_n (k := 0) rfl rfl ?_
  refine zaload_n (k := 1) rfl rfl ?_
  refine zgF 21 (k := 2) rfl ob_289 fl_12_75 rfl fx_289_21 ?_
  refine zaload_n (k := 3) rfl rfl ?_
  refine zgI 32 (k := 4) rfl ob_289 fl_12_109 rfl fx_289_32 ?_
  rw [h.2.2.1]
  refine ziaload (k := 5) rfl ar_298 ⟨by omega, by omega⟩ ?_
  (first | rw [h.2.2.2.1.1.1] | rw [h.2.2.2.1.1.2.1] | rw [h.2.2.2.1.1.2.2.1] | skip)
  refine zbipush (k := 6) rfl rfl ?_
  refine zicmp_ne (k := 7) rfl rfl (fun c1_q => ?_) (fun c1_q => ?_)
  · skip
    refine ziconst (k := 10) rfl (by decide) ?_
    refine zpVI (k := 11) rfl (q_counts h (by omega) k1_q) fm_M_counts lk_12_361 rfl rfl ob_289 ⟨_, rfl, rfl⟩ (Nat.le_of_ble_eq_true rfl) (by decide) ⟨by decide, by decide⟩ (fun z0_q σ0 l0_q => ?_)
    skip
    refine zif_ne (k := 12) rfl rfl (fun c2_q => ?_) (fun c2_q => ?_)
    · skip
      -- GOES
      replace h := (show rdR s σ0 T n i A (Sum.inl (tN T p)) from by
        rcases l0_q with q | q
        · exact absurd q.2.1 (by assumption)
        · exact q.2.2.1)
      clear l0_q
      refine zbipush (k := 14) rfl rfl ?_
      refine zaload_n (k := 15) rfl rfl ?_
      refine zgI 32 (k := 16) rfl ob_289 fl_12_109 rfl fx_289_32 ?_
      rw [h.2.2.1]
      refine zimulB (k := 17) rfl (by omega) ?_
      refine zaload_n (k := 18) rfl rfl ?_
      refine zgF 21 (k := 19) rfl ob_289 fl_12_75 rfl fx_289_21 ?_
      refine zaload_n (k := 20) rfl rfl ?_
      refine zgI 32 (k := 21) rfl ob_289 fl_12_109 rfl fx_289_32 ?_
      rw [h.2.2.1]
      refine ziaload (k := 22) rfl ar_298 ⟨by omega, by omega⟩ ?_
      (first | rw [h.2.2.2.1.1.1] | rw [h.2.2.2.1.1.2.1] | rw [h.2.2.2.1.1.2.2.1] | skip)
      refine ziaddB (k := 23) rfl (by omega) ?_
      refine zistore_n (k := 24) (ls' := [_, _]) rfl (Nat.le_of_ble_eq_true rfl) rfl ?_
      refine zaload_n (k := 25) rfl rfl ?_
      refine zgF 30 (k := 26) rfl ob_289 fl_12_103 rfl fx_289_30 ?_
      refine ziload_n (k := 27) rfl rfl ?_
      refine zaload_n (k := 28) rfl rfl ?_
      refine zpVL (k := 29) rfl (q_new h hi1_q hA) fm_M_fresh lk_12_365 rfl rfl ob_289 ⟨_, rfl, rfl⟩ (Nat.le_of_ble_eq_true rfl) (by decide) ⟨by decide, by decide⟩ (fun z1_q σ1 l1_q => ?_)
      obtain ⟨h1_q, e1_q, v1_q⟩ := l1_q
      replace h := h1_q
      clear h1_q
      refine zlastore (k := 30) rfl ar_307 ⟨by omega, by omega⟩ (by omega) ?_
      replace h := rdR_w (x := 307) (k := (6 * i + A 0 3)) (v := z1_q) h (hs _ _ (Or.inr (Or.inr (Or.inl ⟨by omega, by omega, by omega⟩)))) (Or.inr ⟨by omega, rfl⟩)
      have f1_q := zup_s σ1 307 ((6 * i + A 0 3)) (z1_q)
      refine zaload_n (k := 31) rfl rfl ?_
      refine zldc2 (k := 32) (z := 24948) rfl kc_12_275 rfl ?_
      refine zpV0 (k := 33) rfl (q_word (u := 8) h (by omega) rfl) fm_M_must_ lk_12_369 rfl rfl ob_289 ⟨_, rfl, rfl⟩ (Nat.le_of_ble_eq_true rfl) (by decide) ⟨by decide, by decide⟩ (fun σ2 l2_q => ?_)
      obtain ⟨h2_q, e2_q⟩ := l2_q
      replace h := h2_q
      clear h2_q
      replace f1_q := (e2_q _ _ (by omega)).trans f1_q
      refine zaload_n (k := 34) rfl rfl ?_
      refine zgF 22 (k := 35) rfl ob_289 fl_12_78 rfl fx_289_22 ?_
      refine ziload_n (k := 36) rfl rfl ?_
      refine zaload_n (k := 37) rfl rfl ?_
      refine ziconst (k := 38) rfl (by decide) ?_
      refine zpVI (k := 39) rfl (q_cty (rf := -1) h hi1_q hA (fun _ => hb_0) (by omega)) fm_M_knownBut lk_12_376 rfl rfl ob_289 ⟨_, rfl, rfl⟩ (Nat.le_of_ble_eq_true rfl) (by decide) ⟨by decide, by decide⟩ (fun z3_q σ3 l3_q => ?_)
      obtain ⟨h3_q, e3_q, v3_q⟩ := l3_q
      replace h := h3_q
      clear h3_q
      replace f1_q := (e3_q _ _ (by omega)).trans f1_q
      refine ziastore (k := 40) rfl ar_299 ⟨by omega, by omega⟩ (by omega) ?_
      replace h := rdR_w (x := 299) (k := (6 * i + A 0 3)) (v := z3_q) h (hs _ _ (Or.inr (Or.inr (Or.inl ⟨by omega, by omega, by omega⟩)))) (Or.inr ⟨by omega, rfl⟩)
      replace f1_q := (zup_n (a := 299) (k := (6 * i + A 0 3)) (v := z3_q) (by omega)).trans f1_q
      have f2_q := zup_s σ3 299 ((6 * i + A 0 3)) (z3_q)
      refine zaload_n (k := 41) rfl rfl ?_
      refine zldc2 (k := 42) (z := 495689625203) rfl kc_12_277 rfl ?_
      refine zpV0 (k := 43) rfl (q_word (u := 9) h (by omega) rfl) fm_M_must_ lk_12_369 rfl rfl ob_289 ⟨_, rfl, rfl⟩ (Nat.le_of_ble_eq_true rfl) (by decide) ⟨by decide, by decide⟩ (fun σ4 l4_q => ?_)
      obtain ⟨h4_q, e4_q⟩ := l4_q
      replace h := h4_q
      clear h4_q
      replace f1_q := (e4_q _ _ (by omega)).trans f1_q
      replace f2_q := (e4_q _ _ (by omega)).trans f2_q
      refine zaload_n (k := 44) rfl rfl ?_
      refine zgF 23 (k := 45) rfl ob_289 fl_12_81 rfl fx_289_23 ?_
      refine ziload_n (k := 46) rfl rfl ?_
      refine zaload_n (k := 47) rfl rfl ?_
      refine ziconst (k := 48) rfl (by decide) ?_
      refine zbipush (k := 49) rfl rfl ?_
      refine zpVI (k := 50) rfl (q_num h) fm_M_number lk_12_373 rfl rfl ob_289 ⟨_, rfl, rfl⟩ (Nat.le_of_ble_eq_true rfl) (by decide) ⟨by decide, by decide⟩ (fun z5_q σ5 l5_q => ?_)
      obtain ⟨h5_q, e5_q, v5_q⟩ := l5_q
      replace h := h5_q
      clear h5_q
      replace f1_q := (e5_q _ _ (by omega)).trans f1_q
      replace f2_q := (e5_q _ _ (by omega)).trans f2_q
      refine ziastore (k := 51) rfl ar_300 ⟨by omega, by omega⟩ (by omega) ?_
      replace h := rdR_w (x := 300) (k := (6 * i + A 0 3)) (v := z5_q) h (hs _ _ (Or.inr (Or.inr (Or.inl ⟨by omega, by omega, by omega⟩)))) (Or.inr ⟨by omega, rfl⟩)
      replace f1_q := (zup_n (a := 300) (k := (6 * i + A 0 3)) (v := z5_q) (by omega)).trans f1_q
      replace f2_q := (zup_n (a := 300) (k := (6 * i + A 0 3)) (v := z5_q) (by omega)).trans f2_q
      have f3_q := zup_s σ5 300 ((6 * i + A 0 3)) (z5_q)
      refine zaload_n (k := 52) rfl rfl ?_
      refine zgI 8 (k := 53) rfl ob_289 fl_12_36 rfl fx_289_8 ?_
      refine zif_ne (k := 54) rfl rfl (fun c3_q => ?_) (fun c3_q => ?_)
      · skip
        refine zreturn (k := 64) rfl rfl rfl ?_
        rw [← hQ]
        refine ⟨rfl, rfl, ?_⟩
        rw [if_neg (by omega)]
        rw [mnnF_r] at h
        rcases hx : mnnF T A (tN T p) with x | e
        · rw [hx, bnd_l] at h
          exact absurd h.2.2.2.2.1 (by assumption)
        · rw [hx, bnd_r] at h
          exact ⟨A, h⟩
      · skip
        -- TELLS
        refine zaload_n (k := 55) rfl rfl ?_
        refine zgF 21 (k := 56) rfl ob_289 fl_12_75 rfl fx_289_21 ?_
        refine zaload_n (k := 57) rfl rfl ?_
        refine zgI 32 (k := 58) rfl ob_289 fl_12_109 rfl fx_289_32 ?_
        rw [h.2.2.1]
        refine zdup2 (k := 59) rfl rfl rfl ?_
        refine ziaload (k := 60) rfl ar_298 ⟨by omega, by omega⟩ ?_
        (first | rw [h.2.2.2.1.1.1] | rw [h.2.2.2.1.1.2.1] | rw [h.2.2.2.1.1.2.2.1] | skip)
        refine ziconst (k := 61) rfl (by decide) ?_
        refine ziaddB (k := 62) rfl (by omega) ?_
        refine ziastore (k := 63) rfl ar_298 ⟨by omega, by omega⟩ (by omega) ?_
        refine zreturn (k := 64) rfl rfl rfl ?_
        rw [← hQ]
        refine ⟨rfl, rfl, ?_⟩
        rw [if_neg (by omega)]
        rw [mnnF_r] at h
        rcases hx : mnnF T A (tN T p) with x | e
        · rw [hx, bnd_l] at h
          obtain ⟨p1_q, b1_q, hx⟩ := bnd_e hx
          obtain ⟨p2_q, b2_q, hx⟩ := bnd_e hx
          obtain ⟨q3_q, b3_q, hx⟩ := bnd_e hx
          obtain ⟨p4_q, b4_q, hx⟩ := bnd_e hx
          obtain ⟨q5_q, b5_q, hx⟩ := bnd_e hx
          replace hx := Sum.inl.inj hx
          have k1_q := (tkNew_b b1_q).1
          have w1_q := v1_q _ _ rfl b1_q
          have w3_q := v3_q.2 p2_q _ (by simp only [bnd_l, b1_q, b2_q]) b3_q
          have w5_q := v5_q p4_q _ (by simp only [bnd_l, b1_q, b2_q, b3_q, b4_q]) b5_q
          have hr := rdR_man (p0_q := tN T p) h (hs _ _ (Or.inl ⟨Or.inr (Or.inr (Or.inl rfl)), rfl⟩)) hA (by omega) (f1_q.trans w1_q) (f2_q.trans w3_q.1) (f3_q.trans w5_q)
          have ha := AI_man hA k1_q (w3_q.1 ▸ w3_q.2) (tkNum_b b5_q).1 (show A 0 3 < 6 by omega)
          rw [← hx]
          rw [← hx] at hr
          exact ⟨hr, ha⟩
        · rw [hx, bnd_r] at h
          have h1_q := h.2.2.2.2.1
          have h2_q := h.2.2.2.2.2.1
          exfalso; omega
    · exfalso; rcases l0_q with ⟨q1_q, q2_q, _⟩ | ⟨q1_q, q2_q, _⟩ <;> omega
  · skip
    -- FULL
    refine ziconst (k := 8) rfl (by decide) ?_
    refine zgoto (k := 9) rfl rfl ?_
    refine zpVI (k := 11) rfl (q_counts h (by omega) k1_q) fm_M_counts lk_12_361 rfl rfl ob_289 ⟨_, rfl, rfl⟩ (Nat.le_of_ble_eq_true rfl) (by decide) ⟨by decide, by decide⟩ (fun z0_q σ0 l0_q => ?_)
    skip
    refine zif_ne (k := 12) rfl rfl (fun c4_q => ?_) (fun c4_q => ?_)
    · exfalso; rcases l0_q with ⟨q1_q, q2_q, _⟩ | ⟨q1_q, q2_q, _⟩ <;> omega
    refine zreturn (k := 13) rfl rfl rfl ?_
    rw [← hQ]
    refine ⟨rfl, rfl, ?_⟩
    rw [if_pos (by omega)]
    rcases l0_q with q | q
    · exact ⟨A, q.2.2.1⟩
    · exfalso; omega
