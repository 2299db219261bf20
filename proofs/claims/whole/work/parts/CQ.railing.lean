set_option maxHeartbeats 4000000 in
set_option maxRecDepth 20000 in
theorem c_M_railing {Γ : zv_M} {L : Int} {s : zSpan} {σ : zv_H} {T : Int → Int} {n i p : Int} {A : zv_H} (h : rdR s σ T n i A (Sum.inl p)) (hi1_q : i = 0 ∨ i = 1) (hA : AI T A) (hs : ∀ x k, inW i x k → s.2 x k) (k1_q : tK T p = 1)  : zC Γ m_M_railing 4 0 0 (GM L) [zR 289] σ (zP0 (GM L) (fun σ' => rdX s σ' T n i (if 12 ≤ A 0 2 then Sum.inr (6, tQ T p) else ralF T A (tN T p)))) := by
  refine zC_of (ls0 := [_, _, _, _, _]) zm_M_railing (by decide) rfl (Nat.le_of_ble_eq_true rfl) ?_
  generalize hQ : (zP0 (GM L) (fun σ' => rdX s σ' T n i (if 12 ≤ A 0 2 then Sum.inr (6, tQ T p) else ralF T A (tN T p)))) = Q
  have hA1 := hA.2.1
  have hA3 := hA.2.2.2.1
  have hA2 := hA.2.2.1
  have hA4 := hA.2.2.2.2.1
  refine zaload_n (k := 0) rfl rfl ?_
  refine zaload_n (k := 1) rfl rfl ?_
  refine zgF 18 (k := 2) rfl ob_289 fl_12_66 rfl fx_289_18 ?_
  refine zaload_n (k := 3) rfl rfl ?_
  refine zgI 32 (k := 4) rfl ob_289 fl_12_109 rfl fx_289_32 ?_
  rw [h.2.2.1]
  refine ziaload (k := 5) rfl ar_295 ⟨by omega, by omega⟩ ?_
  (first | rw [h.2.2.2.1.1.1] | rw [h.2.2.2.1.1.2.1] | rw [h.2.2.2.1.1.2.2.1] | skip)
  refine zbipush (k := 6) rfl rfl ?_
  refine zicmp_ne (k := 7) rfl rfl (fun c1_q => ?_) (fun c1_q => ?_)
  · skip
    refine ziconst (k := 10) rfl (by decide) ?_
    refine zpVI (k := 11) rfl (q_counts h (by omega) k1_q) fm_M_counts lk_12_361 rfl rfl ob_289 ⟨_, rfl, rfl⟩ (Nat.le_of_ble_eq_true rfl) (by decide) ⟨by decide, by decide⟩ (fun z0_q σ0 l0_q => ?_)
    skip
    refine zif_ne (k := 12) rfl rfl (fun c2_q => ?_) (fun c2_q => ?_)
    · skip
      -- GOES
      replace h := (show rdR s σ0 T n i A (Sum.inl (tN T p)) from by
        rcases l0_q with q | q
        · exact absurd q.2.1 (by assumption)
        · exact q.2.2.1)
      clear l0_q
      refine zaload_n (k := 14) rfl rfl ?_
      refine ziconst (k := 15) rfl (by decide) ?_
      refine zpVI (k := 16) rfl (q_cty (rf := -1) h hi1_q hA (fun _ => hb_0) (by omega)) fm_M_knownBut lk_12_376 rfl rfl ob_289 ⟨_, rfl, rfl⟩ (Nat.le_of_ble_eq_true rfl) (by decide) ⟨by decide, by decide⟩ (fun z1_q σ1 l1_q => ?_)
      obtain ⟨h1_q, e1_q, v1_q⟩ := l1_q
      replace h := h1_q
      clear h1_q
      refine zistore_n (k := 17) (ls' := [_, _, _, _, _]) rfl (Nat.le_of_ble_eq_true rfl) rfl ?_
      refine zaload_n (k := 18) rfl rfl ?_
      refine zldc2 (k := 19) (z := 29807) rfl kc_12_269 rfl ?_
      refine zpV0 (k := 20) rfl (q_word (u := 5) h (by omega) rfl) fm_M_must_ lk_12_369 rfl rfl ob_289 ⟨_, rfl, rfl⟩ (Nat.le_of_ble_eq_true rfl) (by decide) ⟨by decide, by decide⟩ (fun σ2 l2_q => ?_)
      obtain ⟨h2_q, e2_q⟩ := l2_q
      replace h := h2_q
      clear h2_q
      refine ziconst (k := 21) rfl (by decide) ?_
      refine ziload_n (k := 22) rfl rfl ?_
      refine zishl (k := 23) rfl ?_
      refine zistore_n (k := 24) (ls' := [_, _, _, _, _]) rfl (Nat.le_of_ble_eq_true rfl) rfl ?_
      refine ziconst (k := 25) rfl (by decide) ?_
      refine zistore_n (k := 26) (ls' := [_, _, _, _, _]) rfl (Nat.le_of_ble_eq_true rfl) rfl ?_
      have vb1_q := v1_q.1
      have lp46_q : ∀ (g : Nat) (j : Nat) (B : Int), (7 - j) < g → ((j : Int) ≤ 7) → (bM B (fun k => k = z1_q ∨ (k < (j : Int) ∧ A 12 (z1_q * 7 + k) ≠ 0))) → zV Γ m_M_railing 4 0 0 Q (GM L) (0, 0) 46 [some (zR 289), some (zI z1_q), some (zI B), some (zI j), none] [] σ2 := by
        intro g
        induction g with
        | zero => intro j B hg; exact absurd hg (Nat.not_lt_zero _)
        | succ g ih46_q =>
          intro j B hg hj hB
          refine ziload_n (k := 27) rfl rfl ?_
          refine zbipush (k := 28) rfl rfl ?_
          refine zicmp_ge (k := 29) rfl rfl (fun c3_q => ?_) (fun c3_q => ?_)
          · skip
            have hb : ∀ k, 0 ≤ k → k < 7 → (zshr B k % 2 = 1 ↔ z1_q ≠ -1 ∧ (k = z1_q ∨ A 12 (z1_q * 7 + k) ≠ 0)) := fun k a b => by
              rw [hB.2 k a b]
              constructor
              · intro q; omega
              · intro q; omega
            have hB1 := hB.1
            refine zaload_n (k := 50) rfl rfl ?_
            refine ziload_n (k := 51) rfl rfl ?_
            refine zpVI (k := 52) rfl (q_cty (rf := z1_q) h hi1_q hA (fun _ => hb) (by omega)) fm_M_knownBut lk_12_376 rfl rfl ob_289 ⟨_, rfl, rfl⟩ (Nat.le_of_ble_eq_true rfl) (by decide) ⟨by decide, by decide⟩ (fun z3_q σ3 l3_q => ?_)
            obtain ⟨h3_q, e3_q, v3_q⟩ := l3_q
            replace h := h3_q
            clear h3_q
            have vb3_q := v3_q.1
            refine zistore_n (k := 53) (ls' := [_, _, _, _, _]) rfl (Nat.le_of_ble_eq_true rfl) rfl ?_
            refine zaload_n (k := 54) rfl rfl ?_
            refine zldc2 (k := 55) (z := 512802253683) rfl kc_12_271 rfl ?_
            refine zpV0 (k := 56) rfl (q_word (u := 6) h (by omega) rfl) fm_M_must_ lk_12_369 rfl rfl ob_289 ⟨_, rfl, rfl⟩ (Nat.le_of_ble_eq_true rfl) (by decide) ⟨by decide, by decide⟩ (fun σ4 l4_q => ?_)
            obtain ⟨h4_q, e4_q⟩ := l4_q
            replace h := h4_q
            clear h4_q
            refine zaload_n (k := 57) rfl rfl ?_
            refine ziconst (k := 58) rfl (by decide) ?_
            refine zbipush (k := 59) rfl rfl ?_
            refine zpVI (k := 60) rfl (q_num h) fm_M_number lk_12_373 rfl rfl ob_289 ⟨_, rfl, rfl⟩ (Nat.le_of_ble_eq_true rfl) (by decide) ⟨by decide, by decide⟩ (fun z5_q σ5 l5_q => ?_)
            obtain ⟨h5_q, e5_q, v5_q⟩ := l5_q
            replace h := h5_q
            clear h5_q
            refine zistore (k := 61) (ls' := [_, _, _, _, _]) rfl (Nat.le_of_ble_eq_true rfl) rfl ?_
            refine zaload_n (k := 62) rfl rfl ?_
            refine zgI 8 (k := 63) rfl ob_289 fl_12_36 rfl fx_289_8 ?_
            refine zif_le (k := 64) rfl rfl (fun c4_q => ?_) (fun c4_q => ?_)
            · skip
              -- TELLS
              refine zaload_n (k := 66) rfl rfl ?_
              refine zgF 19 (k := 67) rfl ob_289 fl_12_69 rfl fx_289_19 ?_
              refine zaload_n (k := 68) rfl rfl ?_
              refine zaload_n (k := 69) rfl rfl ?_
              refine zgI 32 (k := 70) rfl ob_289 fl_12_109 rfl fx_289_32 ?_
              rw [h.2.2.1]
              refine ziload_n (k := 71) rfl rfl ?_
              refine ziload_n (k := 72) rfl rfl ?_
              refine zfV1 (k := 73) rfl (c_M_at (by omega) (by omega) (by omega)) fm_M_at lk_12_379 rfl rfl ob_289 ⟨_, rfl, rfl⟩ (Nat.le_of_ble_eq_true rfl) (by decide) ⟨by decide, by decide⟩ ?_
              refine ziload (k := 74) rfl rfl ?_
              refine ziastore (k := 75) rfl ar_296 ⟨by omega, by omega⟩ (by omega) ?_
              refine zaload_n (k := 76) rfl rfl ?_
              refine zgF 19 (k := 77) rfl ob_289 fl_12_69 rfl fx_289_19 ?_
              refine zaload_n (k := 78) rfl rfl ?_
              refine zaload_n (k := 79) rfl rfl ?_
              refine zgI 32 (k := 80) rfl ob_289 fl_12_109 rfl fx_289_32 ?_
              rw [zup_n (by omega), h.2.2.1]
              refine ziload_n (k := 81) rfl rfl ?_
              refine ziload_n (k := 82) rfl rfl ?_
              refine zfV1 (k := 83) rfl (c_M_at (by omega) (by omega) (by omega)) fm_M_at lk_12_379 rfl rfl ob_289 ⟨_, rfl, rfl⟩ (Nat.le_of_ble_eq_true rfl) (by decide) ⟨by decide, by decide⟩ ?_
              refine ziload (k := 84) rfl rfl ?_
              refine ziastore (k := 85) rfl ar_296 ⟨by omega, by omega⟩ (by omega) ?_
              refine zaload_n (k := 86) rfl rfl ?_
              refine zgF 18 (k := 87) rfl ob_289 fl_12_66 rfl fx_289_18 ?_
              refine zaload_n (k := 88) rfl rfl ?_
              refine zgI 32 (k := 89) rfl ob_289 fl_12_109 rfl fx_289_32 ?_
              rw [zup_n (by omega), zup_n (by omega), h.2.2.1]
              refine zdup2 (k := 90) rfl rfl rfl ?_
              refine ziaload (k := 91) rfl ar_295 ⟨by omega, by omega⟩ ?_
              (first | rw [h.2.2.2.1.1.1] | rw [h.2.2.2.1.1.2.1] | rw [h.2.2.2.1.1.2.2.1] | skip)
              rw [zup_n (by omega), zup_n (by omega), h.2.2.2.1.1.2.1]
              refine ziconst (k := 92) rfl (by decide) ?_
              refine ziaddB (k := 93) rfl (by omega) ?_
              refine ziastore (k := 94) rfl ar_295 ⟨by omega, by omega⟩ (by omega) ?_
              refine zreturn (k := 95) rfl rfl rfl ?_
              rw [← hQ]
              refine ⟨rfl, rfl, ?_⟩
              rw [if_neg (by omega)]
              rw [ralF_r (fun q hq => (v1_q.2 _ q rfl hq).1)] at h
              rcases hx : ralF T A (tN T p) with x | e
              · rw [hx, bnd_l] at h
                obtain ⟨q1_q, b1_q, hx⟩ := bnd_e hx
                obtain ⟨p2_q, b2_q, hx⟩ := bnd_e hx
                obtain ⟨q3_q, b3_q, hx⟩ := bnd_e hx
                obtain ⟨p4_q, b4_q, hx⟩ := bnd_e hx
                obtain ⟨q5_q, b5_q, hx⟩ := bnd_e hx
                replace hx := Sum.inl.inj hx
                have w1_q := (v1_q.2 _ _ rfl b1_q).1
                have w3_q := (v3_q.2 p2_q q3_q (by simp only [bnd_l, b1_q, b2_q]) (by rw [w1_q]; exact b3_q)).1
                have w5_q := v5_q p4_q _ (by simp only [bnd_l, b1_q, b2_q, w1_q, b3_q, b4_q]) b5_q
                have hr := rdR_ral (v := z5_q) h hs hi1_q vb1_q vb3_q
                have ha := AI_ral (f := q1_q.1) (t := q3_q.1) hA (tkNum_b b5_q).1 (show A 0 2 < 12 by omega)
                rw [← hx]
                rw [← hx] at hr
                rw [w1_q, w3_q, w5_q] at hr ⊢
                exact ⟨hr, ha⟩
              · rw [hx, bnd_r] at h
                have h1_q := h.2.2.2.2.1
                have h2_q := h.2.2.2.2.2.1
                exfalso; omega
            · skip
              refine zreturn (k := 65) rfl rfl rfl ?_
              rw [← hQ]
              refine ⟨rfl, rfl, ?_⟩
              rw [if_neg (by omega)]
              rw [ralF_r (fun q hq => (v1_q.2 _ q rfl hq).1)] at h
              rcases hx : ralF T A (tN T p) with x | e
              · rw [hx, bnd_l] at h
                have h1_q := h.2.2.2.2.1
                exfalso; omega
              · rw [hx, bnd_r] at h
                exact ⟨A, h⟩
          · skip
            refine ziload_n (k := 30) rfl rfl ?_
            refine zaload_n (k := 31) rfl rfl ?_
            refine zgF 19 (k := 32) rfl ob_289 fl_12_69 rfl fx_289_19 ?_
            refine zaload_n (k := 33) rfl rfl ?_
            refine zaload_n (k := 34) rfl rfl ?_
            refine zgI 32 (k := 35) rfl ob_289 fl_12_109 rfl fx_289_32 ?_
            rw [h.2.2.1]
            skip
            refine ziload_n (k := 36) rfl rfl ?_
            refine ziload_n (k := 37) rfl rfl ?_
            refine zfV1 (k := 38) rfl (c_M_at (by omega) (by omega) (by omega)) fm_M_at lk_12_379 rfl rfl ob_289 ⟨_, rfl, rfl⟩ (Nat.le_of_ble_eq_true rfl) (by decide) ⟨by decide, by decide⟩ ?_
            refine ziaload (k := 39) rfl ar_296 ⟨by omega, by omega⟩ ?_
            (first | rw [h.2.2.2.1.1.1] | rw [h.2.2.2.1.1.2.1] | rw [h.2.2.2.1.1.2.2.1] | skip)
            rw [show 49 * i + 7 * z1_q + (j : Int) = 49 * i + (z1_q * 7 + (j : Int)) by omega, h.2.2.2.1.2.2.2 (z1_q * 7 + (j : Int)) (by omega) (by omega)]
            have a7_q := hA.2.2.2.2.2.2.2 (z1_q * 7 + (j : Int)) (by omega) (by omega)
            refine zif_le (k := 40) rfl rfl (fun c5_q => ?_) (fun c5_q => ?_)
            · skip
              refine ziconst (k := 45) rfl (by decide) ?_
              refine zior (k := 46) rfl ?_
              rw [bM_0 hB]
              have hB2 : bM B (fun k => k = z1_q ∨ (k < ((j + 1 : Nat) : Int) ∧ A 12 (z1_q * 7 + k) ≠ 0)) := bM_i hB (fun k a b => by
                by_cases e : k = (j : Int)
                · rw [e]
                  constructor
                  · intro q; omega
                  · intro q; omega
                · constructor
                  · intro q; omega
                  · intro q; omega)
              refine zistore_n (k := 47) (ls' := [_, _, _, _, _]) rfl (Nat.le_of_ble_eq_true rfl) rfl ?_
              refine ziincB (k := 48) (ls' := [_, _, _, _, _]) rfl rfl (by decide) (by omega) rfl ?_
              refine zgoto (k := 49) rfl rfl ?_
              exact ih46_q (j + 1) _ (by omega) (by omega) hB2
            · skip
              -- RAIL
              refine ziconst (k := 41) rfl (by decide) ?_
              refine ziload_n (k := 42) rfl rfl ?_
              refine zishl (k := 43) rfl ?_
              refine zgoto (k := 44) rfl rfl ?_
              refine zior (k := 46) rfl ?_
              have hB2 : bM (zor B (zshl 1 (j : Int))) (fun k => k = z1_q ∨ (k < ((j + 1 : Nat) : Int) ∧ A 12 (z1_q * 7 + k) ≠ 0)) := bM_i (bM_j hB ⟨by omega, by omega⟩) (fun k a b => by
                by_cases e : k = (j : Int)
                · rw [e]
                  constructor
                  · intro _; exact Or.inr ⟨by omega, by omega⟩
                  · intro _; exact Or.inr rfl
                · constructor
                  · intro q; omega
                  · intro q; omega)
              refine zistore_n (k := 47) (ls' := [_, _, _, _, _]) rfl (Nat.le_of_ble_eq_true rfl) rfl ?_
              refine ziincB (k := 48) (ls' := [_, _, _, _, _]) rfl rfl (by decide) (by omega) rfl ?_
              refine zgoto (k := 49) rfl rfl ?_
              exact ih46_q (j + 1) _ (by omega) (by omega) hB2
      exact lp46_q _ 0 _ (Nat.lt_succ_self _) (by omega) (bM_i (bM_1 vb1_q) (fun k a b => ⟨fun q => Or.inl q, fun q => by omega⟩))
    · exfalso; rcases l0_q with ⟨q1_q, q2_q, _⟩ | ⟨q1_q, q2_q, _⟩ <;> omega
  · skip
    -- FULL
    refine ziconst (k := 8) rfl (by decide) ?_
    refine zgoto (k := 9) rfl rfl ?_
    refine zpVI (k := 11) rfl (q_counts h (by omega) k1_q) fm_M_counts lk_12_361 rfl rfl ob_289 ⟨_, rfl, rfl⟩ (Nat.le_of_ble_eq_true rfl) (by decide) ⟨by decide, by decide⟩ (fun z0_q σ0 l0_q => ?_)
    skip
    refine zif_ne (k := 12) rfl rfl (fun c6_q => ?_) (fun c6_q => ?_)
    · exfalso; rcases l0_q with ⟨q1_q, q2_q, _⟩ | ⟨q1_q, q2_q, _⟩ <;> omega
    refine zreturn (k := 13) rfl rfl rfl ?_
    rw [← hQ]
    refine ⟨rfl, rfl, ?_⟩
    rw [if_pos (by omega)]
    rcases l0_q with q | q
    · exact ⟨A, q.2.2.1⟩
    · exfalso; omega
