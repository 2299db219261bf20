set_option maxHeartbeats 4000000 in
set_option maxRecDepth 20000 in
theorem c_M_posting {Γ : zv_M} {L : Int} {s : zSpan} {σ : zv_H} {T : Int → Int} {n i p : Int} {A : zv_H} (h : rdR s σ T n i A (Sum.inl p)) (hi1_q : i = 0 ∨ i = 1) (hA : AI T A) (hs : ∀ x k, inW i x k → s.2 x k) (k1_q : tK T p = 1)  : zC Γ m_M_posting 4 0 0 (GM L) [zR 289] σ (zP0 (GM L) (fun σ' => rdX s σ' T n i (pstF T A (tN T p)))) := by
  refine zC_of (ls0 := [_, _]) zm_M_posting (by decide) rfl (Nat.le_of_ble_eq_true rfl) ?_
  generalize hQ : (zP0 (GM L) (fun σ' => rdX s σ' T n i (pstF T A (tN T p)))) = Q
  have hA1 := hA.2.1
  have hA3 := hA.2.2.2.1
  have hA2 := hA.2.2.1
  have hA4 := hA.2.2.2.2.1
  refine zaload_n (k := 0) rfl rfl ?_
  refine ziconst (k := 1) rfl (by decide) ?_
  refine zpVI (k := 2) rfl (q_counts h (by omega) k1_q) fm_M_counts lk_12_361 rfl rfl ob_289 ⟨_, rfl, rfl⟩ (Nat.le_of_ble_eq_true rfl) (by decide) ⟨by decide, by decide⟩ (fun z0_q σ0 l0_q => ?_)
  skip
  refine zif_ne (k := 3) rfl rfl (fun c1_q => ?_) (fun c1_q => ?_)
  · skip
    -- GOES
    replace h := (show rdR s σ0 T n i A (Sum.inl (tN T p)) from by
      rcases l0_q with q | q
      · exact absurd q.2.1 (by assumption)
      · exact q.2.2.1)
    clear l0_q
    refine zaload_n (k := 5) rfl rfl ?_
    refine ziconst (k := 6) rfl (by decide) ?_
    refine zbipush (k := 7) rfl rfl ?_
    refine zpVI (k := 8) rfl (q_num h) fm_M_number lk_12_373 rfl rfl ob_289 ⟨_, rfl, rfl⟩ (Nat.le_of_ble_eq_true rfl) (by decide) ⟨by decide, by decide⟩ (fun z1_q σ1 l1_q => ?_)
    obtain ⟨h1_q, e1_q, v1_q⟩ := l1_q
    replace h := h1_q
    clear h1_q
    refine zistore_n (k := 9) (ls' := [_, _]) rfl (Nat.le_of_ble_eq_true rfl) rfl ?_
    refine zaload_n (k := 10) rfl rfl ?_
    refine zgI 8 (k := 11) rfl ob_289 fl_12_36 rfl fx_289_8 ?_
    refine zif_ne (k := 12) rfl rfl (fun c2_q => ?_) (fun c2_q => ?_)
    · skip
      refine zreturn (k := 19) rfl rfl rfl ?_
      rw [← hQ]
      refine ⟨rfl, rfl, ?_⟩
      rw [pstF_r] at h
      rcases hx : pstF T A (tN T p) with x | e
      · rw [hx, bnd_l] at h
        exact absurd h.2.2.2.2.1 (by assumption)
      · rw [hx, bnd_r] at h
        exact ⟨A, h⟩
    · skip
      -- TELLS
      refine zaload_n (k := 13) rfl rfl ?_
      refine zgF 24 (k := 14) rfl ob_289 fl_12_84 rfl fx_289_24 ?_
      refine zaload_n (k := 15) rfl rfl ?_
      refine zgI 32 (k := 16) rfl ob_289 fl_12_109 rfl fx_289_32 ?_
      rw [h.2.2.1]
      refine ziload_n (k := 17) rfl rfl ?_
      refine ziastore (k := 18) rfl ar_301 ⟨by omega, by omega⟩ (by omega) ?_
      refine zreturn (k := 19) rfl rfl rfl ?_
      rw [← hQ]
      refine ⟨rfl, rfl, ?_⟩
      rw [pstF_r] at h
      rcases hx : pstF T A (tN T p) with x | e
      · rw [hx, bnd_l] at h
        obtain ⟨q1_q, b1_q, hx⟩ := bnd_e hx
        replace hx := Sum.inl.inj hx
        have w1_q := v1_q _ _ rfl b1_q
        have hr := rdR_pst (v := z1_q) h (hs _ _ (Or.inl ⟨Or.inr (Or.inr (Or.inr rfl)), rfl⟩))
        have ha := AI_pst hA (tkNum_b b1_q).1
        rw [← hx]
        rw [← hx] at hr
        rw [w1_q] at hr ⊢
        exact ⟨hr, ha⟩
      · rw [hx, bnd_r] at h
        have h1_q := h.2.2.2.2.1
        have h2_q := h.2.2.2.2.2.1
        exfalso; omega
  · skip
    refine zreturn (k := 4) rfl rfl rfl ?_
    rw [← hQ]
    exfalso
    rcases l0_q with q | q
    · have q1_q := q.1; omega
    · have q1_q := q.2.1; omega
