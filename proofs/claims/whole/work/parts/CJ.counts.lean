set_option maxHeartbeats 4000000 in
set_option maxRecDepth 20000 in
theorem g_counts {Γ : zv_M} {L : Int} {σ0 : zSpan} {σ : zv_H} {T : Int → Int} {n i p : Int} {A : zv_H} (h : rdR σ0 σ T n i A (Sum.inl p)) {u : Int} (hu : u = 0 ∨ u = 1) (k1_q : tK T p = 1)  : zC Γ m_M_counts 2 0 0 (GM L) [zR 289, zI u] σ (zPI (GM L) (fun z σ' => (u = 1 ∧ z = 0 ∧ rdR σ0 σ' T n i A (Sum.inr (6, tQ T p))) ∨ (u = 0 ∧ z = 1 ∧ rdR σ0 σ' T n i A (Sum.inl (tN T p))))) := by
  refine zC_of (ls0 := [_, _]) zm_M_counts (by decide) rfl (Nat.le_of_ble_eq_true rfl) ?_
  generalize hQ : (zPI (GM L) (fun z σ' => (u = 1 ∧ z = 0 ∧ rdR σ0 σ' T n i A (Sum.inr (6, tQ T p))) ∨ (u = 0 ∧ z = 1 ∧ rdR σ0 σ' T n i A (Sum.inl (tN T p))))) = Q
  obtain ⟨a1_q, a2_q, a3_q, a4_q, f8_q, hp, hm⟩ := h
  have h : rdR σ0 σ T n i A (Sum.inl p) := ⟨a1_q, a2_q, a3_q, a4_q, f8_q, hp, hm⟩
  have tp := tP_0 (T := T) hp
  have hn := a2_q.2.1.1
  have k4_q : tK T p ≠ 4 := by omega
  have sn := (hm.2.2.1 k4_q).2.2
  have sq := hm.1
  refine zaload_n (k := 0) rfl rfl ?_
  refine zgI 8 (k := 1) rfl ob_289 fl_12_36 rfl fx_289_8 ?_
  rw [f8_q]
  refine zif_ne (k := 2) rfl rfl (fun c1_q => ?_) (fun c1_q => ?_)
  · exfalso; omega
  refine ziload_n (k := 3) rfl rfl ?_
  refine zif_eq (k := 4) rfl rfl (fun c2_q => ?_) (fun c2_q => ?_)
  · skip
    refine zaload_n (k := 10) rfl rfl ?_
    refine zgI 8 (k := 11) rfl ob_289 fl_12_36 rfl fx_289_8 ?_
    rw [f8_q]
    refine zif_ne (k := 12) rfl rfl (fun c3_q => ?_) (fun c3_q => ?_)
    · exfalso; omega
    refine zaload_n (k := 13) rfl rfl ?_
    refine zpV0 (k := 14) rfl (k_ahd h f8_q sn hp (Or.inl k1_q)) fm_M_ahead lk_12_256 rfl rfl ob_289 ⟨_, rfl, rfl⟩ (Nat.le_of_ble_eq_true rfl) (by decide) ⟨by decide, by decide⟩ (fun σ3 h3_q => ?_)
    have f8_q : σ3 289 8 = 0 := h3_q.2.2.2.2.1
    refine zaload_n (k := 15) rfl rfl ?_
    refine zgI 8 (k := 16) rfl ob_289 fl_12_36 rfl fx_289_8 ?_
    rw [f8_q]
    refine zif_ne (k := 17) rfl rfl (fun c4_q => ?_) (fun c4_q => ?_)
    · exfalso; omega
    refine ziconst (k := 18) rfl (by decide) ?_
    refine zgoto (k := 19) rfl rfl ?_
    refine zzreturn (k := 21) rfl rfl (by first | exact Or.inl rfl | exact Or.inr rfl | omega) rfl ?_
    rw [← hQ]
    exact ⟨rfl, _, rfl, Or.inr ⟨by omega, rfl, h3_q⟩⟩
  · skip
    refine zaload_n (k := 5) rfl rfl ?_
    refine zbipush (k := 6) rfl rfl ?_
    refine zaload_n (k := 7) rfl rfl ?_
    refine zgI 4 (k := 8) rfl ob_289 fl_12_23 rfl fx_289_4 ?_
    rw [sq]
    refine zpV0 (k := 9) rfl (k_blm (k := 6) (pl := (tQ T p)) h f8_q (by omega)) fm_M_blame lk_12_239 rfl rfl ob_289 ⟨_, rfl, rfl⟩ (Nat.le_of_ble_eq_true rfl) (by decide) ⟨by decide, by decide⟩ (fun σ2 b2_q => ?_)
    -- BLAMED
    obtain ⟨h2_q, f8_q, fx⟩ := b2_q
    refine zaload_n (k := 10) rfl rfl ?_
    refine zgI 8 (k := 11) rfl ob_289 fl_12_36 rfl fx_289_8 ?_
    rw [f8_q]
    refine zif_ne (k := 12) rfl rfl (fun c5_q => ?_) (fun c5_q => ?_)
    · skip
      refine zaload_n (k := 15) rfl rfl ?_
      refine zgI 8 (k := 16) rfl ob_289 fl_12_36 rfl fx_289_8 ?_
      rw [f8_q]
      refine zif_ne (k := 17) rfl rfl (fun c6_q => ?_) (fun c6_q => ?_)
      · skip
        refine ziconst (k := 20) rfl (by decide) ?_
        refine zzreturn (k := 21) rfl rfl (by first | exact Or.inl rfl | exact Or.inr rfl | omega) rfl ?_
        rw [← hQ]
        exact ⟨rfl, _, rfl, Or.inl ⟨by omega, rfl, h2_q⟩⟩
      · exfalso; omega
    · exfalso; omega
set_option maxHeartbeats 4000000 in
set_option maxRecDepth 20000 in
theorem b_must {Γ : zv_M} {L : Int} {σ : zv_H} (f8_q : 0 < σ 289 8) {c : Int}  : zC Γ m_M_must 3 0 0 (GM L) [zR 289, zI c] σ (zFn none (GM L) σ) := by
  refine zC_of (ls0 := [_, _]) zm_M_must (by decide) rfl (Nat.le_of_ble_eq_true rfl) ?_
  generalize hQ : (zFn none (GM L) σ) = Q
  refine zaload_n (k := 0) rfl rfl ?_
  refine zfV0 (k := 1) rfl (bad_lex f8_q) fm_M_lex lk_12_250 rfl rfl ob_289 ⟨_, rfl, rfl⟩ (Nat.le_of_ble_eq_true rfl) (by decide) ⟨by decide, by decide⟩ ?_
  refine zaload_n (k := 2) rfl rfl ?_
  refine ziload_n (k := 3) rfl rfl ?_
  refine zfV1 (k := 4) rfl c_M_isSign fm_M_isSign lk_12_253 rfl rfl ob_289 ⟨_, rfl, rfl⟩ (Nat.le_of_ble_eq_true rfl) (by decide) ⟨by decide, by decide⟩ ?_
  refine zif_ne (k := 5) rfl rfl (fun c1_q => ?_) (fun c1_q => ?_)
  · skip
    refine zaload_n (k := 11) rfl rfl ?_
    refine zgI 8 (k := 12) rfl ob_289 fl_12_36 rfl fx_289_8 ?_
    refine zif_ne (k := 13) rfl rfl (fun c2_q => ?_) (fun c2_q => ?_)
    · skip
      refine zreturn (k := 16) rfl rfl rfl ?_
      rw [← hQ]
      exact ⟨rfl, rfl, rfl⟩
    · exfalso; omega
  · skip
    refine zaload_n (k := 6) rfl rfl ?_
    refine ziconst (k := 7) rfl (by decide) ?_
    refine zaload_n (k := 8) rfl rfl ?_
    refine zgI 4 (k := 9) rfl ob_289 fl_12_23 rfl fx_289_4 ?_
    refine zfV0 (k := 10) rfl (bad_blame f8_q) fm_M_blame lk_12_239 rfl rfl ob_289 ⟨_, rfl, rfl⟩ (Nat.le_of_ble_eq_true rfl) (by decide) ⟨by decide, by decide⟩ ?_
    refine zaload_n (k := 11) rfl rfl ?_
    refine zgI 8 (k := 12) rfl ob_289 fl_12_36 rfl fx_289_8 ?_
    refine zif_ne (k := 13) rfl rfl (fun c3_q => ?_) (fun c3_q => ?_)
    · skip
      refine zreturn (k := 16) rfl rfl rfl ?_
      rw [← hQ]
      exact ⟨rfl, rfl, rfl⟩
    · exfalso; omega
set_option maxHeartbeats 4000000 in
set_option maxRecDepth 20000 in
theorem b_word {Γ : zv_M} {L : Int} {σ : zv_H} (f8_q : 0 < σ 289 8) {w : Int}  : zC Γ m_M_must_ 3 0 0 (GM L) [zR 289, zL w] σ (zFn none (GM L) σ) := by
  refine zC_of (ls0 := [_, _, _]) zm_M_must_ (by decide) rfl (Nat.le_of_ble_eq_true rfl) ?_
  generalize hQ : (zFn none (GM L) σ) = Q
  refine zaload_n (k := 0) rfl rfl ?_
  refine zfV0 (k := 1) rfl (bad_lex f8_q) fm_M_lex lk_12_250 rfl rfl ob_289 ⟨_, rfl, rfl⟩ (Nat.le_of_ble_eq_true rfl) (by decide) ⟨by decide, by decide⟩ ?_
  refine zaload_n (k := 2) rfl rfl ?_
  refine zgI 8 (k := 3) rfl ob_289 fl_12_36 rfl fx_289_8 ?_
  refine zif_le (k := 4) rfl rfl (fun c1_q => ?_) (fun c1_q => ?_)
  · exfalso; omega
  refine zreturn (k := 5) rfl rfl rfl ?_
  rw [← hQ]
  exact ⟨rfl, rfl, rfl⟩
set_option maxHeartbeats 4000000 in
set_option maxRecDepth 20000 in
theorem b_num {Γ : zv_M} {L : Int} {σ : zv_H} (f8_q : 0 < σ 289 8) {lo hi : Int}  : zC Γ m_M_number 3 0 0 (GM L) [zR 289, zI lo, zI hi] σ (zFn (some (zI 0)) (GM L) σ) := by
  refine zC_of (ls0 := [_, _, _, _]) zm_M_number (by decide) rfl (Nat.le_of_ble_eq_true rfl) ?_
  generalize hQ : (zFn (some (zI 0)) (GM L) σ) = Q
  refine zaload_n (k := 0) rfl rfl ?_
  refine zfV0 (k := 1) rfl (bad_lex f8_q) fm_M_lex lk_12_250 rfl rfl ob_289 ⟨_, rfl, rfl⟩ (Nat.le_of_ble_eq_true rfl) (by decide) ⟨by decide, by decide⟩ ?_
  refine zaload_n (k := 2) rfl rfl ?_
  refine zgI 8 (k := 3) rfl ob_289 fl_12_36 rfl fx_289_8 ?_
  refine zif_le (k := 4) rfl rfl (fun c1_q => ?_) (fun c1_q => ?_)
  · exfalso; omega
  refine ziconst (k := 5) rfl (by decide) ?_
  refine zireturn (k := 6) rfl rfl rfl ?_
  rw [← hQ]
  exact ⟨rfl, rfl, rfl⟩
set_option maxHeartbeats 4000000 in
set_option maxRecDepth 20000 in
theorem b_new {Γ : zv_M} {L : Int} {σ : zv_H} (f8_q : 0 < σ 289 8)  : zC Γ m_M_fresh 3 0 0 (GM L) [zR 289] σ (zFn (some (zL 0)) (GM L) σ) := by
  refine zC_of (ls0 := [_, _, _]) zm_M_fresh (by decide) rfl (Nat.le_of_ble_eq_true rfl) ?_
  generalize hQ : (zFn (some (zL 0)) (GM L) σ) = Q
  refine zaload_n (k := 0) rfl rfl ?_
  refine zfV0 (k := 1) rfl (bad_lex f8_q) fm_M_lex lk_12_250 rfl rfl ob_289 ⟨_, rfl, rfl⟩ (Nat.le_of_ble_eq_true rfl) (by decide) ⟨by decide, by decide⟩ ?_
  refine zaload_n (k := 2) rfl rfl ?_
  refine zgI 8 (k := 3) rfl ob_289 fl_12_36 rfl fx_289_8 ?_
  refine zif_le (k := 4) rfl rfl (fun c1_q => ?_) (fun c1_q => ?_)
  · exfalso; omega
  refine zlconst (k := 5) (z := 0) rfl rfl ?_
  refine zlreturn (k := 6) rfl rfl rfl ?_
  rw [← hQ]
  exact ⟨rfl, rfl, rfl⟩
set_option maxHeartbeats 4000000 in
set_option maxRecDepth 20000 in
theorem b_cty {Γ : zv_M} {L : Int} {σ : zv_H} (f8_q : 0 < σ 289 8) {u : Int}  : zC Γ m_M_knownBut 3 0 0 (GM L) [zR 289, zI u] σ (zFn (some (zI 0)) (GM L) σ) := by
  refine zC_of (ls0 := [_, _, _]) zm_M_knownBut (by decide) rfl (Nat.le_of_ble_eq_true rfl) ?_
  generalize hQ : (zFn (some (zI 0)) (GM L) σ) = Q
  refine zaload_n (k := 0) rfl rfl ?_
  refine zfV0 (k := 1) rfl (bad_lex f8_q) fm_M_lex lk_12_250 rfl rfl ob_289 ⟨_, rfl, rfl⟩ (Nat.le_of_ble_eq_true rfl) (by decide) ⟨by decide, by decide⟩ ?_
  refine zaload_n (k := 2) rfl rfl ?_
  refine zgI 8 (k := 3) rfl ob_289 fl_12_36 rfl fx_289_8 ?_
  refine zif_le (k := 4) rfl rfl (fun c1_q => ?_) (fun c1_q => ?_)
  · exfalso; omega
  refine ziconst (k := 5) rfl (by decide) ?_
  refine zireturn (k := 6) rfl rfl rfl ?_
  rw [← hQ]
  exact ⟨rfl, rfl, rfl⟩
/-! in either mode -/
theorem rdR_i {σ0 : zSpan} {σ : zv_H} {T : Int → Int} {n i k pl : Int} {A : zv_H} (h : rdR σ0 σ T n i A (Sum.inr (k, pl))) : 0 < σ 289 8 := by
  have q := h.2.2.2.2
  have q1_q := q.1
  have q2_q := q.2.1
  omega
theorem k_must {Γ : zv_M} {L : Int} {σ0 : zSpan} {σ : zv_H} {T : Int → Int} {n i c : Int} {A : zv_H} {r : zX Int} (h : rdR σ0 σ T n i A r) : zC Γ m_M_must 3 0 0 (GM L) [zR 289, zI c] σ (zP0 (GM L) (fun σ' => rdR σ0 σ' T n i A (bnd r (fun p => tkSign T c p)))) := by
  rcases r with p | ⟨k, pl⟩
  · by_cases k4_q : tK T p = 4
    · exact g_must4 h k4_q
    · exact g_must5 h k4_q
  · refine zC_mono (fun q G' σ' hq => ?_) (b_must (rdR_i h))
    obtain ⟨rfl, rfl, rfl⟩ := hq
    exact ⟨rfl, rfl, h⟩
theorem k_word {Γ : zv_M} {L : Int} {σ0 : zSpan} {σ : zv_H} {T : Int → Int} {n i w u : Int} {A : zv_H} {r : zX Int} (h : rdR σ0 σ T n i A r) (hu : 0 ≤ u ∧ u < 24) (hw : w = ownW u) : zC Γ m_M_must_ 3 0 0 (GM L) [zR 289, zL w] σ (zP0 (GM L) (fun σ' => rdR σ0 σ' T n i A (bnd r (fun p => tkWord T u p)))) := by
  rcases r with p | ⟨k, pl⟩
  · by_cases k4_q : tK T p = 4
    · exact g_word4 h hu hw k4_q
    · exact g_word5 h hu hw k4_q
  · refine zC_mono (fun q G' σ' hq => ?_) (b_word (rdR_i h))
    obtain ⟨rfl, rfl, rfl⟩ := hq
    exact ⟨rfl, rfl, h⟩
theorem k_num {Γ : zv_M} {L : Int} {σ0 : zSpan} {σ : zv_H} {T : Int → Int} {n i lo hi : Int} {A : zv_H} {r : zX Int} (h : rdR σ0 σ T n i A r) : zC Γ m_M_number 3 0 0 (GM L) [zR 289, zI lo, zI hi] σ (zPI (GM L) (fun z σ' => rdR σ0 σ' T n i A (bnd r (fun p => bnd (tkNum T lo hi p) (fun q => Sum.inl q.2))) ∧ ∀ p q, r = Sum.inl p → tkNum T lo hi p = Sum.inl q → z = q.1)) := by
  rcases r with p | ⟨k, pl⟩
  · by_cases k4_q : tK T p = 4
    · refine zC_mono (fun q G' σ' hq => ?_) (g_num4 (lo := lo) (hi := hi) h k4_q)
      obtain ⟨h1_q, z, h2_q, h3_q, h4_q⟩ := hq
      exact ⟨h1_q, z, h2_q, h3_q, fun p2_q q e1_q e2_q => by cases e1_q; exact h4_q q e2_q⟩
    · refine zC_mono (fun q G' σ' hq => ?_) (g_num5 (lo := lo) (hi := hi) h k4_q)
      obtain ⟨h1_q, z, h2_q, h3_q, h4_q⟩ := hq
      exact ⟨h1_q, z, h2_q, h3_q, fun p2_q q e1_q e2_q => by cases e1_q; exact h4_q q e2_q⟩
  · refine zC_mono (fun q G' σ' hq => ?_) (b_num (rdR_i h))
    obtain ⟨rfl, rfl, rfl⟩ := hq
    exact ⟨rfl, _, rfl, h, fun p q e1_q e2_q => by cases e1_q⟩
theorem k_new {Γ : zv_M} {L : Int} {σ0 : zSpan} {σ : zv_H} {T : Int → Int} {n i : Int} {A : zv_H} {r : zX Int} (h : rdR σ0 σ T n i A r) (hi1_q : i = 0 ∨ i = 1) (hA : AI T A) : zC Γ m_M_fresh 3 0 0 (GM L) [zR 289] σ (zPL (GM L) (fun z σ' => rdR σ0 σ' T n i A (bnd r (fun p => tkNew T A p)) ∧ ∀ p q, r = Sum.inl p → tkNew T A p = Sum.inl q → z = tNw T p)) := by
  rcases r with p | ⟨k, pl⟩
  · by_cases k4_q : tK T p = 4
    · refine zC_mono (fun q G' σ' hq => ?_) (g_new4 h hi1_q hA k4_q)
      obtain ⟨h1_q, z, h2_q, h3_q, h4_q⟩ := hq
      exact ⟨h1_q, z, h2_q, h3_q, fun p2_q q e1_q e2_q => by cases e1_q; exact h4_q q e2_q⟩
    · refine zC_mono (fun q G' σ' hq => ?_) (g_new5 h hi1_q hA k4_q)
      obtain ⟨h1_q, z, h2_q, h3_q, h4_q⟩ := hq
      exact ⟨h1_q, z, h2_q, h3_q, fun p2_q q e1_q e2_q => by cases e1_q; exact h4_q q e2_q⟩
  · refine zC_mono (fun q G' σ' hq => ?_) (b_new (rdR_i h))
    obtain ⟨rfl, rfl, rfl⟩ := hq
    exact ⟨rfl, _, rfl, h, fun p q e1_q e2_q => by cases e1_q⟩
theorem k_cty {Γ : zv_M} {L : Int} {σ0 : zSpan} {σ : zv_H} {T : Int → Int} {n i rf u : Int} {A : zv_H} {r : zX Int} (h : rdR σ0 σ T n i A r) (hi1_q : i = 0 ∨ i = 1) (hA : AI T A) (hb : (∃ p, r = Sum.inl p) → ∀ k, 0 ≤ k → k < 7 → (zshr u k % 2 = 1 ↔ rf ≠ -1 ∧ (k = rf ∨ A 12 (rf * 7 + k) ≠ 0))) (hub : -2147483648 ≤ u ∧ u ≤ 2147483647) : zC Γ m_M_knownBut 3 0 0 (GM L) [zR 289, zI u] σ (zPI (GM L) (fun z σ' => rdR σ0 σ' T n i A (bnd r (fun p => bnd (tkCty T A rf p) (fun q => Sum.inl q.2))) ∧ (0 ≤ z ∧ z < 7) ∧ ∀ p q, r = Sum.inl p → tkCty T A rf p = Sum.inl q → z = q.1 ∧ (0 ≤ z ∧ z < A 0 1))) := by
  rcases r with p | ⟨k, pl⟩
  · by_cases k4_q : tK T p = 4
    · refine zC_mono (fun q G' σ' hq => ?_) (g_cty4 h hi1_q hA (hb ⟨p, rfl⟩) hub k4_q)
      obtain ⟨h1_q, z, h2_q, h3_q, h5_q, h4_q⟩ := hq
      exact ⟨h1_q, z, h2_q, h3_q, h5_q, fun p2_q q e1_q e2_q => by cases e1_q; exact h4_q q e2_q⟩
    · refine zC_mono (fun q G' σ' hq => ?_) (g_cty5 h hi1_q hA (hb ⟨p, rfl⟩) hub k4_q)
      obtain ⟨h1_q, z, h2_q, h3_q, h5_q, h4_q⟩ := hq
      exact ⟨h1_q, z, h2_q, h3_q, h5_q, fun p2_q q e1_q e2_q => by cases e1_q; exact h4_q q e2_q⟩
  · refine zC_mono (fun q G' σ' hq => ?_) (b_cty (rdR_i h))
    obtain ⟨rfl, rfl, rfl⟩ := hq
    exact ⟨rfl, _, rfl, h, ⟨Int.le_refl _, by omega⟩, fun p q e1_q e2_q => by cases e1_q⟩
