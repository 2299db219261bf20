set_option maxHeartbeats 4000000 in
set_option maxRecDepth 20000 in
theorem g_must4 {Γ : zv_M} {L : Int} {σ0 : zSpan} {σ : zv_H} {T : Int → Int} {n i p : Int} {A : zv_H} (h : rdR σ0 σ T n i A (Sum.inl p)) {c : Int} (k4_q : tK T p = 4)  : zC Γ m_M_must 3 0 0 (GM L) [zR 289, zI c] σ (zP0 (GM L) (fun σ' => rdR σ0 σ' T n i A (tkSign T c p))) := by
  refine zC_of (ls0 := [_, _]) zm_M_must (by decide) rfl (Nat.le_of_ble_eq_true rfl) ?_
  generalize hQ : (zP0 (GM L) (fun σ' => rdR σ0 σ' T n i A (tkSign T c p))) = Q
  obtain ⟨a1_q, a2_q, a3_q, a4_q, f8_q, hp, hm⟩ := h
  have h : rdR σ0 σ T n i A (Sum.inl p) := ⟨a1_q, a2_q, a3_q, a4_q, f8_q, hp, hm⟩
  have tp := tP_0 (T := T) hp
  have hn := a2_q.2.1.1
  refine zaload_n (k := 0) rfl rfl ?_
  refine zpV0 (k := 1) rfl (k_lex h) fm_M_lex lk_12_250 rfl rfl ob_289 ⟨_, rfl, rfl⟩ (Nat.le_of_ble_eq_true rfl) (by decide) ⟨by decide, by decide⟩ (fun σ1 l1_q => ?_)
  -- BLAMED
  obtain ⟨_, h1_q, f8_q⟩ : tK T p = 4 ∧ rdR σ0 σ1 T n i A (Sum.inr (1, tP T p)) ∧ σ1 289 8 = 1 := by
    rcases l1_q with q | q
    · exact absurd k4_q q.1
    · exact q
  refine zaload_n (k := 2) rfl rfl ?_
  refine ziload_n (k := 3) rfl rfl ?_
  refine zfV1 (k := 4) rfl c_M_isSign fm_M_isSign lk_12_253 rfl rfl ob_289 ⟨_, rfl, rfl⟩ (Nat.le_of_ble_eq_true rfl) (by decide) ⟨by decide, by decide⟩ ?_
  refine zif_ne (k := 5) rfl rfl (fun c1_q => ?_) (fun c1_q => ?_)
  · skip
    refine zaload_n (k := 11) rfl rfl ?_
    refine zgI 8 (k := 12) rfl ob_289 fl_12_36 rfl fx_289_8 ?_
    rw [f8_q]
    refine zif_ne (k := 13) rfl rfl (fun c2_q => ?_) (fun c2_q => ?_)
    · skip
      refine zreturn (k := 16) rfl rfl rfl ?_
      rw [← hQ]
      refine ⟨rfl, rfl, ?_⟩
      rw [show tkSign T c p = Sum.inr (1, tP T p) from if_neg (fun q => by have q1_q := q.1; omega)]
      exact h1_q
    · exfalso; omega
  · skip
    refine zaload_n (k := 6) rfl rfl ?_
    refine ziconst (k := 7) rfl (by decide) ?_
    refine zaload_n (k := 8) rfl rfl ?_
    refine zgI 4 (k := 9) rfl ob_289 fl_12_23 rfl fx_289_4 ?_
    skip
    refine zfV0 (k := 10) rfl (bad_blame (by omega)) fm_M_blame lk_12_239 rfl rfl ob_289 ⟨_, rfl, rfl⟩ (Nat.le_of_ble_eq_true rfl) (by decide) ⟨by decide, by decide⟩ ?_
    refine zaload_n (k := 11) rfl rfl ?_
    refine zgI 8 (k := 12) rfl ob_289 fl_12_36 rfl fx_289_8 ?_
    rw [f8_q]
    refine zif_ne (k := 13) rfl rfl (fun c3_q => ?_) (fun c3_q => ?_)
    · skip
      refine zreturn (k := 16) rfl rfl rfl ?_
      rw [← hQ]
      refine ⟨rfl, rfl, ?_⟩
      rw [show tkSign T c p = Sum.inr (1, tP T p) from if_neg (fun q => by have q1_q := q.1; omega)]
      exact h1_q
    · exfalso; omega
set_option maxHeartbeats 4000000 in
set_option maxRecDepth 20000 in
theorem g_must5 {Γ : zv_M} {L : Int} {σ0 : zSpan} {σ : zv_H} {T : Int → Int} {n i p : Int} {A : zv_H} (h : rdR σ0 σ T n i A (Sum.inl p)) {c : Int} (k4_q : tK T p ≠ 4)  : zC Γ m_M_must 3 0 0 (GM L) [zR 289, zI c] σ (zP0 (GM L) (fun σ' => rdR σ0 σ' T n i A (tkSign T c p))) := by
  refine zC_of (ls0 := [_, _]) zm_M_must (by decide) rfl (Nat.le_of_ble_eq_true rfl) ?_
  generalize hQ : (zP0 (GM L) (fun σ' => rdR σ0 σ' T n i A (tkSign T c p))) = Q
  obtain ⟨a1_q, a2_q, a3_q, a4_q, f8_q, hp, hm⟩ := h
  have h : rdR σ0 σ T n i A (Sum.inl p) := ⟨a1_q, a2_q, a3_q, a4_q, f8_q, hp, hm⟩
  have tp := tP_0 (T := T) hp
  have hn := a2_q.2.1.1
  have sg := (hm.2.2.1 k4_q).2.1
  have sn := (hm.2.2.1 k4_q).2.2
  have sq := hm.1
  have tpq : tP T p = tQ T p := tPQ k4_q
  
  refine zaload_n (k := 0) rfl rfl ?_
  refine zpV0 (k := 1) rfl (k_lex h) fm_M_lex lk_12_250 rfl rfl ob_289 ⟨_, rfl, rfl⟩ (Nat.le_of_ble_eq_true rfl) (by decide) ⟨by decide, by decide⟩ (fun σ1 l1_q => ?_)
  obtain ⟨_, rfl⟩ : tK T p ≠ 4 ∧ σ = σ1 := by
    rcases l1_q with q | q
    · exact ⟨q.1, q.2.symm⟩
    · exact absurd q.1 k4_q
  refine zaload_n (k := 2) rfl rfl ?_
  refine ziload_n (k := 3) rfl rfl ?_
  refine zfV1 (k := 4) rfl c_M_isSign fm_M_isSign lk_12_253 rfl rfl ob_289 ⟨_, rfl, rfl⟩ (Nat.le_of_ble_eq_true rfl) (by decide) ⟨by decide, by decide⟩ ?_
  refine zif_ne (k := 5) rfl rfl (fun c1_q => ?_) (fun c1_q => ?_)
  · skip
    refine zaload_n (k := 11) rfl rfl ?_
    refine zgI 8 (k := 12) rfl ob_289 fl_12_36 rfl fx_289_8 ?_
    rw [f8_q]
    refine zif_ne (k := 13) rfl rfl (fun c2_q => ?_) (fun c2_q => ?_)
    · exfalso; omega
    refine zaload_n (k := 14) rfl rfl ?_
    refine zpV0 (k := 15) rfl (k_ahd h f8_q sn hp (Or.inr (Or.inr (by omega)))) fm_M_ahead lk_12_256 rfl rfl ob_289 ⟨_, rfl, rfl⟩ (Nat.le_of_ble_eq_true rfl) (by decide) ⟨by decide, by decide⟩ (fun σ3 h3_q => ?_)
    refine zreturn (k := 16) rfl rfl rfl ?_
    rw [← hQ]
    refine ⟨rfl, rfl, ?_⟩
    have k3_q : tK T p = 3 := by omega
    have q3_q := hm.2.2.2.1 k3_q
    rw [show tkSign T c p = Sum.inl (tN T p) from if_pos ⟨k3_q, by omega⟩]
    exact h3_q
  · skip
    refine zaload_n (k := 6) rfl rfl ?_
    refine ziconst (k := 7) rfl (by decide) ?_
    refine zaload_n (k := 8) rfl rfl ?_
    refine zgI 4 (k := 9) rfl ob_289 fl_12_23 rfl fx_289_4 ?_
    rw [sq]
    refine zpV0 (k := 10) rfl (k_blm (k := 1) (pl := (tQ T p)) h f8_q (by omega)) fm_M_blame lk_12_239 rfl rfl ob_289 ⟨_, rfl, rfl⟩ (Nat.le_of_ble_eq_true rfl) (by decide) ⟨by decide, by decide⟩ (fun σ2 b2_q => ?_)
    -- BLAMED
    obtain ⟨h2_q, f8_q, fx⟩ := b2_q
    refine zaload_n (k := 11) rfl rfl ?_
    refine zgI 8 (k := 12) rfl ob_289 fl_12_36 rfl fx_289_8 ?_
    rw [f8_q]
    refine zif_ne (k := 13) rfl rfl (fun c3_q => ?_) (fun c3_q => ?_)
    · skip
      refine zreturn (k := 16) rfl rfl rfl ?_
      rw [← hQ]
      refine ⟨rfl, rfl, ?_⟩
      rw [show tkSign T c p = Sum.inr (1, tP T p) from if_neg (fun q => by have q1_q := q.1; have q2_q := q.2; have q3_q := hm.2.2.2.1 q1_q; omega), tpq]
      exact h2_q
    · exfalso; omega
set_option maxHeartbeats 4000000 in
set_option maxRecDepth 20000 in
theorem g_word4 {Γ : zv_M} {L : Int} {σ0 : zSpan} {σ : zv_H} {T : Int → Int} {n i p : Int} {A : zv_H} (h : rdR σ0 σ T n i A (Sum.inl p)) {u w : Int} (hu : 0 ≤ u ∧ u < 24) (hw : w = ownW u) (k4_q : tK T p = 4)  : zC Γ m_M_must_ 3 0 0 (GM L) [zR 289, zL w] σ (zP0 (GM L) (fun σ' => rdR σ0 σ' T n i A (tkWord T u p))) := by
  refine zC_of (ls0 := [_, _, _]) zm_M_must_ (by decide) rfl (Nat.le_of_ble_eq_true rfl) ?_
  generalize hQ : (zP0 (GM L) (fun σ' => rdR σ0 σ' T n i A (tkWord T u p))) = Q
  obtain ⟨a1_q, a2_q, a3_q, a4_q, f8_q, hp, hm⟩ := h
  have h : rdR σ0 σ T n i A (Sum.inl p) := ⟨a1_q, a2_q, a3_q, a4_q, f8_q, hp, hm⟩
  have tp := tP_0 (T := T) hp
  have hn := a2_q.2.1.1
  refine zaload_n (k := 0) rfl rfl ?_
  refine zpV0 (k := 1) rfl (k_lex h) fm_M_lex lk_12_250 rfl rfl ob_289 ⟨_, rfl, rfl⟩ (Nat.le_of_ble_eq_true rfl) (by decide) ⟨by decide, by decide⟩ (fun σ1 l1_q => ?_)
  -- BLAMED
  obtain ⟨_, h1_q, f8_q⟩ : tK T p = 4 ∧ rdR σ0 σ1 T n i A (Sum.inr (1, tP T p)) ∧ σ1 289 8 = 1 := by
    rcases l1_q with q | q
    · exact absurd k4_q q.1
    · exact q
  refine zaload_n (k := 2) rfl rfl ?_
  refine zgI 8 (k := 3) rfl ob_289 fl_12_36 rfl fx_289_8 ?_
  rw [f8_q]
  refine zif_le (k := 4) rfl rfl (fun c1_q => ?_) (fun c1_q => ?_)
  · exfalso; omega
  refine zreturn (k := 5) rfl rfl rfl ?_
  rw [← hQ]
  refine ⟨rfl, rfl, ?_⟩
  rw [show tkWord T u p = Sum.inr (1, tP T p) from if_neg (fun q => by have q1_q := q.1; omega)]
  exact h1_q
set_option maxHeartbeats 4000000 in
set_option maxRecDepth 20000 in
theorem g_word5 {Γ : zv_M} {L : Int} {σ0 : zSpan} {σ : zv_H} {T : Int → Int} {n i p : Int} {A : zv_H} (h : rdR σ0 σ T n i A (Sum.inl p)) {u w : Int} (hu : 0 ≤ u ∧ u < 24) (hw : w = ownW u) (k4_q : tK T p ≠ 4)  : zC Γ m_M_must_ 3 0 0 (GM L) [zR 289, zL w] σ (zP0 (GM L) (fun σ' => rdR σ0 σ' T n i A (tkWord T u p))) := by
  refine zC_of (ls0 := [_, _, _]) zm_M_must_ (by decide) rfl (Nat.le_of_ble_eq_true rfl) ?_
  generalize hQ : (zP0 (GM L) (fun σ' => rdR σ0 σ' T n i A (tkWord T u p))) = Q
  obtain ⟨a1_q, a2_q, a3_q, a4_q, f8_q, hp, hm⟩ := h
  have h : rdR σ0 σ T n i A (Sum.inl p) := ⟨a1_q, a2_q, a3_q, a4_q, f8_q, hp, hm⟩
  have tp := tP_0 (T := T) hp
  have hn := a2_q.2.1.1
  have sg := (hm.2.2.1 k4_q).2.1
  have sn := (hm.2.2.1 k4_q).2.2
  have sq := hm.1
  have tpq : tP T p = tQ T p := tPQ k4_q
  
  refine zaload_n (k := 0) rfl rfl ?_
  refine zpV0 (k := 1) rfl (k_lex h) fm_M_lex lk_12_250 rfl rfl ob_289 ⟨_, rfl, rfl⟩ (Nat.le_of_ble_eq_true rfl) (by decide) ⟨by decide, by decide⟩ (fun σ1 l1_q => ?_)
  obtain ⟨_, rfl⟩ : tK T p ≠ 4 ∧ σ = σ1 := by
    rcases l1_q with q | q
    · exact ⟨q.1, q.2.symm⟩
    · exact absurd q.1 k4_q
  refine zaload_n (k := 2) rfl rfl ?_
  refine zgI 8 (k := 3) rfl ob_289 fl_12_36 rfl fx_289_8 ?_
  rw [f8_q]
  refine zif_le (k := 4) rfl rfl (fun c1_q => ?_) (fun c1_q => ?_)
  · skip
    refine zaload_n (k := 6) rfl rfl ?_
    refine zlload_n (k := 7) rfl rfl ?_
    refine zfV1 (k := 8) rfl c_M_isWord fm_M_isWord lk_12_331 rfl rfl ob_289 ⟨_, rfl, rfl⟩ (Nat.le_of_ble_eq_true rfl) (by decide) ⟨by decide, by decide⟩ ?_
    refine zif_ne (k := 9) rfl rfl (fun c2_q => ?_) (fun c2_q => ?_)
    · skip
      refine zaload_n (k := 15) rfl rfl ?_
      refine zgI 8 (k := 16) rfl ob_289 fl_12_36 rfl fx_289_8 ?_
      rw [f8_q]
      refine zif_ne (k := 17) rfl rfl (fun c3_q => ?_) (fun c3_q => ?_)
      · exfalso; omega
      refine zaload_n (k := 18) rfl rfl ?_
      refine zpV0 (k := 19) rfl (k_ahd h f8_q sn hp (Or.inl (by omega))) fm_M_ahead lk_12_256 rfl rfl ob_289 ⟨_, rfl, rfl⟩ (Nat.le_of_ble_eq_true rfl) (by decide) ⟨by decide, by decide⟩ (fun σ3 h3_q => ?_)
      refine zreturn (k := 20) rfl rfl rfl ?_
      rw [← hQ]
      refine ⟨rfl, rfl, ?_⟩
      have k1_q : tK T p = 1 := by omega
      have q3_q := (hm.2.2.2.2.2.1 k1_q).2
      rw [show tkWord T u p = Sum.inl (tN T p) from if_pos ⟨k1_q, (ow_w k1_q hu).mpr (by omega)⟩]
      exact h3_q
    · skip
      refine zaload_n (k := 10) rfl rfl ?_
      refine ziconst (k := 11) rfl (by decide) ?_
      refine zaload_n (k := 12) rfl rfl ?_
      refine zgI 4 (k := 13) rfl ob_289 fl_12_23 rfl fx_289_4 ?_
      rw [sq]
      refine zpV0 (k := 14) rfl (k_blm (k := 1) (pl := (tQ T p)) h f8_q (by omega)) fm_M_blame lk_12_239 rfl rfl ob_289 ⟨_, rfl, rfl⟩ (Nat.le_of_ble_eq_true rfl) (by decide) ⟨by decide, by decide⟩ (fun σ2 b2_q => ?_)
      -- BLAMED
      obtain ⟨h2_q, f8_q, fx⟩ := b2_q
      refine zaload_n (k := 15) rfl rfl ?_
      refine zgI 8 (k := 16) rfl ob_289 fl_12_36 rfl fx_289_8 ?_
      rw [f8_q]
      refine zif_ne (k := 17) rfl rfl (fun c4_q => ?_) (fun c4_q => ?_)
      · skip
        refine zreturn (k := 20) rfl rfl rfl ?_
        rw [← hQ]
        refine ⟨rfl, rfl, ?_⟩
        rw [show tkWord T u p = Sum.inr (1, tP T p) from if_neg (fun q => by
          have q1_q := q.1
          have q2_q := (ow_w q1_q hu).mp q.2
          have q3_q := (hm.2.2.2.2.2.1 q1_q).2
          omega), tpq]
        exact h2_q
      · exfalso; omega
  · exfalso; omega
set_option maxHeartbeats 4000000 in
set_option maxRecDepth 20000 in
theorem g_num4 {Γ : zv_M} {L : Int} {σ0 : zSpan} {σ : zv_H} {T : Int → Int} {n i p : Int} {A : zv_H} (h : rdR σ0 σ T n i A (Sum.inl p)) {lo hi : Int} (k4_q : tK T p = 4)  : zC Γ m_M_number 3 0 0 (GM L) [zR 289, zI lo, zI hi] σ (zPI (GM L) (fun z σ' => rdR σ0 σ' T n i A (bnd (tkNum T lo hi p) (fun q => Sum.inl q.2)) ∧ ∀ q, tkNum T lo hi p = Sum.inl q → z = q.1)) := by
  refine zC_of (ls0 := [_, _, _, _]) zm_M_number (by decide) rfl (Nat.le_of_ble_eq_true rfl) ?_
  generalize hQ : (zPI (GM L) (fun z σ' => rdR σ0 σ' T n i A (bnd (tkNum T lo hi p) (fun q => Sum.inl q.2)) ∧ ∀ q, tkNum T lo hi p = Sum.inl q → z = q.1)) = Q
  obtain ⟨a1_q, a2_q, a3_q, a4_q, f8_q, hp, hm⟩ := h
  have h : rdR σ0 σ T n i A (Sum.inl p) := ⟨a1_q, a2_q, a3_q, a4_q, f8_q, hp, hm⟩
  have tp := tP_0 (T := T) hp
  have hn := a2_q.2.1.1
  refine zaload_n (k := 0) rfl rfl ?_
  refine zpV0 (k := 1) rfl (k_lex h) fm_M_lex lk_12_250 rfl rfl ob_289 ⟨_, rfl, rfl⟩ (Nat.le_of_ble_eq_true rfl) (by decide) ⟨by decide, by decide⟩ (fun σ1 l1_q => ?_)
  -- BLAMED
  obtain ⟨_, h1_q, f8_q⟩ : tK T p = 4 ∧ rdR σ0 σ1 T n i A (Sum.inr (1, tP T p)) ∧ σ1 289 8 = 1 := by
    rcases l1_q with q | q
    · exact absurd k4_q q.1
    · exact q
  refine zaload_n (k := 2) rfl rfl ?_
  refine zgI 8 (k := 3) rfl ob_289 fl_12_36 rfl fx_289_8 ?_
  rw [f8_q]
  refine zif_le (k := 4) rfl rfl (fun c1_q => ?_) (fun c1_q => ?_)
  · exfalso; omega
  refine ziconst (k := 5) rfl (by decide) ?_
  refine zireturn (k := 6) rfl rfl rfl ?_
  rw [← hQ]
  have e : tkNum T lo hi p = Sum.inr (1, tP T p) := if_pos (by omega)
  refine ⟨rfl, _, rfl, ?_, fun q hq => by rw [e] at hq; cases hq⟩
  rw [e]
  exact h1_q
set_option maxHeartbeats 4000000 in
set_option maxRecDepth 20000 in
theorem g_num5 {Γ : zv_M} {L : Int} {σ0 : zSpan} {σ : zv_H} {T : Int → Int} {n i p : Int} {A : zv_H} (h : rdR σ0 σ T n i A (Sum.inl p)) {lo hi : Int} (k4_q : tK T p ≠ 4)  : zC Γ m_M_number 3 0 0 (GM L) [zR 289, zI lo, zI hi] σ (zPI (GM L) (fun z σ' => rdR σ0 σ' T n i A (bnd (tkNum T lo hi p) (fun q => Sum.inl q.2)) ∧ ∀ q, tkNum T lo hi p = Sum.inl q → z = q.1)) := by
  refine zC_of (ls0 := [_, _, _, _]) zm_M_number (by decide) rfl (Nat.le_of_ble_eq_true rfl) ?_
  generalize hQ : (zPI (GM L) (fun z σ' => rdR σ0 σ' T n i A (bnd (tkNum T lo hi p) (fun q => Sum.inl q.2)) ∧ ∀ q, tkNum T lo hi p = Sum.inl q → z = q.1)) = Q
  obtain ⟨a1_q, a2_q, a3_q, a4_q, f8_q, hp, hm⟩ := h
  have h : rdR σ0 σ T n i A (Sum.inl p) := ⟨a1_q, a2_q, a3_q, a4_q, f8_q, hp, hm⟩
  have tp := tP_0 (T := T) hp
  have hn := a2_q.2.1.1
  have sg := (hm.2.2.1 k4_q).2.1
  have sn := (hm.2.2.1 k4_q).2.2
  have sq := hm.1
  have tpq : tP T p = tQ T p := tPQ k4_q
  
  refine zaload_n (k := 0) rfl rfl ?_
  refine zpV0 (k := 1) rfl (k_lex h) fm_M_lex lk_12_250 rfl rfl ob_289 ⟨_, rfl, rfl⟩ (Nat.le_of_ble_eq_true rfl) (by decide) ⟨by decide, by decide⟩ (fun σ1 l1_q => ?_)
  obtain ⟨_, rfl⟩ : tK T p ≠ 4 ∧ σ = σ1 := by
    rcases l1_q with q | q
    · exact ⟨q.1, q.2.symm⟩
    · exact absurd q.1 k4_q
  refine zaload_n (k := 2) rfl rfl ?_
  refine zgI 8 (k := 3) rfl ob_289 fl_12_36 rfl fx_289_8 ?_
  rw [f8_q]
  refine zif_le (k := 4) rfl rfl (fun c1_q => ?_) (fun c1_q => ?_)
  · skip
    refine zaload_n (k := 7) rfl rfl ?_
    refine zgI 3 (k := 8) rfl ob_289 fl_12_20 rfl fx_289_3 ?_
    rw [sg]
    refine ziconst (k := 9) rfl (by decide) ?_
    refine zicmp_eq (k := 10) rfl rfl (fun c2_q => ?_) (fun c2_q => ?_)
    · skip
      first
      | (have k2_q : tK T p = 2 := by omega
         have v2_q := hm.2.2.2.2.1 k2_q)
      | skip
      refine zaload_n (k := 16) rfl rfl ?_
      refine zgI 8 (k := 17) rfl ob_289 fl_12_36 rfl fx_289_8 ?_
      rw [f8_q]
      refine zif_ne (k := 18) rfl rfl (fun c3_q => ?_) (fun c3_q => ?_)
      · exfalso; omega
      refine zaload_n (k := 19) rfl rfl ?_
      refine zgI 6 (k := 20) rfl ob_289 fl_12_29 rfl fx_289_6 ?_
      rw [v2_q]
      refine ziload_n (k := 21) rfl rfl ?_
      refine ziload_n (k := 22) rfl rfl ?_
      refine zfS1 (k := 23) rfl c_M_is fm_M_is lk_12_315 rfl rfl (Nat.le_of_ble_eq_true rfl) (by decide) ⟨by decide, by decide⟩ ?_
      refine zif_ne (k := 24) rfl rfl (fun c4_q => ?_) (fun c4_q => ?_)
      · skip
        refine zaload_n (k := 30) rfl rfl ?_
        refine zgI 6 (k := 31) rfl ob_289 fl_12_29 rfl fx_289_6 ?_
        refine zistore_n (k := 32) (ls' := [_, _, _, _]) rfl (Nat.le_of_ble_eq_true rfl) rfl ?_
        refine zaload_n (k := 33) rfl rfl ?_
        refine zgI 8 (k := 34) rfl ob_289 fl_12_36 rfl fx_289_8 ?_
        rw [f8_q]
        refine zif_ne (k := 35) rfl rfl (fun c5_q => ?_) (fun c5_q => ?_)
        · exfalso; omega
        refine zaload_n (k := 36) rfl rfl ?_
        refine zpV0 (k := 37) rfl (k_ahd h f8_q sn hp (Or.inr (Or.inl k2_q))) fm_M_ahead lk_12_256 rfl rfl ob_289 ⟨_, rfl, rfl⟩ (Nat.le_of_ble_eq_true rfl) (by decide) ⟨by decide, by decide⟩ (fun σ3 h3_q => ?_)
        refine ziload_n (k := 38) rfl rfl ?_
        refine zireturn (k := 39) rfl rfl rfl ?_
        rw [← hQ]
        have e : tkNum T lo hi p = Sum.inl (tNv T p, tN T p) := by
          unfold tkNum
          rw [if_neg (fun q => q k2_q), if_neg (by omega)]
        refine ⟨rfl, _, rfl, ?_, fun q hq => by rw [e] at hq; cases hq; exact v2_q⟩
        rw [e]
        exact h3_q
      · skip
        refine zaload_n (k := 25) rfl rfl ?_
        refine ziconst (k := 26) rfl (by decide) ?_
        refine zaload_n (k := 27) rfl rfl ?_
        refine zgI 4 (k := 28) rfl ob_289 fl_12_23 rfl fx_289_4 ?_
        rw [sq]
        refine zpV0 (k := 29) rfl (k_blm (k := 4) (pl := (tQ T p)) h f8_q (by omega)) fm_M_blame lk_12_239 rfl rfl ob_289 ⟨_, rfl, rfl⟩ (Nat.le_of_ble_eq_true rfl) (by decide) ⟨by decide, by decide⟩ (fun σ2 b2_q => ?_)
        -- BLAMED
        obtain ⟨h2_q, f8_q, fx⟩ := b2_q
        refine zaload_n (k := 30) rfl rfl ?_
        refine zgI 6 (k := 31) rfl ob_289 fl_12_29 rfl fx_289_6 ?_
        refine zistore_n (k := 32) (ls' := [_, _, _, _]) rfl (Nat.le_of_ble_eq_true rfl) rfl ?_
        refine zaload_n (k := 33) rfl rfl ?_
        refine zgI 8 (k := 34) rfl ob_289 fl_12_36 rfl fx_289_8 ?_
        rw [f8_q]
        refine zif_ne (k := 35) rfl rfl (fun c6_q => ?_) (fun c6_q => ?_)
        · skip
          refine ziload_n (k := 38) rfl rfl ?_
          refine zireturn (k := 39) rfl rfl rfl ?_
          rw [← hQ]
          have e : tkNum T lo hi p = Sum.inr (4, tP T p) := by
            unfold tkNum
            rw [if_neg (fun q => q k2_q), if_pos (by omega)]
          refine ⟨rfl, _, rfl, ?_, fun q hq => by rw [e] at hq; cases hq⟩
          rw [e, tpq]
          exact h2_q
        · exfalso; omega
    · skip
      refine zaload_n (k := 11) rfl rfl ?_
      refine ziconst (k := 12) rfl (by decide) ?_
      refine zaload_n (k := 13) rfl rfl ?_
      refine zgI 4 (k := 14) rfl ob_289 fl_12_23 rfl fx_289_4 ?_
      rw [sq]
      refine zpV0 (k := 15) rfl (k_blm (k := 1) (pl := (tQ T p)) h f8_q (by omega)) fm_M_blame lk_12_239 rfl rfl ob_289 ⟨_, rfl, rfl⟩ (Nat.le_of_ble_eq_true rfl) (by decide) ⟨by decide, by decide⟩ (fun σ2 b2_q => ?_)
      -- BLAMED
      obtain ⟨h2_q, f8_q, fx⟩ := b2_q
      first
      | (have k2_q : tK T p = 2 := by omega
         have v2_q := hm.2.2.2.2.1 k2_q)
      | skip
      refine zaload_n (k := 16) rfl rfl ?_
      refine zgI 8 (k := 17) rfl ob_289 fl_12_36 rfl fx_289_8 ?_
      rw [f8_q]
      refine zif_ne (k := 18) rfl rfl (fun c7_q => ?_) (fun c7_q => ?_)
      · skip
        refine zaload_n (k := 30) rfl rfl ?_
        refine zgI 6 (k := 31) rfl ob_289 fl_12_29 rfl fx_289_6 ?_
        refine zistore_n (k := 32) (ls' := [_, _, _, _]) rfl (Nat.le_of_ble_eq_true rfl) rfl ?_
        refine zaload_n (k := 33) rfl rfl ?_
        refine zgI 8 (k := 34) rfl ob_289 fl_12_36 rfl fx_289_8 ?_
        rw [f8_q]
        refine zif_ne (k := 35) rfl rfl (fun c8_q => ?_) (fun c8_q => ?_)
        · skip
          refine ziload_n (k := 38) rfl rfl ?_
          refine zireturn (k := 39) rfl rfl rfl ?_
          rw [← hQ]
          have e : tkNum T lo hi p = Sum.inr (1, tP T p) := if_pos (by omega)
          refine ⟨rfl, _, rfl, ?_, fun q hq => by rw [e] at hq; cases hq⟩
          rw [e, tpq]
          exact h2_q
        · exfalso; omega
      · exfalso; omega
  · exfalso; omega
