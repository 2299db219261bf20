/-! the model's takes, and what they leave as it was -/
abbrev zNo : Int → Int → Prop := fun _ _ => False
theorem rdR_self {s : zSpan} {σ : zv_H} {T : Int → Int} {n i : Int} {A : zv_H} {r : zX Int} (h : rdR s σ T n i A r) : rdR (σ, zNo) σ T n i A r := ⟨frR_rf σ zNo, h.2⟩
theorem rdR_up {s : zSpan} {σ σ' : zv_H} {T : Int → Int} {n i : Int} {A A' : zv_H} {r r' : zX Int} (h : rdR s σ T n i A r) (h2_q : rdR (σ, zNo) σ' T n i A' r') : rdR s σ' T n i A' r' ∧ sfe σ σ' := by
  have e : sfe σ σ' := fun x k a => h2_q.1 x k (fun q => q) a
  exact ⟨⟨frR_tr h.1 e, h2_q.2⟩, e⟩
theorem MSc_x {σ σ' : zv_H} {T : Int → Int} {p : Int} (h : MSd σ T p) (he : ∀ k, (3 ≤ k ∧ k ≤ 9) ∨ k = 12 → σ' 289 k = σ 289 k) : MSd σ' T p := by
  obtain ⟨a, b, c, d, e, f, g⟩ := h
  exact ⟨by rw [he 4 (by omega)]; exact a, fun q => by rw [he 12 (by omega), he 3 (by omega)]; exact b q, fun q => by rw [he 12 (by omega), he 3 (by omega), he 5 (by omega)]; exact c q, fun q => by rw [he 6 (by omega)]; exact d q, fun q => by rw [he 6 (by omega)]; exact e q, fun q => by rw [he 6 (by omega), he 7 (by omega)]; exact f q, by rw [he 9 (by omega)]; exact g⟩
theorem stR'_x {σ σ' : zv_H} {T : Int → Int} {n : Int} {r : zX Int} (h : stR' σ T n r) (he : ∀ k, (3 ≤ k ∧ k ≤ 9) ∨ k = 12 → σ' 289 k = σ 289 k) : stR' σ' T n r := by
  rcases r with p | ⟨k, pl⟩
  · exact ⟨by rw [he 8 (by omega)]; exact h.1, h.2.1, MSc_x h.2.2 (fun k q => he k (by omega))⟩
  · exact ⟨h.1, by rw [he 8 (by omega)]; exact h.2.1, by rw [he 9 (by omega)]; exact h.2.2⟩
/-- a cell behind what is told -/
theorem rdR_w {s : zSpan} {σ : zv_H} {T : Int → Int} {n i x k v : Int} {A : zv_H} {r : zX Int} (h : rdR s σ T n i A r) (hs : s.2 x k) (hb : (((292 ≤ x ∧ x ≤ 294) ∨ x = 306) ∧ k = 7 * i + A 0 1) ∨ ((x = 299 ∨ x = 300 ∨ x = 307) ∧ k = 6 * i + A 0 3)) : rdR s (zup σ x k v) T n i A r := by
  obtain ⟨f, t, b, ⟨w1_q, w2_q, w3_q, w4_q⟩, g⟩ := h
  refine ⟨fun y j q1_q q2_q => ?_, ⟨by rw [zup_n (by omega)]; exact t.1, t.2.1, fun j q1_q q2_q => by rw [zup_n (by omega)]; exact t.2.2 j q1_q q2_q⟩, by rw [zup_n (by omega)]; exact b, ⟨by rw [zup_n (by omega), zup_n (by omega), zup_n (by omega), zup_n (by omega)]; exact w1_q, fun c q1_q q2_q => ?_, fun c q1_q q2_q => ?_, fun c q1_q q2_q => by rw [zup_n (by omega)]; exact w4_q c q1_q q2_q⟩, stR'_x g (fun j q => zup_n (by omega))⟩
  · rw [zup_n (fun q => q1_q (by rw [q.1, q.2]; exact hs))]; exact f y j q1_q q2_q
  · rw [zup_n (by omega), zup_n (by omega), zup_n (by omega), zup_n (by omega)]; exact w2_q c q1_q q2_q
  · rw [zup_n (by omega), zup_n (by omega), zup_n (by omega)]; exact w3_q c q1_q q2_q
theorem q_must {Γ : zv_M} {L : Int} {s : zSpan} {σ : zv_H} {T : Int → Int} {n i : Int} {A : zv_H} {r : zX Int} (h : rdR s σ T n i A r) {c : Int} : zC Γ m_M_must 3 0 0 (GM L) [zR 289, zI c] σ (zP0 (GM L) (fun σ' => rdR s σ' T n i A (bnd r (fun p => tkSign T c p)) ∧ sfe σ σ')) := by
  refine zC_mono (fun q G' σ' hq => ?_) (k_must (rdR_self h))
  exact ⟨hq.1, hq.2.1, rdR_up h hq.2.2⟩
theorem q_word {Γ : zv_M} {L : Int} {s : zSpan} {σ : zv_H} {T : Int → Int} {n i : Int} {A : zv_H} {r : zX Int} (h : rdR s σ T n i A r) {u w : Int} (hu : 0 ≤ u ∧ u < 24) (hw : w = ownW u) : zC Γ m_M_must_ 3 0 0 (GM L) [zR 289, zL w] σ (zP0 (GM L) (fun σ' => rdR s σ' T n i A (bnd r (fun p => tkWord T u p)) ∧ sfe σ σ')) := by
  refine zC_mono (fun q G' σ' hq => ?_) (k_word (rdR_self h) hu hw)
  exact ⟨hq.1, hq.2.1, rdR_up h hq.2.2⟩
theorem q_num {Γ : zv_M} {L : Int} {s : zSpan} {σ : zv_H} {T : Int → Int} {n i : Int} {A : zv_H} {r : zX Int} (h : rdR s σ T n i A r) {lo hi : Int} : zC Γ m_M_number 3 0 0 (GM L) [zR 289, zI lo, zI hi] σ (zPI (GM L) (fun z σ' => rdR s σ' T n i A (bnd r (fun p => bnd (tkNum T lo hi p) (fun q => Sum.inl q.2))) ∧ sfe σ σ' ∧ ∀ p q, r = Sum.inl p → tkNum T lo hi p = Sum.inl q → z = q.1)) := by
  refine zC_mono (fun q G' σ' hq => ?_) (k_num (rdR_self h))
  obtain ⟨g1_q, z, g2_q, g3_q, g4_q⟩ := hq
  have u := rdR_up h g3_q
  exact ⟨g1_q, z, g2_q, u.1, u.2, g4_q⟩
theorem q_new {Γ : zv_M} {L : Int} {s : zSpan} {σ : zv_H} {T : Int → Int} {n i : Int} {A : zv_H} {r : zX Int} (h : rdR s σ T n i A r) (hi1_q : i = 0 ∨ i = 1) (hA : AI T A) : zC Γ m_M_fresh 3 0 0 (GM L) [zR 289] σ (zPL (GM L) (fun z σ' => rdR s σ' T n i A (bnd r (fun p => tkNew T A p)) ∧ sfe σ σ' ∧ ∀ p q, r = Sum.inl p → tkNew T A p = Sum.inl q → z = tNw T p)) := by
  refine zC_mono (fun q G' σ' hq => ?_) (k_new (rdR_self h) hi1_q hA)
  obtain ⟨g1_q, z, g2_q, g3_q, g4_q⟩ := hq
  have u := rdR_up h g3_q
  exact ⟨g1_q, z, g2_q, u.1, u.2, g4_q⟩
theorem q_cty {Γ : zv_M} {L : Int} {s : zSpan} {σ : zv_H} {T : Int → Int} {n i : Int} {A : zv_H} {r : zX Int} (h : rdR s σ T n i A r) {rf u : Int} (hi1_q : i = 0 ∨ i = 1) (hA : AI T A) (hb : (∃ p, r = Sum.inl p) → ∀ k, 0 ≤ k → k < 7 → (zshr u k % 2 = 1 ↔ rf ≠ -1 ∧ (k = rf ∨ A 12 (rf * 7 + k) ≠ 0))) (hub : -2147483648 ≤ u ∧ u ≤ 2147483647) : zC Γ m_M_knownBut 3 0 0 (GM L) [zR 289, zI u] σ (zPI (GM L) (fun z σ' => rdR s σ' T n i A (bnd r (fun p => bnd (tkCty T A rf p) (fun q => Sum.inl q.2))) ∧ sfe σ σ' ∧ (0 ≤ z ∧ z < 7) ∧ ∀ p q, r = Sum.inl p → tkCty T A rf p = Sum.inl q → z = q.1 ∧ (0 ≤ z ∧ z < A 0 1))) := by
  refine zC_mono (fun q G' σ' hq => ?_) (k_cty (rdR_self h) hi1_q hA hb hub)
  obtain ⟨g1_q, z, g2_q, g3_q, g4_q⟩ := hq
  have u := rdR_up h g3_q
  exact ⟨g1_q, z, g2_q, u.1, u.2, g4_q⟩
