/-! THE MODEL READS: takes -/
theorem tP_0 {T : Int → Int} {n p : Int} (hp : 0 ≤ p ∧ p ≤ n) : 0 ≤ tQ T p ∧ 0 ≤ tP T p := by
  have sb := skp_b (T := T) 1600 p
  rw [show skp T 1600 p = tQ T p from rfl] at sb
  refine ⟨by omega, ?_⟩
  unfold tP
  by_cases h : tK T p = 4 ∧ ¬ tS T p
  · rw [if_pos h]; split <;> omega
  · rw [if_neg h]; omega
theorem k_ahd {Γ : zv_M} {L : Int} {σ0 : zSpan} {σ : zv_H} {T : Int → Int} {n i p : Int} {A : zv_H} {r : zX Int} (h : rdR σ0 σ T n i A r) (h0_q : σ 289 8 = 0) (h5_q : σ 289 5 = tN T p) (hp : 0 ≤ p ∧ p ≤ n) (hk : tK T p = 1 ∨ tK T p = 2 ∨ tK T p = 3) : zC Γ m_M_ahead 1 0 0 (GM L) [zR 289] σ (zP0 (GM L) (fun σ' => rdR σ0 σ' T n i A (Sum.inl (tN T p)))) := by
  have tb := tN_c h.2.1.2.1 hp hk
  refine zC_mono (fun q G' σ' hq => ?_) (c_M_ahead (p := tN T p) h.2.1 ⟨by omega, tb.2.2⟩ h5_q)
  obtain ⟨g1_q, g2_q, g3_q, g4_q⟩ := hq
  exact ⟨g1_q, g2_q, rdR_s h h0_q g4_q g3_q ⟨by omega, tb.2.2⟩⟩
theorem k_lex {Γ : zv_M} {L : Int} {σ0 : zSpan} {σ : zv_H} {T : Int → Int} {n i p : Int} {A : zv_H} (h : rdR σ0 σ T n i A (Sum.inl p)) : zC Γ m_M_lex 1 0 0 (GM L) [zR 289] σ (zP0 (GM L) (fun σ' => (tK T p ≠ 4 ∧ σ' = σ) ∨ (tK T p = 4 ∧ rdR σ0 σ' T n i A (Sum.inr (1, tP T p)) ∧ σ' 289 8 = 1))) := by
  obtain ⟨a1_q, a2_q, a3_q, a4_q, a5_q, a6_q, a7_q⟩ := h
  refine zC_mono (fun q G' σ' hq => ?_) (c_M_lex (by omega))
  obtain ⟨g1_q, g2_q, g3_q⟩ := hq
  refine ⟨g1_q, g2_q, ?_⟩
  have tp := tP_0 (T := T) a6_q
  by_cases e : tK T p = 4
  · have l := (a7_q.2.1 e).1
    rcases g3_q with ⟨b1_q, b2_q⟩ | ⟨b1_q, b2_q, b3_q⟩
    · exfalso; omega
    · refine Or.inr ⟨e, ?_, by rw [b3_q, zup_n (by omega), zup_s]⟩
      rw [b3_q, l]
      exact rdR_b (r := Sum.inl p) ⟨a1_q, a2_q, a3_q, a4_q, a5_q, a6_q, a7_q⟩ (by omega)
  · have l := (a7_q.2.2.1 e).1
    rcases g3_q with ⟨b1_q, b2_q⟩ | ⟨b1_q, b2_q, b3_q⟩
    · exact Or.inl ⟨e, b2_q⟩
    · exact absurd l b1_q
theorem bad_lex {Γ : zv_M} {L : Int} {σ : zv_H} (h : 0 < σ 289 8) : zC Γ m_M_lex 1 0 0 (GM L) [zR 289] σ (zFn none (GM L) σ) := by
  refine zC_mono (fun q G' σ' hq => ?_) (c_M_lex (by omega))
  obtain ⟨g1_q, g2_q, g3_q⟩ := hq
  rcases g3_q with ⟨b1_q, b2_q⟩ | ⟨b1_q, b2_q, b3_q⟩
  · exact ⟨g2_q, g1_q, b2_q⟩
  · exfalso; omega
theorem bad_blame {Γ : zv_M} {L : Int} {σ : zv_H} {k pl : Int} (h : 0 < σ 289 8) : zC Γ m_M_blame 0 0 0 (GM L) [zR 289, zI k, zI pl] σ (zFn none (GM L) σ) := by
  refine zC_mono (fun q G' σ' hq => ?_) (c_M_blame (by omega))
  obtain ⟨g1_q, g2_q, g3_q⟩ := hq
  rcases g3_q with ⟨b1_q, b2_q⟩ | ⟨b1_q, b2_q⟩
  · exact ⟨g2_q, g1_q, b2_q⟩
  · exfalso; omega
theorem k_blm {Γ : zv_M} {L : Int} {σ0 : zSpan} {σ : zv_H} {T : Int → Int} {n i k pl : Int} {A : zv_H} {r : zX Int} (h : rdR σ0 σ T n i A r) (h0_q : σ 289 8 = 0) (hk : 0 < k) : zC Γ m_M_blame 0 0 0 (GM L) [zR 289, zI k, zI pl] σ (zP0 (GM L) (fun σ' => rdR σ0 σ' T n i A (Sum.inr (k, pl)) ∧ σ' 289 8 = k ∧ ∀ x j, ¬ (x = 289 ∧ (j = 8 ∨ j = 9)) → σ' x j = σ x j)) := by
  refine zC_mono (fun q G' σ' hq => ?_) (c_M_blame (by omega))
  obtain ⟨g1_q, g2_q, g3_q⟩ := hq
  refine ⟨g1_q, g2_q, ?_⟩
  rcases g3_q with ⟨b1_q, b2_q⟩ | ⟨b1_q, b2_q⟩
  · exfalso; omega
  · rw [b2_q]
    exact ⟨rdR_b h hk, by rw [zup_n (by omega), zup_s], fun x j q => by rw [zup_n (by omega), zup_n (by omega)]⟩
