/-! one version copied to another -/
def cpd (σ σ1 : zv_H) (t f n1 n2 n3 : Int) : Prop := (∀ x k, ¬ inV t x k → σ1 x k = σ x k) ∧ σ1 315 t = σ 315 f ∧ (∀ g c, 1 ≤ g → g ≤ 3 → 0 ≤ c → c < n1 → σ1 (315 + g) (7 * t + c) = σ (315 + g) (7 * f + c)) ∧ (∀ g m, 4 ≤ g → g ≤ 8 → 0 ≤ m → m < n2 → σ1 (315 + g) (6 * t + m) = σ (315 + g) (6 * f + m)) ∧ (∀ k, 0 ≤ k → k < n3 → σ1 324 (42 * t + k) = σ 324 (42 * f + k))
theorem cpd_1 {σ σ1 : zv_H} {t f j : Int} (h : cpd σ σ1 t f j 0 0) (hj : 0 ≤ j ∧ j < 7) : cpd σ (zup (zup (zup σ1 316 (7 * t + j) (σ 316 (7 * f + j))) 317 (7 * t + j) (σ 317 (7 * f + j))) 318 (7 * t + j) (σ 318 (7 * f + j))) t f (j + 1) 0 0 := by
  obtain ⟨h1, h2, h3, h4, h5⟩ := h
  refine ⟨fun x k q => ?_, by rw [zup_n (by omega), zup_n (by omega), zup_n (by omega)]; exact h2, fun g c q1 q2 q3 q4 => ?_, fun g m q1 q2 q3 q4 => by omega, fun k q1 q2 => by omega⟩
  · unfold inV at q
    rw [zup_n (by omega), zup_n (by omega), zup_n (by omega)]
    exact h1 x k (by unfold inV; omega)
  · by_cases e : c = j
    · subst e
      have eg : g = 1 ∨ g = 2 ∨ g = 3 := by omega
      rcases eg with rfl | rfl | rfl
      · rw [zup_n (by omega), zup_n (by omega)]; exact zup_s _ _ _ _
      · rw [zup_n (by omega)]; exact zup_s _ _ _ _
      · exact zup_s _ _ _ _
    · rw [zup_n (by omega), zup_n (by omega), zup_n (by omega)]
      exact h3 g c q1 q2 q3 (by omega)
theorem cpd_2 {σ σ1 : zv_H} {t f j : Int} (h : cpd σ σ1 t f 7 j 0) (hj : 0 ≤ j ∧ j < 6) : cpd σ (zup (zup (zup (zup (zup σ1 319 (6 * t + j) (σ 319 (6 * f + j))) 320 (6 * t + j) (σ 320 (6 * f + j))) 321 (6 * t + j) (σ 321 (6 * f + j))) 322 (6 * t + j) (σ 322 (6 * f + j))) 323 (6 * t + j) (σ 323 (6 * f + j))) t f 7 (j + 1) 0 := by
  obtain ⟨h1, h2, h3, h4, h5⟩ := h
  refine ⟨fun x k q => ?_, by rw [zup_n (by omega), zup_n (by omega), zup_n (by omega), zup_n (by omega), zup_n (by omega)]; exact h2, fun g c q1 q2 q3 q4 => ?_, fun g m q1 q2 q3 q4 => ?_, fun k q1 q2 => by omega⟩
  · unfold inV at q
    rw [zup_n (by omega), zup_n (by omega), zup_n (by omega), zup_n (by omega), zup_n (by omega)]
    exact h1 x k (by unfold inV; omega)
  · rw [zup_n (by omega), zup_n (by omega), zup_n (by omega), zup_n (by omega), zup_n (by omega)]
    exact h3 g c q1 q2 q3 q4
  · by_cases e : m = j
    · subst e
      have eg : g = 4 ∨ g = 5 ∨ g = 6 ∨ g = 7 ∨ g = 8 := by omega
      rcases eg with rfl | rfl | rfl | rfl | rfl
      · rw [zup_n (by omega), zup_n (by omega), zup_n (by omega), zup_n (by omega)]; exact zup_s _ _ _ _
      · rw [zup_n (by omega), zup_n (by omega), zup_n (by omega)]; exact zup_s _ _ _ _
      · rw [zup_n (by omega), zup_n (by omega)]; exact zup_s _ _ _ _
      · rw [zup_n (by omega)]; exact zup_s _ _ _ _
      · exact zup_s _ _ _ _
    · rw [zup_n (by omega), zup_n (by omega), zup_n (by omega), zup_n (by omega), zup_n (by omega)]
      exact h4 g m q1 q2 q3 (by omega)
theorem cpd_3 {σ σ1 : zv_H} {t f j : Int} (h : cpd σ σ1 t f 7 6 j) (hj : 0 ≤ j ∧ j < 42) : cpd σ (zup σ1 324 (42 * t + j) (σ 324 (42 * f + j))) t f 7 6 (j + 1) := by
  obtain ⟨h1, h2, h3, h4, h5⟩ := h
  refine ⟨fun x k q => ?_, by rw [zup_n (by omega)]; exact h2, fun g c q1 q2 q3 q4 => ?_, fun g m q1 q2 q3 q4 => ?_, fun k q1 q2 => ?_⟩
  · unfold inV at q
    rw [zup_n (by omega)]
    exact h1 x k (by unfold inV; omega)
  · rw [zup_n (by omega)]; exact h3 g c q1 q2 q3 q4
  · rw [zup_n (by omega)]; exact h4 g m q1 q2 q3 q4
  · by_cases e : k = j
    · subst e; exact zup_s _ _ _ _
    · rw [zup_n (by omega)]; exact h5 k q1 (by omega)
