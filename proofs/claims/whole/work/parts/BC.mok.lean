/-- the letters of man m as an image tells them, j COUNTIES -/
def duM (T : Int → Int) (m p wk : Int) (σ : zv_H) (j : Int) : zv_H := fun x k => if x = 324 ∧ 42 + 7 * m ≤ k ∧ k < 42 + 7 * m + j then (if T (p + 6 + (k - (42 + 7 * m))) = 0 then -1 else wk + T (p + 6 + (k - (42 + 7 * m))) - 1) else σ x k
theorem duM_0 (T : Int → Int) (m p wk : Int) (σ : zv_H) : duM T m p wk σ ((0 : Nat) : Int) = σ := by
  funext x k
  unfold duM
  rw [if_neg (by omega)]
theorem duM_n {T : Int → Int} {m p wk : Int} {σ : zv_H} {j x : Int} (h : x ≠ 324) (k : Int) : duM T m p wk σ j x k = σ x k := if_neg (fun q => h q.1)
theorem duM_s {T : Int → Int} {m p wk v : Int} {σ : zv_H} {j : Int} (h : 0 ≤ j) (hv : v = if T (p + 6 + j) = 0 then -1 else wk + T (p + 6 + j) - 1) : zup (duM T m p wk σ j) 324 (42 + 7 * m + j) v = duM T m p wk σ (j + 1) := by
  funext x k
  unfold duM zup
  dsimp only
  by_cases e : x = 324 ∧ k = 42 + 7 * m + j
  · rw [if_pos e, if_pos (by omega), hv, e.2, show 42 + 7 * m + j - (42 + 7 * m) = j by omega]
  · rw [if_neg e]
    by_cases e2_q : x = 324 ∧ 42 + 7 * m ≤ k ∧ k < 42 + 7 * m + j
    · rw [if_pos e2_q, if_pos (c := x = 324 ∧ 42 + 7 * m ≤ k ∧ k < 42 + 7 * m + (j + 1)) (by omega)]
    · rw [if_neg e2_q, if_neg (by omega)]
def mOK (T : Int → Int) (nc p : Int) : Prop := T p < nc ∧ T (p + 1) ≤ 4 ∧ ((T (p + 1) = 1 ∧ 1 ≤ T (p + 2) ∧ T (p + 2) ≤ 99) ∨ (T (p + 1) ≠ 1 ∧ T (p + 2) = 0)) ∧ T (p + 3) ≤ 99 ∧ 256 * T (p + 4) + T (p + 5) ≤ 9999
theorem mOK_P {T : Int → Int} {nc p : Int} (h : ∀ i, 0 ≤ i → i < 6 → 0 ≤ T (p + i) ∧ T (p + i) ≤ 255) : mOK T nc p ↔ okP T nc p := by
  have h0_q := h 0 (by omega) (by omega)
  rw [Int.add_zero] at h0_q
  have h1_q := h 1 (by omega) (by omega)
  have h2_q := h 2 (by omega) (by omega)
  have h3_q := h 3 (by omega) (by omega)
  have h4_q := h 4 (by omega) (by omega)
  have h5_q := h 5 (by omega) (by omega)
  unfold mOK okP lfm jv
  generalize T p = t0_q at *
  generalize T (p + 1) = t1_q at *
  generalize T (p + 2) = t2_q at *
  generalize T (p + 3) = t3_q at *
  generalize T (p + 4) = t4_q at *
  generalize T (p + 5) = t5_q at *
  constructor
  · rintro ⟨q1_q, q2_q, q3_q, q4_q, q5_q⟩
    refine ⟨by omega, by omega, ?_, ?_, by omega, by omega⟩
    · (repeat' split) <;> omega
    · (repeat' split) <;> omega
  · rintro ⟨q1_q, q2_q, q3_q, q4_q, q5_q, q6_q⟩
    refine ⟨by omega, by omega, ?_, by omega, by omega⟩
    by_cases e : t1_q = 1
    · refine Or.inl ⟨e, ?_⟩
      rw [if_pos (c := 0 ≤ t1_q ∧ t1_q ≤ 4) (by omega), if_pos e] at q3_q q4_q
      rw [if_pos (by omega)] at q4_q
      omega
    · refine Or.inr ⟨e, ?_⟩
      rw [if_pos (c := 0 ≤ t1_q ∧ t1_q ≤ 4) (by omega), if_neg e] at q3_q
      omega
