/-! bits -/
theorem mk_or : ∀ j : Fin 7, ∀ x : Fin 128, ∃ y : Fin 128, zor ((x.val : Nat) : Int) (zshl 1 ((j.val : Nat) : Int)) = ((y.val : Nat) : Int) ∧ ∀ k : Fin 7, (zshr ((y.val : Nat) : Int) ((k.val : Nat) : Int) % 2 = 1 ↔ zshr ((x.val : Nat) : Int) ((k.val : Nat) : Int) % 2 = 1 ∨ k = j) := by decide +kernel
theorem mk_z : ∀ x : Fin 128, zor ((x.val : Nat) : Int) 0 = ((x.val : Nat) : Int) := by decide +kernel
theorem mk_1 : ∀ j : Fin 7, ∃ y : Fin 128, zshl 1 ((j.val : Nat) : Int) = ((y.val : Nat) : Int) ∧ ∀ k : Fin 7, (zshr ((y.val : Nat) : Int) ((k.val : Nat) : Int) % 2 = 1 ↔ k = j) := by decide +kernel
theorem mk_0 : ∀ k : Fin 7, zshr 0 ((k.val : Nat) : Int) = 0 := by decide +kernel
theorem zshr_0 {k : Int} (h : 0 ≤ k ∧ k < 7) : zshr 0 k = 0 := by
  have r := mk_0 ⟨k.toNat, by omega⟩
  dsimp only at r
  rwa [show ((k.toNat : Nat) : Int) = k by omega] at r
/-- the bits of B are those of the COUNTIES below j that P says, and that of a -/
def bM (B : Int) (P : Int → Prop) : Prop := (0 ≤ B ∧ B < 128) ∧ ∀ k, 0 ≤ k → k < 7 → (zshr B k % 2 = 1 ↔ P k)
theorem bM_1 {a : Int} (h : 0 ≤ a ∧ a < 7) : bM (zshl 1 a) (fun k => k = a) := by
  obtain ⟨y, r, q⟩ := mk_1 ⟨a.toNat, by omega⟩
  dsimp only at r
  rw [show ((a.toNat : Nat) : Int) = a by omega] at r
  rw [r]
  refine ⟨⟨by omega, by have := y.isLt; omega⟩, fun k k1_q k2_q => ?_⟩
  have u := q ⟨k.toNat, by omega⟩
  dsimp only at u
  rw [show ((k.toNat : Nat) : Int) = k by omega] at u
  rw [u, Fin.mk.injEq]
  omega
theorem bM_j {B j : Int} {P : Int → Prop} (h : bM B P) (hj : 0 ≤ j ∧ j < 7) : bM (zor B (zshl 1 j)) (fun k => P k ∨ k = j) := by
  obtain ⟨y, r, q⟩ := mk_or ⟨j.toNat, by omega⟩ ⟨B.toNat, by have := h.1; omega⟩
  dsimp only at r q
  have b := h.1
  rw [show ((j.toNat : Nat) : Int) = j by omega, show ((B.toNat : Nat) : Int) = B by omega] at r
  rw [r]
  refine ⟨⟨by omega, by have := y.isLt; omega⟩, fun k k1_q k2_q => ?_⟩
  have u := q ⟨k.toNat, by omega⟩
  dsimp only at u
  rw [show ((k.toNat : Nat) : Int) = k by omega, show ((B.toNat : Nat) : Int) = B by omega] at u
  rw [u, Fin.mk.injEq, h.2 k k1_q k2_q]
  constructor
  · rintro (a | a)
    · exact Or.inl a
    · exact Or.inr (by omega)
  · rintro (a | a)
    · exact Or.inl a
    · exact Or.inr (by omega)
theorem bM_0 {B : Int} {P : Int → Prop} (h : bM B P) : zor B 0 = B := by
  have r := mk_z ⟨B.toNat, by have := h.1; omega⟩
  dsimp only at r
  have b := h.1
  rwa [show ((B.toNat : Nat) : Int) = B by omega] at r
theorem bM_i {B : Int} {P Q : Int → Prop} (h : bM B P) (e : ∀ k, 0 ≤ k → k < 7 → (P k ↔ Q k)) : bM B Q := ⟨h.1, fun k a b => (h.2 k a b).trans (e k a b)⟩
theorem hb_0 {A : zv_H} : ∀ k, 0 ≤ k → k < 7 → (zshr 0 k % 2 = 1 ↔ (-1 : Int) ≠ -1 ∧ (k = -1 ∨ A 12 (-1 * 7 + k) ≠ 0)) := fun k a b => by
  rw [zshr_0 ⟨a, b⟩]
  constructor
  · intro q; exact absurd q (by decide)
  · intro q; exact absurd rfl q.1
theorem ralF_r {T : Int → Int} {A : zv_H} {p z : Int} (h : ∀ q, tkCty T A (-1) p = Sum.inl q → z = q.1) : bnd (bnd (bnd (bnd (bnd (Sum.inl p) (fun p => bnd (tkCty T A (-1) p) (fun q => Sum.inl q.2))) (fun p => tkWord T 5 p)) (fun p => bnd (tkCty T A z p) (fun q => Sum.inl q.2))) (fun p => tkWord T 6 p)) (fun p => bnd (tkNum T 1 9 p) (fun q => Sum.inl q.2)) = bnd (ralF T A p) (fun x => Sum.inl x.1) := by
  rcases hx : tkCty T A (-1) p with q | e
  · rw [h q hx]
    simp only [ralF, bnd_l, bnd_a, hx]
  · simp only [ralF, bnd_l, bnd_r, hx]
/-- one more RAIL -/
theorem rdR_ral {s : zSpan} {σ : zv_H} {T : Int → Int} {n i f t v : Int} {A : zv_H} {r : zX Int} (h : rdR s σ T n i A r) (hs : ∀ x k, inW i x k → s.2 x k) (hi1_q : i = 0 ∨ i = 1) (hf : 0 ≤ f ∧ f < 7) (ht : 0 ≤ t ∧ t < 7) : rdR s (zup (zup (zup σ 296 (49 * i + 7 * f + t) v) 296 (49 * i + 7 * t + f) v) 295 i (A 0 2 + 1)) T n i (zup (zup (zup A 12 (f * 7 + t) v) 12 (t * 7 + f) v) 0 2 (A 0 2 + 1)) r := by
  obtain ⟨g, u, b, ⟨⟨w1_q, w2_q, w3_q, w4_q⟩, w5_q, w6_q, w7_q⟩, k⟩ := h
  generalize hA' : zup (zup (zup A 12 (f * 7 + t) v) 12 (t * 7 + f) v) 0 2 (A 0 2 + 1) = A'
  have r0_q : ∀ k, k ≠ 2 → A' 0 k = A 0 k := fun k hk => by rw [← hA', zup_n (by omega), zup_n (by omega), zup_n (by omega)]
  have r01_q : A' 0 2 = A 0 2 + 1 := by rw [← hA', zup_s]
  have rx : ∀ x k, (1 ≤ x ∧ x ≠ 12) → A' x k = A x k := fun x k hk => by rw [← hA', zup_n (by omega), zup_n (by omega), zup_n (by omega)]
  have e : ∀ x k, x ≠ 296 → x ≠ 295 → zup (zup (zup σ 296 (49 * i + 7 * f + t) v) 296 (49 * i + 7 * t + f) v) 295 i (A 0 2 + 1) x k = σ x k := fun x k a b => by rw [zup_n (by omega), zup_n (by omega), zup_n (by omega)]
  refine ⟨fun x j q1_q q2_q => ?_, ⟨by rw [e _ _ (by omega) (by omega)]; exact u.1, u.2.1, fun j q1_q q2_q => by rw [e _ _ (by omega) (by omega)]; exact u.2.2 j q1_q q2_q⟩, by rw [e _ _ (by omega) (by omega)]; exact b, ⟨⟨by rw [e _ _ (by omega) (by omega), r0_q 1 (by omega)]; exact w1_q, by rw [zup_s, r01_q], by rw [e _ _ (by omega) (by omega), r0_q 3 (by omega)]; exact w3_q, by rw [e _ _ (by omega) (by omega), r0_q 4 (by omega)]; exact w4_q⟩, fun c q1_q q2_q => ?_, fun m q1_q q2_q => ?_, fun j q1_q q2_q => ?_⟩, stR'_x k (fun j q => e _ _ (by omega) (by omega))⟩
  · have a1_q : ¬ (x = 295 ∧ j = i) := fun q => q1_q (hs x j (Or.inl ⟨by omega, q.2⟩))
    have a2_q : ¬ (x = 296 ∧ j = 49 * i + 7 * t + f) := fun q => q1_q (hs x j (Or.inr (Or.inr (Or.inr ⟨q.1, by omega, by omega⟩))))
    have a3_q : ¬ (x = 296 ∧ j = 49 * i + 7 * f + t) := fun q => q1_q (hs x j (Or.inr (Or.inr (Or.inr ⟨q.1, by omega, by omega⟩))))
    rw [zup_n a1_q, zup_n a2_q, zup_n a3_q]; exact g x j q1_q q2_q
  · rw [r0_q 1 (by omega)] at q2_q
    rw [e _ _ (by omega) (by omega), e _ _ (by omega) (by omega), e _ _ (by omega) (by omega), e _ _ (by omega) (by omega), rx 1 c (by omega), rx 2 c (by omega), rx 3 c (by omega), rx 4 c (by omega)]; exact w5_q c q1_q q2_q
  · rw [r0_q 3 (by omega)] at q2_q
    rw [e _ _ (by omega) (by omega), e _ _ (by omega) (by omega), e _ _ (by omega) (by omega), rx 5 m (by omega), rx 6 m (by omega), rx 7 m (by omega)]; exact w6_q m q1_q q2_q
  · rw [zup_n (by omega), ← hA', zup_n (a := 0) (by omega)]
    by_cases e1_q : j = t * 7 + f
    · rw [e1_q, zup_s, show 49 * i + (t * 7 + f) = 49 * i + 7 * t + f by omega, zup_s]
    · rw [zup_n (a := 296) (k := 49 * i + 7 * t + f) (by omega), zup_n (a := 12) (k := t * 7 + f) (by omega)]
      by_cases e2_q : j = f * 7 + t
      · rw [e2_q, zup_s, show 49 * i + (f * 7 + t) = 49 * i + 7 * f + t by omega, zup_s]
      · rw [zup_n (by omega), zup_n (by omega)]; exact w7_q j q1_q q2_q
