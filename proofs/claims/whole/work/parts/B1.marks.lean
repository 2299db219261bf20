/-! marks, staffed: the model's -/
theorem nI_toIntI {x : Int} (h : -2147483648 ≤ x ∧ x ≤ 2147483647) : (Int32.ofInt x).toInt = x := by
  show (BitVec.ofInt 32 x).toInt = x
  rw [BitVec.toInt_ofInt, w32_b, w32_id h.1 h.2]
theorem i32_toInt_inj {a b : Int32} (h : a.toInt = b.toInt) : a = b := Int32.toInt_inj.mp h
theorem zand_x {x y s : Int} : zand x s = zand y s ↔ zand (zxor x y) s = 0 := by
  unfold zand zxor
  rw [Int32.ofInt_toInt]
  generalize Int32.ofInt x = a
  generalize Int32.ofInt y = c
  generalize Int32.ofInt s = d
  have e : (a ^^^ c) &&& d = (a &&& d) ^^^ (c &&& d) := by
    apply Int32.toBitVec_inj.mp
    simp only [Int32.toBitVec_and, Int32.toBitVec_xor]
    ext i
    simp only [BitVec.getElem_and, BitVec.getElem_xor]
    cases a.toBitVec[i] <;> cases c.toBitVec[i] <;> cases d.toBitVec[i] <;> rfl
  rw [e]
  constructor
  · intro h
    rw [i32_toInt_inj h]
    have e2_q : (c &&& d) ^^^ (c &&& d) = 0 := by
      apply Int32.toBitVec_inj.mp
      simp
    rw [e2_q]
    rfl
  · intro h
    have h2_q : (a &&& d) ^^^ (c &&& d) = 0 := i32_toInt_inj (by rw [h]; rfl)
    have h3_q : (a &&& d) = (c &&& d) := by
      apply Int32.toBitVec_inj.mp
      have h4_q := congrArg Int32.toBitVec h2_q
      rw [Int32.toBitVec_xor] at h4_q
      exact BitVec.xor_eq_zero_iff.mp h4_q
    rw [h3_q]
theorem zxor_0 {x y : Int} (hx : 0 ≤ x ∧ x ≤ 63) (hy : 0 ≤ y ∧ y ≤ 63) : zxor x y = 0 ↔ x = y := by
  have ex : (Int32.ofInt x).toInt = x := nI_toIntI (by omega)
  have ey : (Int32.ofInt y).toInt = y := nI_toIntI (by omega)
  unfold zxor
  constructor
  · intro h
    have h2_q : (Int32.ofInt x) ^^^ (Int32.ofInt y) = 0 := i32_toInt_inj (by rw [h]; rfl)
    have h3_q : Int32.ofInt x = Int32.ofInt y := by
      apply Int32.toBitVec_inj.mp
      have h4_q := congrArg Int32.toBitVec h2_q
      rw [Int32.toBitVec_xor] at h4_q
      exact BitVec.xor_eq_zero_iff.mp h4_q
    rw [← ex, ← ey, h3_q]
  · intro h
    rw [h]
    have e2_q : (Int32.ofInt y) ^^^ (Int32.ofInt y) = 0 := by
      apply Int32.toBitVec_inj.mp
      simp
    rw [e2_q]
    rfl
/-- two MEN are parted by the marks k -/
def pt2 (Wm : zv_H) (k i j : Int) : Prop := Wm 7 i = Wm 7 j ∨ zand (Wm 7 i) k ≠ zand (Wm 7 j) k
theorem pt2_iff {Wm : zv_H} {k i j : Int} (hi : 0 ≤ Wm 7 i ∧ Wm 7 i ≤ 63) (hj : 0 ≤ Wm 7 j ∧ Wm 7 j ≤ 63) : pt2 Wm k i j ↔ (zxor (Wm 7 i) (Wm 7 j) = 0 ∨ zand (zxor (Wm 7 i) (Wm 7 j)) k ≠ 0) := by
  unfold pt2
  rw [zxor_0 hi hj, Ne, Ne, zand_x]
theorem pt2_sym {Wm : zv_H} {k i j : Int} (h : pt2 Wm k i j) : pt2 Wm k j i := by
  rcases h with h | h
  · exact Or.inl h.symm
  · exact Or.inr (Ne.symm h)
theorem prt_pt2 {Wm : zv_H} {k : Int} (hW : WI Wm) : prtP Wm k ↔ ∀ i j : Int, 0 ≤ j → j < i → i < Wm 0 3 → pt2 Wm k i j := by
  have w7_q := hW.2.2.2.2.2.2.1
  constructor
  · intro h i j h1_q h2_q h3_q
    exact pt2_sym ((pt2_iff (w7_q j h1_q (by omega)).2.2 (w7_q i (by omega) h3_q).2.2).mpr (h j i h1_q h2_q h3_q))
  · intro h i j h1_q h2_q h3_q
    exact (pt2_iff (w7_q i h1_q (by omega)).2.2 (w7_q j (by omega) h3_q).2.2).mp (pt2_sym (h j i h1_q h2_q h3_q))
theorem prt_63 {Wm : zv_H} (hW : WI Wm) : prtP Wm 63 := by
  rw [prt_pt2 hW]
  intro i j h1_q h2_q h3_q
  have w7_q := hW.2.2.2.2.2.2.1
  have a := (w7_q i (by omega) h3_q).2.2
  have c := (w7_q j h1_q (by omega)).2.2
  unfold pt2
  by_cases e : Wm 7 i = Wm 7 j
  · exact Or.inl e
  · refine Or.inr ?_
    rw [zand_m 6 (by decide) (by decide) (by omega), zand_m 6 (by decide) (by decide) (by omega)]
    omega
