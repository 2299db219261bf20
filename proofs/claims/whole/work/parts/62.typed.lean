/-! FORMULAS THAT COME TO ONE VALUE: t: it is a TEST; B: how high they pile up -/
def enS (c : Int × Int) : Int := if c.1 = 0 then c.2 else if c.1 = 30 then 1 else if c.1 ≤ 7 then -c.1 else if c.1 = 43 then -8 else if c.1 = 44 then -9 else 21 - c.1
def EB (E : Int → Int) : Prop := ∀ q, -1000 ≤ E q ∧ E q ≤ 10000
def okS (s : Int) (st : List Int) : Prop := ned s ≤ st.length ∧ s ≤ 9999 ∧ -21 ≤ s ∧ (s = -9 → ∃ u t v r, st = u :: t :: v :: r ∧ (v = 0 ∨ v = 1)) ∧ ((s = -20 ∨ s = -21) → ∃ y x r, st = y :: x :: r ∧ (y = 0 ∨ y = 1) ∧ (x = 0 ∨ x = 1))
def rnL (E : Int → Int) : List Int → List Int → List Int
  | [], st => st
  | s :: cs, st => rnL E cs (evs E s st)
def okL (E : Int → Int) : List Int → List Int → Prop
  | [], st => st.length ≤ 64 ∧ gst st
  | s :: cs, st => okS s st ∧ (st.length ≤ 64 ∧ gst st) ∧ okL E cs (evs E s st)
def wl (cs : List Int) (t : Bool) (B : Nat) : Prop := ∀ E : Int → Int, EB E → ∀ st : List Int, gst st → st.length + B ≤ 64 → ∃ v, (-1000000 ≤ v ∧ v ≤ 1000000) ∧ (t = true → v = 0 ∨ v = 1) ∧ rnL E cs st = v :: st ∧ okL E cs st
theorem rnL_a (E : Int → Int) : ∀ (a b st : List Int), rnL E (a ++ b) st = rnL E b (rnL E a st)
  | [], _, _ => rfl
  | s :: a, b, st => rnL_a E a b (evs E s st)
theorem okL_a {E : Int → Int} : ∀ {a b st : List Int}, okL E a st → okL E b (rnL E a st) → okL E (a ++ b) st
  | [], _, _, _, h => h
  | _ :: _, _, _, ⟨h1, h2, h3⟩, h => ⟨h1, h2, okL_a h3 h⟩
theorem gst_k {v : Int} {st : List Int} (hv : -1000000 ≤ v ∧ v ≤ 1000000) (h : gst st) : gst (v :: st) := fun u hu => (List.mem_cons.mp hu).elim (fun e => by rw [e]; exact hv) (h u)
theorem wl_le {cs : List Int} {t : Bool} {A B : Nat} (h : wl cs t A) (hab : A ≤ B) : wl cs t B := fun E hE st hs hl => h E hE st hs (by omega)
theorem wl_f {cs : List Int} {t : Bool} {A : Nat} (h : wl cs t A) : wl cs false A := fun E hE st hs hl => by
  obtain ⟨v, h1, h2, h3⟩ := h E hE st hs hl
  exact ⟨v, h1, fun q => absurd q (by decide), h3⟩
theorem wl_1 {v : Int} {t : Bool} (hv : 0 ≤ v ∧ v ≤ 9999) (ht : t = true → v = 1) : wl [v] t 1 := fun E hE st hs hl => by
  have e : evs E v st = v :: st := if_pos hv.1
  refine ⟨v, by omega, fun q => Or.inr (ht q), e, ⟨?_, hv.2, by omega, fun q => by omega, fun q => by omega⟩, ⟨by omega, hs⟩, ?_⟩
  · unfold ned; rw [if_pos (by omega)]; omega
  · rw [e]
    exact ⟨by show st.length + 1 ≤ 64; omega, gst_k (by omega) hs⟩
theorem wl_q {s : Int} (hv : -7 ≤ s ∧ s ≤ -1) : wl [s] false 1 := fun E hE st hs hl => by
  have e : evs E s st = E s :: st := by unfold evs; rw [if_neg (by omega), if_pos hv.1]
  have hb := hE s
  refine ⟨E s, by omega, fun q => absurd q (by decide), e, ⟨?_, by omega, by omega, fun q => by omega, fun q => by omega⟩, ⟨by omega, hs⟩, ?_⟩
  · unfold ned; rw [if_pos (by omega)]; omega
  · rw [e]
    exact ⟨by show st.length + 1 ≤ 64; omega, gst_k (by omega) hs⟩
theorem wl_b {a b : List Int} {ta tb t : Bool} {A B C : Nat} {s : Int} (h1 : wl a ta A) (h2 : wl b tb B) (hs : -21 ≤ s ∧ s ≤ -10) (hC : A ≤ C ∧ B + 1 ≤ C ∧ 2 ≤ C) (ht : t = true → ∀ x y : Int, (ta = true → x = 0 ∨ x = 1) → (tb = true → y = 0 ∨ y = 1) → jn s x y = 0 ∨ jn s x y = 1) (hab : (s = -20 ∨ s = -21) → ta = true ∧ tb = true) : wl (a ++ (b ++ [s])) t C := fun E hE st hg hl => by
  obtain ⟨x, x1, x2, x3, x4⟩ := h1 E hE st hg (by omega)
  have hgx := gst_k x1 hg
  obtain ⟨y, y1, y2, y3, y4⟩ := h2 E hE (x :: st) hgx (by show st.length + 1 + B ≤ 64; omega)
  have hgy := gst_k y1 hgx
  have e : evs E s (y :: x :: st) = max (-1000000) (min 1000000 (jn s x y)) :: st := by unfold evs; rw [if_neg (by omega), if_neg (by omega), if_neg (by omega), if_neg (by omega)]
  have hb : -1000000 ≤ max (-1000000) (min 1000000 (jn s x y)) ∧ max (-1000000) (min 1000000 (jn s x y)) ≤ 1000000 := by omega
  have hok : okL E (b ++ [s]) (x :: st) := okL_a y4 (by
    rw [y3]
    refine ⟨⟨?_, by omega, by omega, fun q => by omega, fun q => ⟨y, x, st, rfl, y2 (hab q).2, x2 (hab q).1⟩⟩, ?_, ?_⟩
    · unfold ned; rw [if_neg (by omega), if_neg (by omega), if_neg (by omega)]; show 2 ≤ st.length + 1 + 1; omega
    · exact ⟨by show st.length + 1 + 1 ≤ 64; omega, hgy⟩
    · rw [e]; exact ⟨by show st.length + 1 ≤ 64; omega, gst_k hb hg⟩)
  refine ⟨max (-1000000) (min 1000000 (jn s x y)), hb, fun q => ?_, ?_, okL_a x4 (by rw [x3]; exact hok)⟩
  · have := ht q x y x2 y2
    omega
  · rw [rnL_a, x3, rnL_a, y3]; exact e
theorem wl_n {a : List Int} {A : Nat} (hA : 1 ≤ A) (h1 : wl a true A) : wl (a ++ [-8]) true A := fun E hE st hg hl => by
  obtain ⟨x, x1, x2, x3, x4⟩ := h1 E hE st hg hl
  have e : evs E (-8) (x :: st) = (1 - x) :: st := rfl
  have hx := x2 rfl
  refine ⟨1 - x, by omega, fun _ => by omega, ?_, okL_a x4 (by
    rw [x3]
    refine ⟨⟨?_, by omega, by omega, fun q => by omega, fun q => by omega⟩, ⟨by show st.length + 1 ≤ 64; omega, gst_k x1 hg⟩, ?_⟩
    · show (if (-7 : Int) ≤ -8 then 0 else if (-8 : Int) = -8 then 1 else if (-8 : Int) = -9 then 3 else 2) ≤ st.length + 1
      rw [if_neg (by omega), if_pos rfl]; omega
    · rw [e]; exact ⟨by show st.length + 1 ≤ 64; omega, gst_k (by omega) hg⟩)⟩
  rw [rnL_a, x3]; exact e
theorem wl_i {a b c : List Int} {A B C D : Nat} (h1 : wl a true A) (h2 : wl b false B) (h3 : wl c false C) (hD : A ≤ D ∧ B + 1 ≤ D ∧ C + 2 ≤ D ∧ 3 ≤ D) : wl (a ++ (b ++ (c ++ [-9]))) false D := fun E hE st hg hl => by
  obtain ⟨x, x1, x2, x3, x4⟩ := h1 E hE st hg (by omega)
  have hgx := gst_k x1 hg
  obtain ⟨y, y1, y2, y3, y4⟩ := h2 E hE (x :: st) hgx (by show st.length + 1 + B ≤ 64; omega)
  have hgy := gst_k y1 hgx
  obtain ⟨z, z1, z2, z3, z4⟩ := h3 E hE (y :: x :: st) hgy (by show st.length + 1 + 1 + C ≤ 64; omega)
  have hgz := gst_k z1 hgy
  have e : evs E (-9) (z :: y :: x :: st) = (if x ≠ 0 then y else z) :: st := rfl
  have hr : -1000000 ≤ (if x ≠ 0 then y else z) ∧ (if x ≠ 0 then y else z) ≤ 1000000 := by split <;> assumption
  refine ⟨if x ≠ 0 then y else z, hr, fun q => absurd q (by decide), ?_, okL_a x4 (by
    rw [x3]
    refine okL_a y4 ?_
    rw [y3]
    refine okL_a z4 ?_
    rw [z3]
    refine ⟨⟨?_, by omega, by omega, fun _ => ⟨z, y, x, st, rfl, x2 rfl⟩, fun q => by omega⟩, ⟨by show st.length + 1 + 1 + 1 ≤ 64; omega, hgz⟩, ?_⟩
    · show (if (-7 : Int) ≤ -9 then 0 else if (-9 : Int) = -8 then 1 else if (-9 : Int) = -9 then 3 else 2) ≤ st.length + 1 + 1 + 1
      rw [if_neg (by omega), if_neg (by omega), if_pos rfl]; omega
    · rw [e]; exact ⟨by show st.length + 1 ≤ 64; omega, gst_k hr hg⟩)⟩
  rw [rnL_a, x3, rnL_a, y3, rnL_a, z3]; exact e
theorem jn_c {s x y : Int} (h : s = -17 ∨ s = -18 ∨ s = -19) : jn s x y = 0 ∨ jn s x y = 1 := by
  unfold jn
  rcases h with rfl | rfl | rfl <;> simp <;> omega
theorem jn_l {s x y : Int} (h : s = -20 ∨ s = -21) (hx : x = 0 ∨ x = 1) (hy : y = 0 ∨ y = 1) : jn s x y = 0 ∨ jn s x y = 1 := by
  rcases h with rfl | rfl <;> rcases hx with rfl | rfl <;> rcases hy with rfl | rfl <;> decide
def Bp (o : Int) : Nat := 1 + 5 * (7 - o).toNat
