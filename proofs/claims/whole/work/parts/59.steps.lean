/-! WHAT A PIECE OF A FORMULA DOES TO THE MACHINE, whatever stands around it -/
abbrev ctB (T : Int → Int) (p kd : Int) (bg : Bool) : Prop := (isT kd ∧ bg = true) → ¬ isOw T p 20 ∧ ¬ isSg T p 91 ∧ ¬ isOw T p 21
def PrtOk (T : Int → Int) (lk : Bool) (o p p' : Int) (cs : List (Int × Int)) : Prop := ∀ (kd ph : Int) (bg : Bool) (pr : Int) (ops : List Int) (R : List zFr) (out : List (Int × Int)), ctB T p kd bg → rc T lk (p, (kd, ph, bg, pr, ops) :: R, out, o, false) (p', (kd, ph, false, pr, ops) :: R, cs.reverse ++ out, o, true)
def PrtBd (T : Int → Int) (lk : Bool) (o p k pl : Int) : Prop := ∀ (kd ph : Int) (bg : Bool) (pr : Int) (ops : List Int) (R : List zFr) (out : List (Int × Int)), ctB T p kd bg → rbad T lk (p, (kd, ph, bg, pr, ops) :: R, out, o, false) k pl
def AccOk (r : Int) (T : Int → Int) (lk : Bool) (o p p' : Int) (cs : List (Int × Int)) : Prop := ∀ (kd ph : Int) (bg : Bool) (pr : Int) (ops : List Int) (R : List zFr) (out : List (Int × Int)), ctB T p kd bg → hdl r ops → ph < 2 → ∃ (x : List Int) (out' : List (Int × Int)), rgt r x ∧ fls x out' = cs.reverse ++ out ∧ rc T lk (p, (kd, ph, bg, pr, ops) :: R, out, o, false) (p', (kd, ph, false, pr, x ++ ops) :: R, out', o, true)
def AccBd (r : Int) (T : Int → Int) (lk : Bool) (o p k pl : Int) : Prop := ∀ (kd ph : Int) (bg : Bool) (pr : Int) (ops : List Int) (R : List zFr) (out : List (Int × Int)), ctB T p kd bg → hdl r ops → ph < 2 → rbad T lk (p, (kd, ph, bg, pr, ops) :: R, out, o, false) k pl
def CmpOk (T : Int → Int) (lk : Bool) (o p p' : Int) (cs : List (Int × Int)) : Prop := ∀ (kd : Int) (bg : Bool) (pr : Int) (ops : List Int) (R : List zFr) (out : List (Int × Int)), isT kd → ctB T p kd bg → hdl 4 ops → ∃ (x : List Int) (out' : List (Int × Int)), rgt 4 x ∧ fls x out' = cs.reverse ++ out ∧ rc T lk (p, (kd, 0, bg, pr, ops) :: R, out, o, false) (p', (kd, 1, false, pr, x ++ ops) :: R, out', o, true)
def CmpBd (T : Int → Int) (lk : Bool) (o p k pl : Int) : Prop := ∀ (kd : Int) (bg : Bool) (pr : Int) (ops : List Int) (R : List zFr) (out : List (Int × Int)), isT kd → ctB T p kd bg → hdl 4 ops → rbad T lk (p, (kd, 0, bg, pr, ops) :: R, out, o, false) k pl
def BtOk (h r : Int) (T : Int → Int) (lk : Bool) (o p p' : Int) (cs : List (Int × Int)) : Prop := ∀ (kd pr : Int) (ops : List Int) (R : List zFr) (out : List (Int × Int)), isT kd → hdl h ops → ∃ (ph : Int) (x : List Int) (out' : List (Int × Int)), (ph = 2 ∨ (ph = 1 ∧ ¬ isA T p')) ∧ rgt r x ∧ fls x out' = cs.reverse ++ out ∧ rc T lk (p, (kd, 0, true, pr, ops) :: R, out, o, false) (p', (kd, ph, false, pr, x ++ ops) :: R, out', o + nNot x, true)
def BtBd (h : Int) (T : Int → Int) (lk : Bool) (o p k pl : Int) : Prop := ∀ (kd pr : Int) (ops : List Int) (R : List zFr) (out : List (Int × Int)), isT kd → hdl h ops → rbad T lk (p, (kd, 0, true, pr, ops) :: R, out, o, false) k pl
theorem s_opr {T : Int → Int} {lk : Bool} {p kd ph : Int} {bg : Bool} {pr : Int} {ops : List Int} {R : List zFr} {out : List (Int × Int)} {o : Int} : stpF T lk (p, (kd, ph, bg, pr, ops) :: R, out, o, false) = oprF T lk p kd ph bg pr ops R out o := rfl
theorem s_gon {T : Int → Int} {lk : Bool} {p kd ph : Int} {bg : Bool} {pr : Int} {ops : List Int} {R : List zFr} {out : List (Int × Int)} {o : Int} : stpF T lk (p, (kd, ph, bg, pr, ops) :: R, out, o, true) = gonS T p kd ph bg pr ops R out o := rfl
theorem ct_f (T : Int → Int) (p kd : Int) : ctB T p kd false := fun h => absurd h.2 (by decide)
theorem ct_n {T : Int → Int} {p kd : Int} {bg : Bool} (h : ¬ isT kd) : ctB T p kd bg := fun q => absurd q.1 h
theorem tPQ {T : Int → Int} {p : Int} (h : tK T p ≠ 4) : tP T p = tQ T p := tP_q (fun q => h q.1)
section MC
variable {T : Int → Int} {lk : Bool} {p kd ph : Int} {bg : Bool} {pr : Int} {ops : List Int} {R : List zFr} {out : List (Int × Int)} {o : Int}
/-- what is held back since is written, then the sign is held back -/
theorem g_ar {x : List Int} {c : Int} (h : isSg T p c) (hc : c = 43 ∨ c = 45 ∨ c = 42 ∨ c = 47 ∨ c = 37) (hph : ph < 2) (hx : rgt (if c = 43 ∨ c = 45 then 5 else 6) x) (ho : hdl (if c = 43 ∨ c = 45 then 5 else 6) ops) : stpF T lk (p, (kd, ph, bg, pr, x ++ ops) :: R, out, o, true) = Sum.inl (tN T p, (kd, ph, bg, pr, arO c :: ops) :: R, fls x out, o, false) := by
  have h1 := h.1
  have h2 := h.2
  have e : nNot x = 0 := nNot_0 (rgt_le hx (by split <;> omega))
  rw [s_gon]
  unfold gonS
  rw [if_neg (by omega), if_pos ⟨hph, h1, by omega⟩, h2, mjo_x hx ho, e, Int.sub_zero]
theorem g_cm {x : List Int} {c : Int} (h : isSg T p c) (hc : c = 60 ∨ c = 62 ∨ c = 61) (hT : isT kd) (hx : rgt 5 x) (ho : hdl 5 ops) : stpF T lk (p, (kd, 0, bg, pr, x ++ ops) :: R, out, o, true) = Sum.inl (tN T p, (kd, 1, bg, pr, cmO c :: ops) :: R, fls x out, o, false) := by
  have h1 := h.1
  have h2 := h.2
  have e : nNot x = 0 := nNot_0 (rgt_le hx (by omega))
  rw [s_gon]
  unfold gonS
  rw [if_neg (by omega), if_neg (by omega), if_pos ⟨hT, rfl, h1, by omega⟩, h2, mjo_x hx ho, e, Int.sub_zero]
theorem g_an {x : List Int} {r : Int} (h : (isOw T p 19 ∧ r = 2) ∨ (isOw T p 18 ∧ r = 1)) (hT : isT kd) (hph : ph ≠ 0) (hx : rgt r x) (ho : hdl r ops) : stpF T lk (p, (kd, ph, bg, pr, x ++ ops) :: R, out, o + nNot x, true) = Sum.inl (tN T p, (kd, 0, true, pr, (43 - r) :: ops) :: R, fls x out, o, false) := by
  rw [s_gon]
  unfold gonS
  rcases h with ⟨h, rfl⟩ | ⟨h, rfl⟩
  · have h1 := h.1
    rw [if_neg (by omega), if_neg (by omega), if_neg (by omega), if_pos ⟨hT, Or.inl h⟩, if_neg hph, if_pos h, if_pos h, mjo_x hx ho]
    rw [show o + nNot x - nNot x = o by omega]
    rfl
  · have h1 := h.1
    have h2 := h.2
    have hn : ¬ isOw T p 19 := fun q => by have := q.2; omega
    rw [if_neg (by omega), if_neg (by omega), if_neg (by omega), if_pos ⟨hT, Or.inr h⟩, if_neg hph, if_neg hn, if_neg hn, mjo_x hx ho]
    rw [show o + nNot x - nNot x = o by omega]
    rfl
/-- a token with which nothing goes on -/
theorem g_bad (hk : tK T p = 4 ∨ (¬ (ph < 2 ∧ isA T p) ∧ ¬ (isT kd ∧ (isOw T p 19 ∨ isOw T p 18) ∧ ph ≠ 0) ∧ ((isT kd ∧ ph = 0 ∧ ¬ isC T p) ∨ (¬ (isT kd ∧ ph = 0) ∧ ¬ kd < 2 ∧ ((kd = 3 ∨ kd = 6) → ¬ isSg T p 44) ∧ (¬ (kd = 3 ∨ kd = 6) → ¬ isSg T p (if kd = 5 then 93 else 41)))))) : stpF T lk (p, (kd, ph, bg, pr, ops) :: R, out, o, true) = zft 1 (tP T p) := by
  rw [s_gon]
  unfold gonS
  by_cases h4 : tK T p = 4
  · rw [if_pos h4]
  · rw [tPQ h4, if_neg h4]
    rcases hk with hk | ⟨h1, h2, h3⟩
    · exact absurd hk h4
    · rw [if_neg h1]
      rcases h3 with ⟨h3, h5, h6⟩ | ⟨h3, h5, h6, h7⟩
      · rw [if_neg (fun q => h6 q.2.2)]
        by_cases h8 : isT kd ∧ (isOw T p 19 ∨ isOw T p 18)
        · rw [if_pos h8, if_pos h5]
        · rw [if_neg h8, if_pos ⟨h3, h5⟩]
      · rw [if_neg (fun q => h3 ⟨q.1, q.2.1⟩)]
        by_cases h8 : isT kd ∧ (isOw T p 19 ∨ isOw T p 18)
        · rw [if_pos h8, if_pos (Classical.byContradiction (fun q => h2 ⟨h8.1, h8.2, q⟩))]
        · rw [if_neg h8, if_neg h3, if_neg h5]
          by_cases h9 : kd = 3 ∨ kd = 6
          · rw [if_pos h9, if_pos (h6 h9)]
          · rw [if_neg h9, if_pos (h7 h9)]
/-- a frame is closed -/
theorem g_cl {x : List Int} (h : isSg T p (if kd = 5 then 93 else 41)) (hk : kd = 2 ∨ kd = 4 ∨ kd = 5) (hph : kd = 5 → ph ≠ 0) : stpF T lk (p, (kd, ph, bg, pr, x) :: R, out, o + nNot x, true) = Sum.inl (tN T p, clos kd R, (if kd = 4 then (pr, 0) :: fls x out else fls x out), o - 1, true) := by
  have h1 := h.1
  have h2 := h.2
  have hx : mjo 1 x out (o + nNot x) = ([], fls x out, o) := by
    have e := mjo_x (l := 1) (out := out) (o := o + nNot x) (rgt_1 x) (hdl_nil 1)
    rw [List.append_nil, show o + nNot x - nNot x = o by omega] at e
    exact e
  rw [s_gon]
  unfold gonS
  rw [if_neg (by omega), if_neg (fun q => by
    have q1 := q.2.2
    rw [h2] at q1
    split at q1 <;> omega), if_neg (fun q => by
    have q1 := q.2.2.2
    rw [h2] at q1
    split at q1 <;> omega), if_neg (by omega), if_neg (fun q => by rcases hk with e | e | e <;> first | (have := q.1; omega) | exact hph e q.2), if_neg (by omega), if_neg (by omega), if_neg (fun q => q h), hx]
/-- the next piece within a frame -/
theorem g_co {x : List Int} (h : isSg T p 44) (hk : kd = 3 ∨ kd = 6) (hph : kd = 6 → ph ≠ 0) : stpF T lk (p, (kd, ph, bg, pr, x) :: R, out, o + nNot x, true) = Sum.inl (tN T p, (if kd = 3 then 4 else 3, 0, bg, pr, []) :: R, fls x out, o, false) := by
  have h1 := h.1
  have h2 := h.2
  have hx : mjo 1 x out (o + nNot x) = ([], fls x out, o) := by
    have e := mjo_x (l := 1) (out := out) (o := o + nNot x) (rgt_1 x) (hdl_nil 1)
    rw [List.append_nil, show o + nNot x - nNot x = o by omega] at e
    exact e
  rw [s_gon]
  unfold gonS
  rw [if_neg (by omega), if_neg (by omega), if_neg (by omega), if_neg (by omega), if_neg (fun q => by rcases hk with e | e <;> first | (have := q.1; omega) | exact hph e q.2), if_neg (by omega), if_pos hk, if_neg (fun q => q h), hx]
end MC
