/-! THE MACHINE THAT READS FORMULAS (as the model does): frames of (kind, phase, begins, pair, what is held back), what is written, latest first -/
abbrev zFr : Type := Int × Int × Bool × Int × List Int
abbrev zCf : Type := Int × List zFr × List (Int × Int) × Int × Bool
abbrev zRs : Type := zCf ⊕ (zCf ⊕ (Int × Int))
abbrev zft (k pl : Int) : zRs := Sum.inr (Sum.inr (k, pl))
def rnk (x : Int) : Int := if x = 42 then 1 else if x = 41 then 2 else if x = 43 then 3 else if x = 38 ∨ x = 39 ∨ x = 40 then 4 else if x = 31 ∨ x = 32 then 5 else 6
def mjo (l : Int) : List Int → List (Int × Int) → Int → List Int × List (Int × Int) × Int
  | [], out, o => ([], out, o)
  | x :: r, out, o => if l ≤ rnk x then mjo l r ((x, 0) :: out) (if x = 43 then o - 1 else o) else (x :: r, out, o)
abbrev isT (kd : Int) : Prop := kd = 1 ∨ kd = 5 ∨ kd = 6
noncomputable def askS (T : Int → Int) (p : Int) (lk : Bool) : Int := if tK T p = 2 then 0 else if tO T p = 3 then 1 else if tO T p = 2 then 2 else if tO T p = 13 then 3 else if tO T p = 14 then 4 else if tO T p = 15 then 5 else if tO T p = 1 ∧ lk = true then 6 else if tO T p = 16 ∧ lk = true then 7 else -1
noncomputable def askV (T : Int → Int) (p : Int) : Int := if tK T p = 2 then tNv T p else 0
noncomputable def opn (T : Int → Int) (kd pr p o : Int) (R : List zFr) (out : List (Int × Int)) : zRs := if o = 7 then zft 5 (tQ T p) else Sum.inl (tN T p, (kd, 0, true, pr, []) :: R, out, o + 1, false)
noncomputable def oprF (T : Int → Int) (lk : Bool) (p kd ph : Int) (bg : Bool) (pr : Int) (ops : List Int) (R : List zFr) (out : List (Int × Int)) (o : Int) : zRs :=
  if tK T p = 4 then zft 1 (tP T p)
  else if (isT kd ∧ bg = true) ∧ isOw T p 20 then (if o = 7 then zft 5 (tQ T p) else Sum.inl (tN T p, (kd, ph, bg, pr, 43 :: ops) :: R, out, o + 1, false))
  else if (isT kd ∧ bg = true) ∧ isSg T p 91 then opn T 5 0 p o ((kd, ph, false, pr, ops) :: R) out
  else if (isT kd ∧ bg = true) ∧ isOw T p 21 then Sum.inl (tN T p, (kd, 2, false, pr, ops) :: R, (30, 0) :: out, o, true)
  else if isSg T p 40 then opn T 2 0 p o ((kd, ph, false, pr, ops) :: R) out
  else if isOw T p 22 ∨ isOw T p 23 ∨ isOw T p 17 then
    (if tK T (tN T p) = 4 then zft 1 (tP T (tN T p)) else if ¬ isSg T (tN T p) 40 then zft 1 (tQ T (tN T p)) else opn T (if isOw T p 17 then 6 else 3) (if isOw T p 22 then 36 else if isOw T p 23 then 37 else 44) (tN T p) o ((kd, ph, false, pr, ops) :: R) out)
  else if askS T p lk = -1 then zft 1 (tQ T p)
  else Sum.inl (tN T p, (kd, ph, false, pr, ops) :: R, (askS T p lk, askV T p) :: out, o, true)
def arO (c : Int) : Int := if c = 43 then 31 else if c = 45 then 32 else if c = 42 then 33 else if c = 47 then 34 else 35
def cmO (c : Int) : Int := if c = 60 then 38 else if c = 62 then 39 else 40
abbrev isA (T : Int → Int) (p : Int) : Prop := tK T p = 3 ∧ (T (tQ T p) = 43 ∨ T (tQ T p) = 45 ∨ T (tQ T p) = 42 ∨ T (tQ T p) = 47 ∨ T (tQ T p) = 37)
abbrev isC (T : Int → Int) (p : Int) : Prop := tK T p = 3 ∧ (T (tQ T p) = 60 ∨ T (tQ T p) = 62 ∨ T (tQ T p) = 61)
def clos (kd : Int) : List zFr → List zFr
  | [] => []
  | (a, b, c, d, e) :: R => if kd = 5 then (a, 2, c, d, e) :: R else (a, b, c, d, e) :: R
noncomputable def gonS (T : Int → Int) (p kd ph : Int) (bg : Bool) (pr : Int) (ops : List Int) (R : List zFr) (out : List (Int × Int)) (o : Int) : zRs :=
  if tK T p = 4 then zft 1 (tP T p)
  else if ph < 2 ∧ isA T p then Sum.inl (tN T p, (kd, ph, bg, pr, arO (T (tQ T p)) :: (mjo (if T (tQ T p) = 43 ∨ T (tQ T p) = 45 then 5 else 6) ops out o).1) :: R, (mjo (if T (tQ T p) = 43 ∨ T (tQ T p) = 45 then 5 else 6) ops out o).2.1, (mjo (if T (tQ T p) = 43 ∨ T (tQ T p) = 45 then 5 else 6) ops out o).2.2, false)
  else if isT kd ∧ ph = 0 ∧ isC T p then Sum.inl (tN T p, (kd, 1, bg, pr, cmO (T (tQ T p)) :: (mjo 5 ops out o).1) :: R, (mjo 5 ops out o).2.1, (mjo 5 ops out o).2.2, false)
  else if isT kd ∧ (isOw T p 19 ∨ isOw T p 18) then
    (if ph = 0 then zft 1 (tQ T p) else Sum.inl (tN T p, (kd, 0, true, pr, (if isOw T p 19 then 41 else 42) :: (mjo (if isOw T p 19 then 2 else 1) ops out o).1) :: R, (mjo (if isOw T p 19 then 2 else 1) ops out o).2.1, (mjo (if isOw T p 19 then 2 else 1) ops out o).2.2, false))
  else if isT kd ∧ ph = 0 then zft 1 (tQ T p)
  else if kd < 2 then Sum.inr (Sum.inl (p, (kd, ph, bg, pr, (mjo 1 ops out o).1) :: R, (mjo 1 ops out o).2.1, (mjo 1 ops out o).2.2, true))
  else if kd = 3 ∨ kd = 6 then
    (if ¬ isSg T p 44 then zft 1 (tQ T p) else Sum.inl (tN T p, (if kd = 3 then 4 else 3, 0, bg, pr, (mjo 1 ops out o).1) :: R, (mjo 1 ops out o).2.1, (mjo 1 ops out o).2.2, false))
  else if ¬ isSg T p (if kd = 5 then 93 else 41) then zft 1 (tQ T p)
  else Sum.inl (tN T p, clos kd R, (if kd = 4 then (pr, 0) :: (mjo 1 ops out o).2.1 else (mjo 1 ops out o).2.1), (mjo 1 ops out o).2.2 - 1, true)
noncomputable def stpF (T : Int → Int) (lk : Bool) : zCf → zRs
  | (p, [], out, o, d) => Sum.inr (Sum.inl (p, [], out, o, d))
  | (p, (kd, ph, bg, pr, ops) :: R, out, o, d) => if d = false then oprF T lk p kd ph bg pr ops R out o else gonS T p kd ph bg pr ops R out o
def rch (T : Int → Int) (lk : Bool) : Nat → zCf → zCf → Prop
  | 0, X, Y => X = Y
  | k + 1, X, Y => ∃ Z, stpF T lk X = Sum.inl Z ∧ rch T lk k Z Y
def rc (T : Int → Int) (lk : Bool) (X Y : zCf) : Prop := ∃ k, rch T lk k X Y
def rbad (T : Int → Int) (lk : Bool) (X : zCf) (k pl : Int) : Prop := ∃ Y, rc T lk X Y ∧ stpF T lk Y = zft k pl
theorem rch_tr {T : Int → Int} {lk : Bool} : ∀ {k j : Nat} {X Y Z : zCf}, rch T lk k X Y → rch T lk j Y Z → rch T lk (k + j) X Z
  | 0, j, X, Y, Z, h1, h2 => by rw [Nat.zero_add, h1]; exact h2
  | k + 1, j, X, Y, Z, ⟨U, h1, h3⟩, h2 => by rw [show k + 1 + j = k + j + 1 by omega]; exact ⟨U, h1, rch_tr h3 h2⟩
theorem rc_rf (T : Int → Int) (lk : Bool) (X : zCf) : rc T lk X X := ⟨0, rfl⟩
theorem rc_tr {T : Int → Int} {lk : Bool} {X Y Z : zCf} (h1 : rc T lk X Y) (h2 : rc T lk Y Z) : rc T lk X Z := by
  obtain ⟨k, h1⟩ := h1
  obtain ⟨j, h2⟩ := h2
  exact ⟨k + j, rch_tr h1 h2⟩
theorem rc_1 {T : Int → Int} {lk : Bool} {X Y Z : zCf} (h1 : stpF T lk X = Sum.inl Y) (h2 : rc T lk Y Z) : rc T lk X Z := by
  obtain ⟨j, h2⟩ := h2
  exact ⟨j + 1, Y, h1, h2⟩
theorem rb_tr {T : Int → Int} {lk : Bool} {X Y : zCf} {k pl : Int} (h1 : rc T lk X Y) (h2 : rbad T lk Y k pl) : rbad T lk X k pl := by
  obtain ⟨Z, h2, h3⟩ := h2
  exact ⟨Z, rc_tr h1 h2, h3⟩
theorem rb_1 {T : Int → Int} {lk : Bool} {X Y : zCf} {k pl : Int} (h1 : stpF T lk X = Sum.inl Y) (h2 : rbad T lk Y k pl) : rbad T lk X k pl := rb_tr (rc_1 h1 (rc_rf T lk Y)) h2
theorem rb_0 {T : Int → Int} {lk : Bool} {X : zCf} {k pl : Int} (h1 : stpF T lk X = zft k pl) : rbad T lk X k pl := ⟨X, rc_rf T lk X, h1⟩
def fls (x : List Int) (out : List (Int × Int)) : List (Int × Int) := (x.map (fun y => (y, (0 : Int)))).reverse ++ out
def nNot : List Int → Int
  | [] => 0
  | x :: r => (if x = 43 then 1 else 0) + nNot r
def hdl (r : Int) (ops : List Int) : Prop := ∀ y l, ops = y :: l → rnk y < r
def rgt (r : Int) (x : List Int) : Prop := ∀ y ∈ x, r ≤ rnk y
theorem nNot_a : ∀ (x z : List Int), nNot (x ++ z) = nNot x + nNot z
  | [], z => by show nNot z = 0 + nNot z; omega
  | y :: x, z => by
    show (if y = 43 then 1 else 0) + nNot (x ++ z) = (if y = 43 then 1 else 0) + nNot x + nNot z
    rw [nNot_a x z]
    omega
theorem nNot_0 : ∀ {x : List Int}, rgt 4 x → nNot x = 0
  | [], _ => rfl
  | y :: x, h => by
    have h1 := h y List.mem_cons_self
    show (if y = 43 then 1 else 0) + nNot x = 0
    rw [nNot_0 (fun z hz => h z (List.mem_cons_of_mem _ hz)), if_neg (fun e => by rw [e] at h1; exact absurd h1 (by decide))]
    rfl
theorem hdl_nil (r : Int) : hdl r [] := fun y l h => by cases h
theorem hdl_c {r y : Int} {l : List Int} (h : rnk y < r) : hdl r (y :: l) := fun y2 l2 e => by cases e; exact h
theorem hdl_le {r s : Int} {l : List Int} (h : hdl r l) (hs : r ≤ s) : hdl s l := fun y l2 e => by have := h y l2 e; omega
theorem rgt_le {r s : Int} {l : List Int} (h : rgt r l) (hs : s ≤ r) : rgt s l := fun y hy => by have := h y hy; omega
theorem rgt_nil (r : Int) : rgt r [] := fun y h => by cases h
theorem rgt_c {r y : Int} {l : List Int} (h : r ≤ rnk y) (h2 : rgt r l) : rgt r (y :: l) := fun z hz => (List.mem_cons.mp hz).elim (fun e => by rw [e]; exact h) (h2 z)
theorem rgt_a {r : Int} {x z : List Int} (h : rgt r x) (h2 : rgt r z) : rgt r (x ++ z) := fun y hy => (List.mem_append.mp hy).elim (h y) (h2 y)
theorem mjo_x {l : Int} : ∀ {x ops : List Int} {out : List (Int × Int)} {o : Int}, rgt l x → hdl l ops → mjo l (x ++ ops) out o = (ops, fls x out, o - nNot x)
  | [], [], out, o, _, _ => by show ([], out, o) = ([], out, o - 0); rw [Int.sub_zero]
  | [], y :: r, out, o, _, h => by
    have h1 := h y r rfl
    show (if l ≤ rnk y then mjo l r ((y, 0) :: out) (if y = 43 then o - 1 else o) else (y :: r, out, o)) = (y :: r, out, o - 0)
    rw [if_neg (by omega), Int.sub_zero]
  | y :: x, ops, out, o, hx, h => by
    have h1 := hx y List.mem_cons_self
    show (if l ≤ rnk y then mjo l (x ++ ops) ((y, 0) :: out) (if y = 43 then o - 1 else o) else (y :: (x ++ ops), out, o)) = (ops, fls (y :: x) out, o - ((if y = 43 then 1 else 0) + nNot x))
    rw [if_pos h1, mjo_x (fun z hz => hx z (List.mem_cons_of_mem _ hz)) h]
    unfold fls
    rw [List.map_cons, List.reverse_cons, List.append_assoc]
    split
    · rw [show o - 1 - nNot x = o - (1 + nNot x) by omega]; rfl
    · rw [show o - nNot x = o - (0 + nNot x) by omega]; rfl
theorem fls_a (x z : List Int) (out : List (Int × Int)) : fls (x ++ z) out = fls z (fls x out) := by
  unfold fls
  rw [List.map_append, List.reverse_append, List.append_assoc]
theorem rnk_p (y : Int) : 1 ≤ rnk y := by
  unfold rnk
  (repeat' split) <;> omega
theorem rgt_1 (x : List Int) : rgt 1 x := fun y _ => rnk_p y
theorem arO_r {c : Int} : rnk (arO c) = if c = 43 ∨ c = 45 then 5 else 6 := by
  unfold arO
  by_cases h1 : c = 43
  · rw [if_pos h1, if_pos (Or.inl h1)]; rfl
  · by_cases h2 : c = 45
    · rw [if_neg h1, if_pos h2, if_pos (Or.inr h2)]; rfl
    · rw [if_neg h1, if_neg h2, if_neg (show ¬ (c = 43 ∨ c = 45) by omega)]
      (repeat' split) <;> rfl
theorem cmO_r (c : Int) : rnk (cmO c) = 4 := by
  unfold cmO
  (repeat' split) <;> rfl
