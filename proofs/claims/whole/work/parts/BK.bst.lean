/-! ROUNDS: which row is best does not hang on the order in which rows are looked at -/
def lexL : List Int → List Int → Prop
  | [], [] => False
  | [], _ :: _ => True
  | _ :: _, [] => False
  | a :: x, b :: y => a < b ∨ (a = b ∧ lexL x y)
theorem lex_ir : ∀ x : List Int, ¬ lexL x x
  | [], h => h
  | a :: x, h => by
    rcases h with h | h
    · omega
    · exact lex_ir x h.2
theorem lex_tr : ∀ {x y z : List Int}, lexL x y → lexL y z → lexL x z
  | [], [], _, h, _ => absurd h (fun q => q)
  | [], _ :: _, [], _, h => absurd h (fun q => q)
  | [], _ :: _, _ :: _, _, _ => trivial
  | _ :: _, [], _, h, _ => absurd h (fun q => q)
  | _ :: _, _ :: _, [], _, h => absurd h (fun q => q)
  | a :: x, b :: y, c :: z, h1_q, h2_q => by
    rcases h1_q with h1_q | h1_q
    · rcases h2_q with h2_q | h2_q
      · exact Or.inl (by omega)
      · exact Or.inl (by omega)
    · rcases h2_q with h2_q | h2_q
      · exact Or.inl (by omega)
      · exact Or.inr ⟨by omega, lex_tr h1_q.2 h2_q.2⟩
theorem lex_app : ∀ {x y : List Int} (u v : List Int), lexL x y → x.length = y.length → lexL (x ++ u) (y ++ v)
  | [], [], _, _, h, _ => absurd h (fun q => q)
  | [], _ :: _, _, _, _, h => absurd h (by simp)
  | _ :: _, [], _, _, h, _ => absurd h (fun q => q)
  | a :: x, b :: y, u, v, h, hl => by
    rcases h with h | h
    · exact Or.inl h
    · exact Or.inr ⟨h.1, lex_app u v h.2 (by simpa using hl)⟩
theorem lex_pre : ∀ (x : List Int) (b : Int) (y : List Int), lexL x (x ++ b :: y)
  | [], _, _ => trivial
  | _ :: x, b, y => Or.inr ⟨rfl, lex_pre x b y⟩
theorem lex_br : ∀ (x : List Int) {a b : Int} (u v : List Int), a < b → lexL (x ++ a :: u) (x ++ b :: v)
  | [], _, _, _, _, h => Or.inl h
  | _ :: x, _, _, u, v, h => Or.inr ⟨rfl, lex_br x u v h⟩
/-- the COUNTIES of a row, the first one first -/
def cL (p : List (Int × Int)) : List Int := (p.map Prod.fst).reverse
def gaF (S : zv_H) : List (Int × Int) → Int
  | [] => 0
  | q :: r => gaF S r + S 2 q.1
def whF : List (Int × Int) → Int
  | [] => 0
  | q :: _ => q.2
def vOK (Wm S : zv_H) (m : Int) : List (Int × Int) → Prop
  | [] => True
  | q :: r => vOK Wm S m r ∧ (0 ≤ q.1 ∧ q.1 < Wm 0 1) ∧ q.2 = cmA Wm S m r q.1 ∧ q.2 ≠ -1 ∧ canP Wm S m r q.1 q.2
theorem cL_s (q : Int × Int) (r : List (Int × Int)) : cL (q :: r) = cL r ++ [q.1] := by unfold cL; rw [List.map_cons, List.reverse_cons]
theorem cL_l (p : List (Int × Int)) : (cL p).length = p.length := by unfold cL; rw [List.length_reverse, List.length_map]
theorem cL_a (s p : List (Int × Int)) : cL (s ++ p) = cL p ++ cL s := by unfold cL; rw [List.map_append, List.reverse_append]
theorem vOK_a {Wm S : zv_H} {m : Int} : ∀ (s p : List (Int × Int)), vOK Wm S m (s ++ p) → vOK Wm S m p
  | [], _, h => h
  | _ :: s, p, h => vOK_a s p h.1
theorem vOK_u {Wm S : zv_H} {m : Int} : ∀ {p q : List (Int × Int)}, vOK Wm S m p → vOK Wm S m q → p.map Prod.fst = q.map Prod.fst → p = q
  | [], [], _, _, _ => rfl
  | [], _ :: _, _, _, h => absurd h (by simp)
  | _ :: _, [], _, _, h => absurd h (by simp)
  | a :: r, b :: s, h1_q, h2_q, h => by
    rw [List.map_cons, List.map_cons] at h
    have e1_q : a.1 = b.1 := (List.cons.inj h).1
    have e2_q := vOK_u h1_q.1 h2_q.1 (List.cons.inj h).2
    have e3_q : a.2 = b.2 := by rw [h1_q.2.2.1, h2_q.2.2.1, e1_q, e2_q]
    rw [e2_q, Prod.ext e1_q e3_q]
def bet (S : zv_H) (p q : List (Int × Int)) : Prop := gaF S q < gaF S p ∨ (gaF S p = gaF S q ∧ (whF p < whF q ∨ (whF p = whF q ∧ (p.length < q.length ∨ (p.length = q.length ∧ lexL (cL p) (cL q))))))
theorem bet_tr {S : zv_H} {p q r : List (Int × Int)} (h1_q : bet S p q) (h2_q : bet S q r) : bet S p r := by
  unfold bet at *
  generalize gaF S p = a1_q at *
  generalize gaF S q = a2_q at *
  generalize gaF S r = a3_q at *
  generalize whF p = b1_q at *
  generalize whF q = b2_q at *
  generalize whF r = b3_q at *
  generalize p.length = c1_q at *
  generalize q.length = c2_q at *
  generalize r.length = c3_q at *
  rcases h1_q with h1_q | ⟨e1_q, h1_q | ⟨e2_q, h1_q | ⟨e3_q, h1_q⟩⟩⟩
  · rcases h2_q with h2_q | ⟨f1_q, _⟩
    · exact Or.inl (by omega)
    · exact Or.inl (by omega)
  · rcases h2_q with h2_q | ⟨f1_q, h2_q | ⟨f2_q, _⟩⟩
    · exact Or.inl (by omega)
    · exact Or.inr ⟨by omega, Or.inl (by omega)⟩
    · exact Or.inr ⟨by omega, Or.inl (by omega)⟩
  · rcases h2_q with h2_q | ⟨f1_q, h2_q | ⟨f2_q, h2_q | ⟨f3_q, _⟩⟩⟩
    · exact Or.inl (by omega)
    · exact Or.inr ⟨by omega, Or.inl (by omega)⟩
    · exact Or.inr ⟨by omega, Or.inr ⟨by omega, Or.inl (by omega)⟩⟩
    · exact Or.inr ⟨by omega, Or.inr ⟨by omega, Or.inl (by omega)⟩⟩
  · rcases h2_q with h2_q | ⟨f1_q, h2_q | ⟨f2_q, h2_q | ⟨f3_q, h2_q⟩⟩⟩
    · exact Or.inl (by omega)
    · exact Or.inr ⟨by omega, Or.inl (by omega)⟩
    · exact Or.inr ⟨by omega, Or.inr ⟨by omega, Or.inl (by omega)⟩⟩
    · exact Or.inr ⟨by omega, Or.inr ⟨by omega, Or.inr ⟨by omega, lex_tr h1_q h2_q⟩⟩⟩
theorem bet_ir {S : zv_H} {p : List (Int × Int)} (h : bet S p p) : False := by
  rcases h with h | ⟨_, h | ⟨_, h | ⟨_, h⟩⟩⟩
  · omega
  · omega
  · omega
  · exact lex_ir _ h
/-- of the rows X the best is told by B -/
def Bst (S : zv_H) (X : List (Int × Int) → Prop) (B : zB3) : Prop := (B.1 = [] ∧ ∀ p, ¬ X p) ∨ ∃ p, X p ∧ p ≠ [] ∧ B = (cL p, gaF S p, whF p) ∧ ∀ q, X q → q = p ∨ bet S p q
theorem Bst_i {S : zv_H} {X Y : List (Int × Int) → Prop} {B : zB3} (h : Bst S X B) (e : ∀ p, X p ↔ Y p) : Bst S Y B := by
  rcases h with ⟨h1_q, h2_q⟩ | ⟨p, h1_q, h0_q, h2_q, h3_q⟩
  · exact Or.inl ⟨h1_q, fun p q => h2_q p ((e p).mpr q)⟩
  · exact Or.inr ⟨p, (e p).mp h1_q, h0_q, h2_q, fun q hq => h3_q q ((e q).mpr hq)⟩
theorem Bst_0 {S : zv_H} {X : List (Int × Int) → Prop} {B : zB3} {p : List (Int × Int)} (h : Bst S X B) (h1_q : B.1 = []) (hp : p ≠ []) : Bst S (fun q => X q ∨ q = p) (cL p, gaF S p, whF p) := by
  rcases h with ⟨_, h2_q⟩ | ⟨r, _, h0_q, h2_q, _⟩
  · exact Or.inr ⟨p, Or.inr rfl, hp, rfl, fun q hq => hq.elim (fun x => absurd x (h2_q q)) Or.inl⟩
  · exfalso
    have e : (cL r).length = 0 := by rw [← show B.1 = cL r from by rw [h2_q], h1_q]; rfl
    rw [cL_l] at e
    exact h0_q (List.eq_nil_of_length_eq_zero e)
theorem Bst_1 {S : zv_H} {X : List (Int × Int) → Prop} {B : zB3} {p : List (Int × Int)} (h : Bst S X B) (h1_q : B.1 ≠ []) (hp : p ≠ []) (hb : ∀ r, X r → B = (cL r, gaF S r, whF r) → bet S p r) : Bst S (fun q => X q ∨ q = p) (cL p, gaF S p, whF p) := by
  rcases h with ⟨h2_q, _⟩ | ⟨r, a1_q, a0_q, a2_q, a3_q⟩
  · exact absurd h2_q h1_q
  · have b := hb r a1_q a2_q
    exact Or.inr ⟨p, Or.inr rfl, hp, rfl, fun q hq => hq.elim (fun x => (a3_q q x).elim (fun e => Or.inr (by rw [e]; exact b)) (fun e => Or.inr (bet_tr b e))) Or.inl⟩
theorem Bst_2 {S : zv_H} {X : List (Int × Int) → Prop} {B : zB3} {p : List (Int × Int)} (h : Bst S X B) (h1_q : B.1 ≠ []) (hb : ∀ r, X r → B = (cL r, gaF S r, whF r) → bet S r p) : Bst S (fun q => X q ∨ q = p) B := by
  rcases h with ⟨h2_q, _⟩ | ⟨r, a1_q, a0_q, a2_q, a3_q⟩
  · exact absurd h2_q h1_q
  · exact Or.inr ⟨r, Or.inl a1_q, a0_q, a2_q, fun q hq => hq.elim (a3_q q) (fun e => Or.inr (by rw [e]; exact hb r a1_q a2_q))⟩
theorem Bst_u {S : zv_H} {X : List (Int × Int) → Prop} {B C : zB3} (h1_q : Bst S X B) (h2_q : Bst S X C) : (B.1 = [] ∧ C.1 = []) ∨ (B = C ∧ B.1 ≠ []) := by
  rcases h1_q with ⟨a1_q, a2_q⟩ | ⟨p, a1_q, a0_q, a2_q, a3_q⟩
  · rcases h2_q with ⟨b1_q, _⟩ | ⟨q, b1_q, _⟩
    · exact Or.inl ⟨a1_q, b1_q⟩
    · exact absurd b1_q (a2_q q)
  · rcases h2_q with ⟨_, b2_q⟩ | ⟨q, b1_q, b0_q, b2_q, b3_q⟩
    · exact absurd a1_q (b2_q p)
    · have e : q = p := by
        rcases a3_q q b1_q with e | e
        · exact e
        · rcases b3_q p a1_q with e2_q | e2_q
          · exact e2_q.symm
          · exact absurd (bet_tr e e2_q) bet_ir
      refine Or.inr ⟨by rw [a2_q, b2_q, e], ?_⟩
      rw [a2_q]
      intro h
      have e2_q : (cL p).length = 0 := by rw [show cL p = [] from h]; rfl
      rw [cL_l] at e2_q
      exact a0_q (List.eq_nil_of_length_eq_zero e2_q)
