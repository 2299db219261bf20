/-! the model's rows, by numbers -/
/-- where there is a way from f to g and from g to t there is one from f to t -/
def WT (Wm : zv_H) : Prop := ∀ f g t : Int, dstF Wm f g ≠ -1 → dstF Wm g t ≠ -1 → dstF Wm f t ≠ -1
/-- the first n COUNTIES of the row R -/
def pL (Wm S : zv_H) (m : Int) (R : Int → Int) : Nat → List (Int × Int)
  | 0 => []
  | i + 1 => (R i, cmA Wm S m (pL Wm S m R i) (R i)) :: pL Wm S m R i
theorem pL_l (Wm S : zv_H) (m : Int) (R : Int → Int) : ∀ n : Nat, (pL Wm S m R n).length = n
  | 0 => rfl
  | n + 1 => by show (pL Wm S m R n).length + 1 = n + 1; rw [pL_l Wm S m R n]
theorem pL_m {Wm S : zv_H} {m : Int} {R : Int → Int} : ∀ {n : Nat} {q : Int × Int}, q ∈ pL Wm S m R n ↔ ∃ j : Nat, j < n ∧ q = (R j, cmA Wm S m (pL Wm S m R j) (R j))
  | 0, q => ⟨fun h => (by cases h), fun h => (by obtain ⟨j, h, _⟩ := h; exact absurd h (Nat.not_lt_zero _))⟩
  | n + 1, q => by
    constructor
    · intro h
      rcases List.mem_cons.mp h with h | h
      · exact ⟨n, Nat.lt_succ_self _, h⟩
      · obtain ⟨j, h1_q, h2_q⟩ := pL_m.mp h
        exact ⟨j, by omega, h2_q⟩
    · rintro ⟨j, h1_q, h2_q⟩
      by_cases e : j = n
      · rw [e] at h2_q
        exact List.mem_cons.mpr (Or.inl h2_q)
      · exact List.mem_cons.mpr (Or.inr (pL_m.mpr ⟨j, by omega, h2_q⟩))
theorem pL_le {Wm S : zv_H} {m : Int} {R : Int → Int} {n : Nat} : ∀ d : Nat, vOK Wm S m (pL Wm S m R (n + d)) → vOK Wm S m (pL Wm S m R n)
  | 0, h => h
  | d + 1, h => pL_le d h.1
/-- in a row there is a way from each to the next ones -/
theorem vOK_w {Wm S : zv_H} {m : Int} (hT : WT Wm) : ∀ {r : List (Int × Int)} {c : Int}, vOK Wm S m r → cmA Wm S m r c ≠ -1 → ∀ e ∈ r, dstF Wm e.1 c ≠ -1
  | [], c, _, _, e, he => by cases he
  | f :: r, c, h, hc, e, he => by
    have c1_q : dstF Wm f.1 c ≠ -1 := fun q => hc (if_pos q)
    rcases List.mem_cons.mp he with h1_q | h1_q
    · rw [h1_q]; exact c1_q
    · exact hT _ _ _ (vOK_w hT h.1 (by rw [← h.2.2.1]; exact h.2.2.2.1) e h1_q) c1_q
/-- the number of a row, to the base of the count of COUNTIES -/
def nmF (al : Int) : List (Int × Int) → Int
  | [] => 0
  | q :: r => nmF al r * al + q.1
def rgP (al : Int) (p : List (Int × Int)) : Prop := ∀ q ∈ p, 0 ≤ q.1 ∧ q.1 < al
theorem rg_t {al : Int} {q : Int × Int} {r : List (Int × Int)} (h : rgP al (q :: r)) : rgP al r := fun e he => h e (List.mem_cons_of_mem _ he)
theorem vOK_r {Wm S : zv_H} {m : Int} : ∀ {p : List (Int × Int)}, vOK Wm S m p → rgP (Wm 0 1) p
  | [], _, q, h => by cases h
  | e :: r, h, q, hq => by
    rcases List.mem_cons.mp hq with h1_q | h1_q
    · rw [h1_q]; exact h.2.1
    · exact vOK_r h.1 q h1_q
theorem nm_i {al : Int} : ∀ {p q : List (Int × Int)}, rgP al p → rgP al q → p.length = q.length → nmF al p = nmF al q → p.map Prod.fst = q.map Prod.fst
  | [], [], _, _, _, _ => rfl
  | [], _ :: _, _, _, h, _ => absurd h (by simp)
  | _ :: _, [], _, _, h, _ => absurd h (by simp)
  | a :: r, b :: s, h1_q, h2_q, hl, h => by
    have ha := h1_q a List.mem_cons_self
    have hb := h2_q b List.mem_cons_self
    have h3_q : nmF al r * al + a.1 = nmF al s * al + b.1 := h
    have e1_q : a.1 = b.1 := by
      have x1_q : (nmF al r * al + a.1) % al = a.1 := by rw [Int.add_comm, Int.add_mul_emod_self_right]; exact Int.emod_eq_of_lt ha.1 ha.2
      have x2_q : (nmF al s * al + b.1) % al = b.1 := by rw [Int.add_comm, Int.add_mul_emod_self_right]; exact Int.emod_eq_of_lt hb.1 hb.2
      rw [← x1_q, ← x2_q, h3_q]
    have e2_q : nmF al r = nmF al s := by
      have x : nmF al r * al = nmF al s * al := by omega
      exact Int.eq_of_mul_eq_mul_right (by omega) x
    rw [List.map_cons, List.map_cons, e1_q, nm_i (rg_t h1_q) (rg_t h2_q) (by simpa using hl) e2_q]
theorem cL_f {p q : List (Int × Int)} (h : p.map Prod.fst = q.map Prod.fst) : cL p = cL q := by unfold cL; rw [h]
theorem nm_lex {al : Int} : ∀ {p q : List (Int × Int)}, rgP al p → rgP al q → p.length = q.length → nmF al p < nmF al q → lexL (cL p) (cL q)
  | [], [], _, _, _, h => absurd h (Int.lt_irrefl _)
  | [], _ :: _, _, _, h, _ => absurd h (by simp)
  | _ :: _, [], _, _, h, _ => absurd h (by simp)
  | a :: r, b :: s, h1_q, h2_q, hl, h => by
    have ha := h1_q a List.mem_cons_self
    have hb := h2_q b List.mem_cons_self
    have hl2_q : r.length = s.length := by simpa using hl
    have h3_q : nmF al r * al + a.1 < nmF al s * al + b.1 := h
    rw [cL_s, cL_s]
    by_cases c1_q : nmF al r < nmF al s
    · exact lex_app _ _ (nm_lex (rg_t h1_q) (rg_t h2_q) hl2_q c1_q) (by rw [cL_l, cL_l]; exact hl2_q)
    · by_cases c2_q : nmF al r = nmF al s
      · rw [cL_f (nm_i (rg_t h1_q) (rg_t h2_q) hl2_q c2_q)]
        rw [c2_q] at h3_q
        exact lex_br _ [] [] (by omega)
      · exfalso
        have x := Int.mul_le_mul_of_nonneg_right (show nmF al s + 1 ≤ nmF al r by omega) (show 0 ≤ al by omega)
        rw [Int.add_mul, Int.one_mul] at x
        omega
theorem nm_b {al : Int} (hal : 0 ≤ al) : ∀ {p : List (Int × Int)}, rgP al p → 0 ≤ nmF al p ∧ nmF al p < al ^ p.length ∨ (p = [] ∧ nmF al p = 0)
  | [], _ => Or.inr ⟨rfl, rfl⟩
  | a :: r, h => by
    have ha := h a List.mem_cons_self
    have e : nmF al (a :: r) = nmF al r * al + a.1 := rfl
    refine Or.inl ?_
    have ex : al ^ (a :: r).length = al ^ r.length * al := Int.pow_succ _ _
    rw [e, ex]
    rcases nm_b hal (rg_t h) with ih | ⟨ih, ih2_q⟩
    · have x := Int.mul_le_mul_of_nonneg_right (show nmF al r + 1 ≤ al ^ r.length by omega) hal
      rw [Int.add_mul, Int.one_mul] at x
      have y := Int.mul_nonneg ih.1 hal
      omega
    · rw [ih2_q, ih, List.length_nil, Int.pow_zero]
      omega
/-- the COUNTIES of number w, in a row of n -/
theorem nm_dg {Wm S : zv_H} {m al w : Int} {R : Int → Int} {n : Nat} (hal : 0 < al) (hw : 0 ≤ w ∧ w < al ^ n) (hR : ∀ t : Nat, t < n → R t = w / al ^ (n - 1 - t) % al) : ∀ i : Nat, i ≤ n → nmF al (pL Wm S m R i) = w / al ^ (n - i)
  | 0, _ => by
    show (0 : Int) = w / al ^ (n - 0)
    rw [Nat.sub_zero, Int.ediv_eq_zero_of_lt hw.1 hw.2]
  | i + 1, h => by
    have ih := nm_dg (Wm := Wm) (S := S) (m := m) hal hw hR i (by omega)
    show nmF al (pL Wm S m R i) * al + R i = w / al ^ (n - (i + 1))
    have e : al ^ (n - i) = al ^ (n - (i + 1)) * al := by rw [show n - i = n - (i + 1) + 1 by omega]; exact Int.pow_succ _ _
    rw [ih, hR i (by omega), show n - 1 - i = n - (i + 1) by omega, e, ← Int.ediv_ediv_of_nonneg (Int.le_of_lt (Int.pow_pos hal)), Int.mul_comm]
    exact Int.mul_ediv_add_emod _ _
theorem vOK_pL {Wm S : zv_H} {m : Int} {R : Int → Int} : ∀ {n : Nat} {p : List (Int × Int)}, vOK Wm S m p → p.map Prod.fst = (pL Wm S m R n).map Prod.fst → p = pL Wm S m R n
  | 0, [], _, _ => rfl
  | 0, _ :: _, _, h => absurd h (by show ¬ (_ :: _ = []); simp)
  | n + 1, [], _, h => absurd h (by show ¬ ([] = _ :: _); simp)
  | n + 1, a :: r, hv, h => by
    have h2_q : a.1 :: r.map Prod.fst = R n :: (pL Wm S m R n).map Prod.fst := h
    have e1_q := (List.cons.inj h2_q).1
    have e2_q := vOK_pL hv.1 (List.cons.inj h2_q).2
    have e3_q := hv.2.2.1
    rw [e2_q, e1_q] at e3_q
    have ea : a = (R n, cmA Wm S m (pL Wm S m R n) (R n)) := Prod.ext e1_q e3_q
    show a :: r = (R n, cmA Wm S m (pL Wm S m R n) (R n)) :: pL Wm S m R n
    rw [e2_q, ea]
