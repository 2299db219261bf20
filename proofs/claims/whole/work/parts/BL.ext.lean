/-! the class's search comes to the best row -/
theorem cmp_Bst {S : zv_H} {X : List (Int × Int) → Prop} {B : zB3} {p : List (Int × Int)} {g v : Int} (h : Bst S X B) (hp : p ≠ []) (hg : g = gaF S p) (hv : v = whF p) (hx : ∀ q, X q → lexL (cL q) (cL p)) : Bst S (fun q => X q ∨ q = p) (cmpF B p g v) := by
  subst hg hv
  by_cases h1_q : B.1 = []
  · have e : cmpF B p (gaF S p) (whF p) = (cL p, gaF S p, whF p) := if_neg (fun q => by rw [h1_q] at q; exact absurd q.1 (by decide))
    rw [e]
    exact Bst_0 h h1_q hp
  · have h0_q : 0 < B.1.length := by
      cases hh : B.1 with
      | nil => exact absurd hh h1_q
      | cons a l => exact Nat.succ_pos _
    by_cases hb : btrB B.1.length B.2.1 B.2.2 p.length (gaF S p) (whF p) = false
    · have e : cmpF B p (gaF S p) (whF p) = B := if_pos ⟨h0_q, hb⟩
      rw [e]
      refine Bst_2 h h1_q (fun r hr he => ?_)
      have hl := hx r hr
      have nb : ¬ btr B.1.length B.2.1 B.2.2 p.length (gaF S p) (whF p) := fun q => by
        rw [← btrB_i] at q
        rw [hb] at q
        exact absurd q (by decide)
      rw [he] at nb
      dsimp only at nb
      rw [cL_l] at nb
      unfold btr at nb
      unfold bet
      by_cases e1_q : gaF S p = gaF S r
      · rw [if_pos e1_q] at nb
        by_cases e2_q : whF p = whF r
        · rw [if_pos e2_q] at nb
          by_cases e3_q : r.length < p.length
          · exact Or.inr ⟨e1_q.symm, Or.inr ⟨e2_q.symm, Or.inl e3_q⟩⟩
          · exact Or.inr ⟨e1_q.symm, Or.inr ⟨e2_q.symm, Or.inr ⟨by omega, hl⟩⟩⟩
        · rw [if_neg e2_q] at nb
          exact Or.inr ⟨e1_q.symm, Or.inl (by omega)⟩
      · rw [if_neg e1_q] at nb
        exact Or.inl (by omega)
    · have hb2_q : btrB B.1.length B.2.1 B.2.2 p.length (gaF S p) (whF p) = true := by
        cases hh : btrB B.1.length B.2.1 B.2.2 p.length (gaF S p) (whF p)
        · exact absurd hh hb
        · rfl
      have e : cmpF B p (gaF S p) (whF p) = (cL p, gaF S p, whF p) := if_neg (fun q => hb q.2)
      rw [e]
      refine Bst_1 h h1_q hp (fun r hr he => ?_)
      have nb := (btrB_i _ _ _ _ _ _).mp hb2_q
      rw [he] at nb
      dsimp only at nb
      rw [cL_l] at nb
      unfold btr at nb
      unfold bet
      by_cases e1_q : gaF S p = gaF S r
      · rw [if_pos e1_q] at nb
        by_cases e2_q : whF p = whF r
        · rw [if_pos e2_q] at nb
          exact Or.inr ⟨e1_q, Or.inr ⟨e2_q, Or.inl (by omega)⟩⟩
        · rw [if_neg e2_q] at nb
          exact Or.inr ⟨e1_q, Or.inl nb⟩
      · rw [if_neg e1_q] at nb
        exact Or.inl nb
/-- the rows that go on from p with a COUNTY below c, by d COUNTIES at the most -/
def goS (Wm S : zv_H) (m : Int) (p : List (Int × Int)) (d : Nat) (c : Int) (q : List (Int × Int)) : Prop := vOK Wm S m q ∧ ∃ (s : List (Int × Int)) (e : Int × Int), q = s ++ e :: p ∧ e.1 < c ∧ s.length < d
theorem goS_c {Wm S : zv_H} {m : Int} {p q : List (Int × Int)} {d : Nat} {c : Int} (h : goS Wm S m p d c q) : ∃ e : Int, e < c ∧ ∃ u, cL q = cL p ++ e :: u := by
  obtain ⟨_, s, e, h1_q, h2_q, _⟩ := h
  refine ⟨e.1, h2_q, cL s, ?_⟩
  rw [h1_q, cL_a, cL_s, List.append_assoc]
  rfl
theorem ext_Bst {Wm S : zv_H} {m : Int} : ∀ (d : Nat) (p : List (Int × Int)) (g : Int) (B : zB3) (X : List (Int × Int) → Prop), vOK Wm S m p → g = gaF S p → (∀ q, X q → ∀ e u, lexL (cL q) (cL p ++ e :: u)) → Bst S X B → Bst S (fun q => X q ∨ goS Wm S m p d (Wm 0 1) q) (extF Wm S m d p g B)
  | 0, p, g, B, X, _, _, _, h => Bst_i h (fun q => ⟨Or.inl, fun r => r.elim id (fun r => by obtain ⟨_, s, e, _, _, r3_q⟩ := r; exact absurd r3_q (Nat.not_lt_zero _))⟩)
  | d + 1, p, g, B, X, hv, hg, hx, h => by
    have key : ∀ c : Nat, (c : Int) ≤ Wm 0 1 ∨ c = 0 → Bst S (fun q => X q ∨ goS Wm S m p (d + 1) c q) (extL (extF Wm S m d) Wm S m p g c B) := by
      intro c
      induction c with
      | zero =>
        intro _
        refine Bst_i h (fun q => ⟨Or.inl, fun r => r.elim id (fun r => ?_)⟩)
        obtain ⟨r1_q, s, e, r2_q, r3_q, _⟩ := r
        have r4_q : vOK Wm S m (e :: p) := vOK_a s (e :: p) (by rw [← r2_q]; exact r1_q)
        have := r4_q.2.1
        omega
      | succ c ih =>
        intro hc
        have hcc : (c : Int) < Wm 0 1 := by omega
        have ih := ih (Or.inl (by omega))
        by_cases ok : cmA Wm S m p c ≠ -1 ∧ canP Wm S m p c (cmA Wm S m p c)
        · rw [extL_1 ok]
          have hn : vOK Wm S m (((c : Int), cmA Wm S m p c) :: p) := ⟨hv, ⟨by dsimp only; omega, hcc⟩, rfl, ok.1, ok.2⟩
          have en : cL (((c : Int), cmA Wm S m p c) :: p) = cL p ++ [(c : Int)] := cL_s _ _
          have b1_q := cmp_Bst (p := ((c : Int), cmA Wm S m p c) :: p) (g := g + S 2 c) (v := cmA Wm S m p c) ih (by simp) (by rw [hg]; rfl) rfl (fun q hq => by
            rw [en]
            rcases hq with hq | hq
            · exact hx q hq c []
            · obtain ⟨e, e1_q, u, e2_q⟩ := goS_c hq
              rw [e2_q]
              exact lex_br _ _ _ e1_q)
          have b2_q := ext_Bst d (((c : Int), cmA Wm S m p c) :: p) (g + S 2 c) _ _ hn (by rw [hg]; rfl) (fun q hq e u => by
            rw [en, List.append_assoc]
            rcases hq with (hq | hq) | hq
            · exact hx q hq c (e :: u)
            · obtain ⟨f, e1_q, w, e2_q⟩ := goS_c hq
              rw [e2_q]
              exact lex_br _ _ _ e1_q
            · rw [hq, en, ← List.append_assoc]
              exact lex_pre _ _ _) b1_q
          refine Bst_i b2_q (fun q => ⟨fun r => ?_, fun r => ?_⟩)
          · rcases r with ((r | r) | r) | r
            · exact Or.inl r
            · obtain ⟨r1_q, s, e, r2_q, r3_q, r4_q⟩ := r
              exact Or.inr ⟨r1_q, s, e, r2_q, by omega, r4_q⟩
            · exact Or.inr ⟨by rw [r]; exact hn, [], ((c : Int), cmA Wm S m p c), r, by dsimp only; omega, Nat.succ_pos _⟩
            · obtain ⟨r1_q, s, e, r2_q, r3_q, r4_q⟩ := r
              exact Or.inr ⟨r1_q, s ++ [e], ((c : Int), cmA Wm S m p c), by rw [r2_q, List.append_assoc]; rfl, by dsimp only; omega, by rw [List.length_append]; show s.length + 1 < d + 1; omega⟩
          · rcases r with r | r
            · exact Or.inl (Or.inl (Or.inl r))
            · obtain ⟨r1_q, s, e, r2_q, r3_q, r4_q⟩ := r
              by_cases ec : e.1 = c
              · have r5_q : vOK Wm S m (e :: p) := vOK_a s (e :: p) (by rw [← r2_q]; exact r1_q)
                have ee : e = ((c : Int), cmA Wm S m p c) := Prod.ext ec (by rw [r5_q.2.2.1, ec])
                rw [ee] at r2_q
                rcases List.eq_nil_or_concat s with hs | ⟨s2_q, f, hs⟩
                · rw [hs] at r2_q
                  exact Or.inl (Or.inr r2_q)
                · rw [hs, List.concat_eq_append, List.append_assoc] at r2_q
                  rw [hs, List.concat_eq_append, List.length_append] at r4_q
                  have r4b_q : s2_q.length + 1 < d + 1 := r4_q
                  have r6_q : vOK Wm S m (f :: ((c : Int), cmA Wm S m p c) :: p) := vOK_a s2_q _ (by rw [r2_q] at r1_q; exact r1_q)
                  exact Or.inr ⟨r1_q, s2_q, f, r2_q, r6_q.2.1.2, by omega⟩
              · exact Or.inl (Or.inl (Or.inr ⟨r1_q, s, e, r2_q, by omega, r4_q⟩))
        · rw [extL_0 ok]
          refine Bst_i ih (fun q => ⟨fun r => ?_, fun r => ?_⟩)
          · rcases r with r | ⟨r1_q, s, e, r2_q, r3_q, r4_q⟩
            · exact Or.inl r
            · exact Or.inr ⟨r1_q, s, e, r2_q, by omega, r4_q⟩
          · rcases r with r | ⟨r1_q, s, e, r2_q, r3_q, r4_q⟩
            · exact Or.inl r
            · by_cases ec : e.1 = c
              · exfalso
                have r5_q : vOK Wm S m (e :: p) := vOK_a s (e :: p) (by rw [← r2_q]; exact r1_q)
                obtain ⟨_, _, r6_q, r7_q, r8_q⟩ := r5_q
                rw [ec] at r6_q r8_q
                rw [r6_q] at r7_q r8_q
                exact ok ⟨r7_q, r8_q⟩
              · exact Or.inr ⟨r1_q, s, e, r2_q, by omega, r4_q⟩
    have k := key (Wm 0 1).toNat (by omega)
    refine Bst_i k (fun q => ⟨fun r => ?_, fun r => ?_⟩)
    · rcases r with r | ⟨r1_q, s, e, r2_q, r3_q, r4_q⟩
      · exact Or.inl r
      · exact Or.inr ⟨r1_q, s, e, r2_q, (vOK_a s (e :: p) (by rw [← r2_q]; exact r1_q)).2.1.2, r4_q⟩
    · rcases r with r | ⟨r1_q, s, e, r2_q, r3_q, r4_q⟩
      · exact Or.inl r
      · have r5_q := (vOK_a s (e :: p) (by rw [← r2_q]; exact r1_q)).2.1
        exact Or.inr ⟨r1_q, s, e, r2_q, by omega, r4_q⟩
/-- all rows -/
def rowP (Wm S : zv_H) (m : Int) (q : List (Int × Int)) : Prop := vOK Wm S m q ∧ 1 ≤ q.length ∧ q.length ≤ 4
theorem rou_Bst {Wm S : zv_H} {m : Int} : Bst S (rowP Wm S m) (rouB Wm S m) := by
  have h := ext_Bst (Wm := Wm) (S := S) (m := m) 4 [] 0 ([], 0, 0) (fun _ => False) trivial rfl (fun q hq => absurd hq (fun x => x)) (Or.inl ⟨rfl, fun p hp => hp⟩)
  refine Bst_i h (fun q => ⟨fun r => ?_, fun r => ?_⟩)
  · rcases r with r | ⟨r1_q, s, e, r2_q, r3_q, r4_q⟩
    · exact absurd r (fun x => x)
    · refine ⟨r1_q, ?_, ?_⟩
      · rw [r2_q, List.length_append]; show 1 ≤ s.length + 1; omega
      · rw [r2_q, List.length_append]; show s.length + 1 ≤ 4; omega
  · obtain ⟨r1_q, r2_q, r3_q⟩ := r
    rcases List.eq_nil_or_concat q with hs | ⟨s, e, hs⟩
    · rw [hs] at r2_q; exact absurd r2_q (by decide)
    · rw [List.concat_eq_append] at hs
      refine Or.inr ⟨r1_q, s, e, hs, ?_, ?_⟩
      · exact (vOK_a s [e] (by rw [← hs]; exact r1_q)).2.1.2
      · rw [hs, List.length_append] at r3_q
        have : s.length + 1 ≤ 4 := r3_q
        omega
