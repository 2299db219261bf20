theorem cfI_gon {T : Int → Int} {n p kd ph pr o : Int} {bg : Bool} {ops : List Int} {R : List zFr} {out : List (Int × Int)} {X : zCf} (hT : TT T n) (hp : 0 ≤ p ∧ p ≤ n) (h : cfI (p, (kd, ph, bg, pr, ops) :: R, out, o, true)) (hx : gonS T p kd ph bg pr ops R out o = Sum.inl X) : cfI X ∧ p < X.1 ∧ X.1 ≤ n := by
  obtain ⟨a, b, c, e, f, g⟩ := h
  obtain ⟨a1_q, a2_q, a3_q, a4_q, a5_q⟩ := a
  have hbg : bg = false := by
    rcases bg with _ | _
    · rfl
    · have := (g rfl).1; cases this
  have tc : (tK T p = 1 ∨ tK T p = 2 ∨ tK T p = 3) → p < tN T p ∧ tN T p ≤ n := fun q => by
    have := tN_c hT hp q
    exact ⟨this.1, this.2.2⟩
  have fact : ∀ l, srt (mjo l ops out o).1 ∧ (∀ y ∈ (mjo l ops out o).1, y ∈ ops ∧ rnk y < l) ∧ (mjo l ops out o).2.1.length + (mjo l ops out o).1.length = out.length + ops.length ∧ (mjo l ops out o).2.2 - nNot (mjo l ops out o).1 = o - nNot ops := fun l => mjo_i ops out o a1_q
  have low : ∀ l, (mjo l ops out o).2.2 ≤ o := fun l => (mjo_o ops out o).2
  have push : ∀ (x l ph2_q : Int) (bg2 : Bool), x ≠ 43 → rnk x = l → (ph2_q = 0 → (∀ y ∈ (mjo l ops out o).1, rnk y ≠ 4) ∧ l ≠ 4) → (bg2 = true → l ≤ 3) → (p < tN T p ∧ tN T p ≤ n) → (∀ y ∈ (mjo l ops out o).1, rnk y < rnk x) → cfI (tN T p, (kd, ph2_q, bg2, pr, x :: (mjo l ops out o).1) :: R, (mjo l ops out o).2.1, (mjo l ops out o).2.2, false) ∧ p < tN T p ∧ tN T p ≤ n := fun x l ph2_q bg2 hx hr h4_q h3_q t hb => by
    obtain ⟨f1_q, f2_q, f3_q, f4_q⟩ := fact l
    refine ⟨⟨⟨srt_1 f1_q hx hb, fun q y hy => ?_, a3_q, a4_q, a5_q⟩, b, ?_, by have := low l; omega, ?_, fun q => ⟨rfl, fun y hy => ?_⟩⟩, t⟩
    · rcases List.mem_cons.mp hy with u | u
      · rw [u, hr]; exact (h4_q q).2
      · exact (h4_q q).1 y u
    · rw [show nNot (x :: (mjo l ops out o).1) = (if x = 43 then 1 else 0) + nNot (mjo l ops out o).1 from rfl, if_neg hx]; omega
    · rw [List.length_cons]; omega
    · have q3_q := h3_q q
      rcases List.mem_cons.mp hy with u | u
      · rw [u, hr]; exact q3_q
      · have := hb y u; omega
  unfold gonS at hx
  by_cases k4_q : tK T p = 4
  · rw [if_pos k4_q] at hx; cases hx
  rw [if_neg k4_q] at hx
  by_cases kA : ph < 2 ∧ isA T p
  · rw [if_pos kA] at hx
    have t := tc (Or.inr (Or.inr kA.2.1))
    generalize hl : (if T (tQ T p) = 43 ∨ T (tQ T p) = 45 then (5 : Int) else 6) = l at hx
    have hl2_q : l = 5 ∨ l = 6 := by omega
    have hr : rnk (arO (T (tQ T p))) = l := by rw [arO_r, hl]
    cases hx
    refine push _ l ph bg (fun q => by rw [q] at hr; rw [show rnk 43 = 3 from rfl] at hr; omega) hr (fun q => ⟨fun y hy => a2_q q y ((fact l).2.1 y hy).1, by omega⟩) (fun q => by rw [hbg] at q; cases q) t (fun y hy => by rw [hr]; exact ((fact l).2.1 y hy).2)
  rw [if_neg kA] at hx
  by_cases kC : isT kd ∧ ph = 0 ∧ isC T p
  · rw [if_pos kC] at hx
    have t := tc (Or.inr (Or.inr kC.2.2.1))
    cases hx
    have hr := cmO_r (T (tQ T p))
    obtain ⟨f1_q, f2_q, f3_q, f4_q⟩ := fact 5
    have hb : ∀ y ∈ (mjo 5 ops out o).1, rnk y < rnk (cmO (T (tQ T p))) := fun y hy => by
      have q1_q := (f2_q y hy).2
      have q2_q := a2_q kC.2.1 y (f2_q y hy).1
      omega
    have h43_q : cmO (T (tQ T p)) ≠ 43 := fun q => by rw [q, show rnk 43 = 3 from rfl] at hr; omega
    refine ⟨⟨⟨srt_1 f1_q h43_q hb, fun q => absurd q (by decide), a3_q, a4_q, a5_q⟩, b, ?_, by have := low 5; omega, by rw [List.length_cons]; omega, fun q => by rw [hbg] at q; cases q⟩, t⟩
    rw [show nNot (cmO (T (tQ T p)) :: (mjo 5 ops out o).1) = (if cmO (T (tQ T p)) = 43 then 1 else 0) + nNot (mjo 5 ops out o).1 from rfl, if_neg h43_q]; omega
  rw [if_neg kC] at hx
  by_cases kO : isT kd ∧ (isOw T p 19 ∨ isOw T p 18)
  · rw [if_pos kO] at hx
    have t := tc (Or.inl (by rcases kO.2 with u | u; exact u.1; exact u.1))
    by_cases k0_q : ph = 0
    · rw [if_pos k0_q] at hx; cases hx
    rw [if_neg k0_q] at hx
    by_cases k19_q : isOw T p 19
    · simp only [if_pos k19_q] at hx
      cases hx
      exact push 41 2 0 true (by decide) rfl (fun _ => ⟨fun y hy => by have := ((fact 2).2.1 y hy).2; omega, by decide⟩) (fun _ => by decide) t (fun y hy => by have := ((fact 2).2.1 y hy).2; rw [show rnk 41 = 2 from rfl]; exact this)
    · simp only [if_neg k19_q] at hx
      cases hx
      exact push 42 1 0 true (by decide) rfl (fun _ => ⟨fun y hy => by have := ((fact 1).2.1 y hy).2; omega, by decide⟩) (fun _ => by decide) t (fun y hy => by have := ((fact 1).2.1 y hy).2; rw [show rnk 42 = 1 from rfl]; exact this)
  rw [if_neg kO] at hx
  by_cases kP : isT kd ∧ ph = 0
  · rw [if_pos kP] at hx; cases hx
  rw [if_neg kP] at hx
  by_cases k2_q : kd < 2
  · rw [if_pos k2_q] at hx; cases hx
  rw [if_neg k2_q] at hx
  obtain ⟨f1_q, f2_q, f3_q, f4_q⟩ := fact 1
  have hz := mjo_1 ops out o
  have hlo := low 1
  rw [hz, List.length_nil] at f3_q
  rw [hz, show nNot ([] : List Int) = 0 from rfl] at f4_q
  by_cases k36_q : kd = 3 ∨ kd = 6
  · rw [if_pos k36_q] at hx
    by_cases k44_q : ¬ isSg T p 44
    · rw [if_pos k44_q] at hx; cases hx
    rw [if_neg k44_q, hz] at hx
    have t := tc (Or.inr (Or.inr (Classical.not_not.mp k44_q).1))
    cases hx
    exact ⟨⟨⟨trivial, fun _ y hy => (by cases hy), by omega, fun _ => a4_q (by omega), a5_q⟩, b, by rw [show nNot ([] : List Int) = 0 from rfl]; omega, by omega, by rw [List.length_nil]; omega, fun q => by rw [hbg] at q; cases q⟩, t⟩
  rw [if_neg k36_q] at hx
  by_cases kcl : ¬ isSg T p (if kd = 5 then 93 else 41)
  · rw [if_pos kcl] at hx; cases hx
  rw [if_neg kcl] at hx
  have t := tc (Or.inr (Or.inr (Classical.not_not.mp kcl).1))
  rcases R with _ | ⟨⟨fa, fb, fc, fd, fe⟩, R2⟩
  · exact absurd rfl (a4_q (by omega))
  obtain ⟨g1_q, g2_q, g3_q, g4_q, g5_q⟩ := a5_q
  have hfc : fc = false := b _ List.mem_cons_self
  have b2_q : lowB R2 := fun f hf => b f (List.mem_cons_of_mem _ hf)
  rw [List.length_cons, show nnF ((fa, fb, fc, fd, fe) :: R2) = nNot fe + nnF R2 from rfl] at c
  rw [show opsL ((fa, fb, fc, fd, fe) :: R2) = (fe.length : Int) + opsL R2 from rfl] at f
  cases hx
  have hlen : ((if kd = 4 then (pr, 0) :: (mjo 1 ops out o).2.1 else (mjo 1 ops out o).2.1).length : Int) ≤ ((mjo 1 ops out o).2.1.length : Int) + 1 := by
    by_cases k : kd = 4
    · rw [if_pos k, List.length_cons]; omega
    · rw [if_neg k]; omega
  by_cases k5_q : kd = 5
  · rw [show clos kd ((fa, fb, fc, fd, fe) :: R2) = (fa, 2, fc, fd, fe) :: R2 from if_pos k5_q]
    exact ⟨⟨⟨g1_q, fun q => absurd q (by decide), g3_q, g4_q, g5_q⟩, b2_q, by omega, by omega, by omega, fun q => by rw [hfc] at q; cases q⟩, t⟩
  · rw [clos_n k5_q]
    exact ⟨⟨⟨g1_q, g2_q, g3_q, g4_q, g5_q⟩, b2_q, by omega, by omega, by omega, fun q => by rw [hfc] at q; cases q⟩, t⟩
