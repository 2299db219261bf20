theorem ck_gon {T : Int → Int} {p kd ph pr o : Int} {bg : Bool} {ops : List Int} {R : List zFr} {out : List (Int × Int)} {X : zCf} (h1_q : ckF ((kd, ph, bg, pr, ops) :: R)) (h2_q : ckO out) (hx : gonS T p kd ph bg pr ops R out o = Sum.inl X) : ckF X.2.1 ∧ ckO X.2.2.1 := by
  obtain ⟨a, b, c⟩ := h1_q
  have fact : ∀ l, (∀ x ∈ (mjo l ops out o).1, okO x) ∧ ckO (mjo l ops out o).2.1 := fun l => mjo_k ops out o a h2_q
  unfold gonS at hx
  by_cases k4_q : tK T p = 4
  · rw [if_pos k4_q] at hx; cases hx
  rw [if_neg k4_q] at hx
  by_cases kA : ph < 2 ∧ isA T p
  · rw [if_pos kA] at hx
    cases hx
    have q : okO (arO (T (tQ T p))) := by
      unfold okO arO
      omega
    exact ⟨⟨okO_c q (fact _).1, b, c⟩, (fact _).2⟩
  rw [if_neg kA] at hx
  by_cases kC : isT kd ∧ ph = 0 ∧ isC T p
  · rw [if_pos kC] at hx
    cases hx
    have q : okO (cmO (T (tQ T p))) := by
      unfold okO cmO
      omega
    exact ⟨⟨okO_c q (fact _).1, b, c⟩, (fact _).2⟩
  rw [if_neg kC] at hx
  by_cases kO : isT kd ∧ (isOw T p 19 ∨ isOw T p 18)
  · rw [if_pos kO] at hx
    by_cases k0_q : ph = 0
    · rw [if_pos k0_q] at hx; cases hx
    rw [if_neg k0_q] at hx
    cases hx
    have q : okO (if isOw T p 19 then 41 else 42) := by
      by_cases k19_q : isOw T p 19
      · rw [if_pos k19_q]; exact ⟨by decide, by decide⟩
      · rw [if_neg k19_q]; exact ⟨by decide, by decide⟩
    exact ⟨⟨okO_c q (fact _).1, b, c⟩, (fact _).2⟩
  rw [if_neg kO] at hx
  by_cases kP : isT kd ∧ ph = 0
  · rw [if_pos kP] at hx; cases hx
  rw [if_neg kP] at hx
  by_cases k2_q : kd < 2
  · rw [if_pos k2_q] at hx; cases hx
  rw [if_neg k2_q] at hx
  by_cases k36_q : kd = 3 ∨ kd = 6
  · rw [if_pos k36_q] at hx
    by_cases k44_q : ¬ isSg T p 44
    · rw [if_pos k44_q] at hx; cases hx
    rw [if_neg k44_q] at hx
    cases hx
    exact ⟨⟨(fact 1).1, fun _ => b (by omega), c⟩, (fact 1).2⟩
  rw [if_neg k36_q] at hx
  by_cases kcl : ¬ isSg T p (if kd = 5 then 93 else 41)
  · rw [if_pos kcl] at hx; cases hx
  rw [if_neg kcl] at hx
  cases hx
  constructor
  · rcases R with _ | ⟨⟨fa, fb, fc, fd, fe⟩, R2⟩
    · exact trivial
    · by_cases k5_q : kd = 5
      · rw [show clos kd ((fa, fb, fc, fd, fe) :: R2) = (fa, 2, fc, fd, fe) :: R2 from if_pos k5_q]
        exact c
      · rw [clos_n k5_q]; exact c
  · dsimp only
    by_cases k : kd = 4
    · rw [if_pos k]
      exact ckO_c (okC_o (b (by omega))) (fact 1).2
    · rw [if_neg k]; exact (fact 1).2
theorem ck_end {T : Int → Int} {p kd ph pr o : Int} {bg : Bool} {ops : List Int} {R : List zFr} {out : List (Int × Int)} {X : zCf} (h1_q : ckF ((kd, ph, bg, pr, ops) :: R)) (h2_q : ckO out) (hx : gonS T p kd ph bg pr ops R out o = Sum.inr (Sum.inl X)) : ckO X.2.2.1 := by
  obtain ⟨a, b, c⟩ := h1_q
  unfold gonS at hx
  by_cases k4_q : tK T p = 4
  · rw [if_pos k4_q] at hx; cases hx
  rw [if_neg k4_q] at hx
  by_cases kA : ph < 2 ∧ isA T p
  · rw [if_pos kA] at hx; cases hx
  rw [if_neg kA] at hx
  by_cases kC : isT kd ∧ ph = 0 ∧ isC T p
  · rw [if_pos kC] at hx; cases hx
  rw [if_neg kC] at hx
  by_cases kO : isT kd ∧ (isOw T p 19 ∨ isOw T p 18)
  · rw [if_pos kO] at hx
    by_cases k0_q : ph = 0
    · rw [if_pos k0_q] at hx; cases hx
    rw [if_neg k0_q] at hx; cases hx
  rw [if_neg kO] at hx
  by_cases kP : isT kd ∧ ph = 0
  · rw [if_pos kP] at hx; cases hx
  rw [if_neg kP] at hx
  by_cases k2_q : kd < 2
  · rw [if_pos k2_q] at hx
    cases hx
    exact (mjo_k ops out o a h2_q).2
  rw [if_neg k2_q] at hx
  by_cases k36_q : kd = 3 ∨ kd = 6
  · rw [if_pos k36_q] at hx
    by_cases k44_q : ¬ isSg T p 44
    · rw [if_pos k44_q] at hx; cases hx
    rw [if_neg k44_q] at hx; cases hx
  rw [if_neg k36_q] at hx
  by_cases kcl : ¬ isSg T p (if kd = 5 then 93 else 41)
  · rw [if_pos kcl] at hx; cases hx
  rw [if_neg kcl] at hx; cases hx
theorem ck_stp {T : Int → Int} {lk : Bool} {X X' : zCf} (h1_q : ckF X.2.1) (h2_q : ckO X.2.2.1) (hx : stpF T lk X = Sum.inl X') : ckF X'.2.1 ∧ ckO X'.2.2.1 := by
  obtain ⟨p, F, out, o, d⟩ := X
  rcases F with _ | ⟨⟨kd, ph, bg, pr, ops⟩, R⟩
  · cases hx
  · rcases d with _ | _
    · exact ck_opr (fun q => tNv_b q) h1_q h2_q hx
    · exact ck_gon h1_q h2_q hx
theorem ck_rch {T : Int → Int} {lk : Bool} : ∀ {k : Nat} {X Y : zCf}, rch T lk k X Y → ckF X.2.1 → ckO X.2.2.1 → ckF Y.2.1 ∧ ckO Y.2.2.1
  | 0, X, Y, h, h1_q, h2_q => by
    have e : X = Y := h
    rw [← e]; exact ⟨h1_q, h2_q⟩
  | k + 1, X, Y, ⟨Z, e, h⟩, h1_q, h2_q => by
    have q := ck_stp h1_q h2_q e
    exact ck_rch h q.1 q.2
/-- all that a formula writes is of the machine's kinds -/
theorem ck_fin {T : Int → Int} {lk : Bool} {k : Nat} {X Y Z : zCf} (h : rch T lk k X Y) (h1_q : ckF X.2.1) (h2_q : ckO X.2.2.1) (hz : stpF T lk Y = Sum.inr (Sum.inl Z)) : ckO Z.2.2.1 := by
  have q := ck_rch h h1_q h2_q
  obtain ⟨p, F, out, o, d⟩ := Y
  rcases F with _ | ⟨⟨kd, ph, bg, pr, ops⟩, R⟩
  · cases hz; exact q.2
  · rcases d with _ | _
    · exfalso
      have hx : oprF T lk p kd ph bg pr ops R out o = Sum.inr (Sum.inl Z) := hz
      unfold oprF opn at hx
      (repeat' split at hx) <;> cases hx
    · exact ck_end q.1 q.2 hz
