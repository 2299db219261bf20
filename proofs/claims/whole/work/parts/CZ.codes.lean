/-! what is written is of the machine's kinds -/
def okO (x : Int) : Prop := 31 ≤ x ∧ x ≤ 44
def ckF : List zFr → Prop
  | [] => True
  | (kd, _, _, pr, ops) :: R => (∀ x ∈ ops, okO x) ∧ ((kd = 3 ∨ kd = 4 ∨ kd = 6) → okO pr) ∧ ckF R
def ckO (out : List (Int × Int)) : Prop := ∀ c ∈ out, okC1 c
theorem okC_o {x : Int} (h : okO x) : okC1 (x, 0) := by
  unfold okO at h
  exact Or.inr (Or.inr (Or.inr h))
theorem ckO_c {c : Int × Int} {out : List (Int × Int)} (h : okC1 c) (h2_q : ckO out) : ckO (c :: out) := fun d hd => (List.mem_cons.mp hd).elim (fun e => by rw [e]; exact h) (h2_q d)
theorem okO_c {x : Int} {ops : List Int} (h : okO x) (h2_q : ∀ y ∈ ops, okO y) : ∀ y ∈ x :: ops, okO y := fun d hd => (List.mem_cons.mp hd).elim (fun e => by rw [e]; exact h) (h2_q d)
theorem mjo_k {l : Int} : ∀ (ops : List Int) (out : List (Int × Int)) (o : Int), (∀ x ∈ ops, okO x) → ckO out → (∀ x ∈ (mjo l ops out o).1, okO x) ∧ ckO (mjo l ops out o).2.1
  | [], out, o, h1_q, h2_q => ⟨h1_q, h2_q⟩
  | x :: t, out, o, h1_q, h2_q => by
    by_cases h : l ≤ rnk x
    · rw [mjo_p h]
      exact mjo_k t _ _ (fun y hy => h1_q y (List.mem_cons_of_mem _ hy)) (ckO_c (okC_o (h1_q x List.mem_cons_self)) h2_q)
    · rw [mjo_n h]
      exact ⟨h1_q, h2_q⟩
theorem okC_a {T : Int → Int} {p : Int} {lk : Bool} (hv : tK T p = 2 → 0 ≤ tNv T p ∧ tNv T p ≤ 9999) (h : askS T p lk ≠ -1) : okC1 (askS T p lk, askV T p) := by
  by_cases k2_q : tK T p = 2
  · have e1_q : askS T p lk = 0 := if_pos k2_q
    have e2_q : askV T p = tNv T p := if_pos k2_q
    rw [e1_q, e2_q]
    exact Or.inl ⟨rfl, hv k2_q⟩
  · have b := askP_b T p
    have e := askS_P (T := T) (p := p) (lk := lk) rfl
    have e0_q : askP T p ≠ 0 := by
      unfold askP
      rw [if_neg k2_q]
      omega
    refine Or.inr (Or.inl ?_)
    dsimp only
    by_cases c : askP T p ≤ 5 ∨ lk = true
    · rw [if_pos c] at e; omega
    · rw [if_neg c] at e; exact absurd e h
theorem ck_opn {T : Int → Int} {k2_q pr2_q q o : Int} {R : List zFr} {out : List (Int × Int)} {X : zCf} (h1_q : ckF R) (h2_q : ckO out) (h3_q : (k2_q = 3 ∨ k2_q = 4 ∨ k2_q = 6) → okO pr2_q) (hx : opn T k2_q pr2_q q o R out = Sum.inl X) : ckF X.2.1 ∧ ckO X.2.2.1 := by
  unfold opn at hx
  by_cases h7_q : o = 7
  · rw [if_pos h7_q] at hx; cases hx
  · rw [if_neg h7_q] at hx
    cases hx
    exact ⟨⟨fun x hx => (by cases hx), h3_q, h1_q⟩, h2_q⟩
theorem ck_opr {T : Int → Int} {p kd ph pr o : Int} {lk bg : Bool} {ops : List Int} {R : List zFr} {out : List (Int × Int)} {X : zCf} (hv : tK T p = 2 → 0 ≤ tNv T p ∧ tNv T p ≤ 9999) (h1_q : ckF ((kd, ph, bg, pr, ops) :: R)) (h2_q : ckO out) (hx : oprF T lk p kd ph bg pr ops R out o = Sum.inl X) : ckF X.2.1 ∧ ckO X.2.2.1 := by
  have h1b_q : ckF ((kd, ph, false, pr, ops) :: R) := h1_q
  obtain ⟨a, b, c⟩ := h1_q
  unfold oprF at hx
  by_cases k4_q : tK T p = 4
  · rw [if_pos k4_q] at hx; cases hx
  rw [if_neg k4_q] at hx
  by_cases k20_q : (isT kd ∧ bg = true) ∧ isOw T p 20
  · rw [if_pos k20_q] at hx
    by_cases h7_q : o = 7
    · rw [if_pos h7_q] at hx; cases hx
    · rw [if_neg h7_q] at hx
      cases hx
      exact ⟨⟨okO_c ⟨by decide, by decide⟩ a, b, c⟩, h2_q⟩
  rw [if_neg k20_q] at hx
  by_cases k91_q : (isT kd ∧ bg = true) ∧ isSg T p 91
  · rw [if_pos k91_q] at hx
    exact ck_opn h1b_q h2_q (fun q => by omega) hx
  rw [if_neg k91_q] at hx
  by_cases k21_q : (isT kd ∧ bg = true) ∧ isOw T p 21
  · rw [if_pos k21_q] at hx
    cases hx
    exact ⟨⟨a, b, c⟩, ckO_c (Or.inr (Or.inr (Or.inl rfl))) h2_q⟩
  rw [if_neg k21_q] at hx
  by_cases k40_q : isSg T p 40
  · rw [if_pos k40_q] at hx
    exact ck_opn h1b_q h2_q (fun q => by omega) hx
  rw [if_neg k40_q] at hx
  by_cases kf : isOw T p 22 ∨ isOw T p 23 ∨ isOw T p 17
  · rw [if_pos kf] at hx
    by_cases k5_q : tK T (tN T p) = 4
    · rw [if_pos k5_q] at hx; cases hx
    rw [if_neg k5_q] at hx
    by_cases k6_q : ¬ isSg T (tN T p) 40
    · rw [if_pos k6_q] at hx; cases hx
    rw [if_neg k6_q] at hx
    refine ck_opn h1b_q h2_q (fun _ => ?_) hx
    unfold okO
    by_cases k8_q : isOw T p 22
    · rw [if_pos k8_q]; omega
    · rw [if_neg k8_q]
      by_cases k9_q : isOw T p 23
      · rw [if_pos k9_q]; omega
      · rw [if_neg k9_q]; omega
  rw [if_neg kf] at hx
  by_cases ka : askS T p lk = -1
  · rw [if_pos ka] at hx; cases hx
  rw [if_neg ka] at hx
  cases hx
  exact ⟨⟨a, b, c⟩, ckO_c (okC_a hv ka) h2_q⟩
theorem ck_gon {T : Int → Int} {p kd ph pr o : Int} {bg : Bool} {ops : List Int} {R : List zFr} {out : List (Int × Int)} {X : zCf} (h1_q : ckF ((kd, ph, bg, pr, ops) :: R)) (h2_q : ckO out) (hx : gonS T p kd ph bg pr ops R out o = Sum.inl X) : ckF X.2.1 ∧ ckO X.2.2.1 := by
  obtain ⟨a, b, c⟩ := h1_q
  have fact : ∀ l, (∀ x ∈ (mjo l ops out o).1, okO x) ∧ ckO (mjo l ops out o).2.1 := fun l => mjo_k ops out o a h2_q
  unfold gonS at hx
  by_cases k4_q : tK T p = 4
  · rw [if_pos k4_q] at hx; cases hx
  rw [if_neg k4_q] at hx
  by_cases kA : ph < 2 ∧ isA T p
  · rw [if_pos kA] at hx
    cases hx
    have q : okO (arO (T (tQ T p))) := by
      unfold okO arO
      omega
    exact ⟨⟨okO_c q (fact _).1, b, c⟩, (fact _).2⟩
  rw [if_neg kA] at hx
  by_cases kC : isT kd ∧ ph = 0 ∧ isC T p
  · rw [if_pos kC] at hx
    cases hx
    have q : okO (cmO (T (tQ T p))) := by
      unfold okO cmO
      omega
    exact ⟨⟨okO_c q (fact _).1, b, c⟩, (fact _).2⟩
  rw [if_neg kC] at hx
  by_cases kO : isT kd ∧ (isOw T p 19 ∨ isOw T p 18)
  · rw [if_pos kO] at hx
    by_cases k0_q : ph = 0
    · rw [if_pos k0_q] at hx; cases hx
    rw [if_neg k0_q] at hx
    cases hx
    have q : okO (if isOw T p 19 then 41 else 42) := by
      by_cases k19_q : isOw T p 19
      · rw [if_pos k19_q]; exact ⟨by decide, by decide⟩
      · rw [if_neg k19_q]; exact ⟨by decide, by decide⟩
    exact ⟨⟨okO_c q (fact _).1, b, c⟩, (fact _).2⟩
  rw [if_neg kO] at hx
  by_cases kP : isT kd ∧ ph = 0
  · rw [if_pos kP] at hx; cases hx
  rw [if_neg kP] at hx
  by_cases k2_q : kd < 2
  · rw [if_pos k2_q] at hx; cases hx
  rw [if_neg k2_q] at hx
  by_cases k36_q : kd = 3 ∨ kd = 6
  · rw [if_pos k36_q] at hx
    by_cases k44_q : ¬ isSg T p 44
    · rw [if_pos k44_q] at hx; cases hx
    rw [if_neg k44_q] at hx
    cases hx
    exact ⟨⟨(fact 1).1, fun _ => b (by omega), c⟩, (fact 1).2⟩
  rw [if_neg k36_q] at hx
  by_cases kcl : ¬ isSg T p (if kd = 5 then 93 else 41)
  · rw [if_pos kcl] at hx; cases hx
  rw [if_neg kcl] at hx
  cases hx
  constructor
  · rcases R with _ | ⟨⟨fa, fb, fc, fd, fe⟩, R2⟩
    · exact trivial
    · by_cases k5_q : kd = 5
      · rw [show clos kd ((fa, fb, fc, fd, fe) :: R2) = (fa, 2, fc, fd, fe) :: R2 from if_pos k5_q]
        exact c
      · rw [clos_n k5_q]; exact c
  · dsimp only
    by_cases k : kd = 4
    · rw [if_pos k]
      exact ckO_c (okC_o (b (by omega))) (fact 1).2
    · rw [if_neg k]; exact (fact 1).2
theorem ck_end {T : Int → Int} {p kd ph pr o : Int} {bg : Bool} {ops : List Int} {R : List zFr} {out : List (Int × Int)} {X : zCf} (h1_q : ckF ((kd, ph, bg, pr, ops) :: R)) (h2_q : ckO out) (hx : gonS T p kd ph bg pr ops R out o = Sum.inr (Sum.inl X)) : ckO X.2.2.1 := by
  obtain ⟨a, b, c⟩ := h1_q
  unfold gonS at hx
  by_cases k4_q : tK T p = 4
  · rw [if_pos k4_q] at hx; cases hx
  rw [if_neg k4_q] at hx
  by_cases kA : ph < 2 ∧ isA T p
  · rw [if_pos kA] at hx; cases hx
  rw [if_neg kA] at hx
  by_cases kC : isT kd ∧ ph = 0 ∧ isC T p
  · rw [if_pos kC] at hx; cases hx
  rw [if_neg kC] at hx
  by_cases kO : isT kd ∧ (isOw T p 19 ∨ isOw T p 18)
  · rw [if_pos kO] at hx
    by_cases k0_q : ph = 0
    · rw [if_pos k0_q] at hx; cases hx
    rw [if_neg k0_q] at hx; cases hx
  rw [if_neg kO] at hx
  by_cases kP : isT kd ∧ ph = 0
  · rw [if_pos kP] at hx; cases hx
  rw [if_neg kP] at hx
  by_cases k2_q : kd < 2
  · rw [if_pos k2_q] at hx
    cases hx
    exact (mjo_k ops out o a h2_q).2
  rw [if_neg k2_q] at hx
  by_cases k36_q : kd = 3 ∨ kd = 6
  · rw [if_pos k36_q] at hx
    by_cases k44_q : ¬ isSg T p 44
    · rw [if_pos k44_q] at hx; cases hx
    rw [if_neg k44_q] at hx; cases hx
  rw [if_neg k36_q] at hx
  by_cases kcl : ¬ isSg T p (if kd = 5 then 93 else 41)
  · rw [if_pos kcl] at hx; cases hx
  rw [if_neg kcl] at hx; cases hx
theorem ck_stp {T : Int → Int} {lk : Bool} {X X' : zCf} (h1_q : ckF X.2.1) (h2_q : ckO X.2.2.1) (hx : stpF T lk X = Sum.inl X') : ckF X'.2.1 ∧ ckO X'.2.2.1 := by
  obtain ⟨p, F, out, o, d⟩ := X
  rcases F with _ | ⟨⟨kd, ph, bg, pr, ops⟩, R⟩
  · cases hx
  · rcases d with _ | _
    · exact ck_opr (fun q => tNv_b q) h1_q h2_q hx
    · exact ck_gon h1_q h2_q hx
theorem ck_rch {T : Int → Int} {lk : Bool} : ∀ {k : Nat} {X Y : zCf}, rch T lk k X Y → ckF X.2.1 → ckO X.2.2.1 → ckF Y.2.1 ∧ ckO Y.2.2.1
  | 0, X, Y, h, h1_q, h2_q => by
    have e : X = Y := h
    rw [← e]; exact ⟨h1_q, h2_q⟩
  | k + 1, X, Y, ⟨Z, e, h⟩, h1_q, h2_q => by
    have q := ck_stp h1_q h2_q e
    exact ck_rch h q.1 q.2
/-- all that a formula writes is of the machine's kinds -/
theorem ck_fin {T : Int → Int} {lk : Bool} {k : Nat} {X Y Z : zCf} (h : rch T lk k X Y) (h1_q : ckF X.2.1) (h2_q : ckO X.2.2.1) (hz : stpF T lk Y = Sum.inr (Sum.inl Z)) : ckO Z.2.2.1 := by
  have q := ck_rch h h1_q h2_q
  obtain ⟨p, F, out, o, d⟩ := Y
  rcases F with _ | ⟨⟨kd, ph, bg, pr, ops⟩, R⟩
  · cases hz; exact q.2
  · rcases d with _ | _
    · exfalso
      have hx : oprF T lk p kd ph bg pr ops R out o = Sum.inr (Sum.inl Z) := hz
      unfold oprF opn at hx
      (repeat' split at hx) <;> cases hx
    · exact ck_end q.1 q.2 hz
