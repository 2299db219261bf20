/-! what stays so of configurations -/
def srt : List Int → Prop
  | [] => True
  | x :: r => (∀ y ∈ r, (x = 43 ∧ rnk y ≤ 3) ∨ (x ≠ 43 ∧ rnk y < rnk x)) ∧ srt r
theorem srt_l : ∀ {ops : List Int} {r : Int}, srt ops → 0 ≤ r → (∀ y ∈ ops, rnk y ≤ r) → (ops.length : Int) ≤ r + nNot ops
  | [], r, _, h0_q, _ => by show ((0 : Nat) : Int) ≤ r + 0; omega
  | x :: t, r, ⟨h1_q, h2_q⟩, h0_q, h3_q => by
    have hx := h3_q x List.mem_cons_self
    have hp := rnk_p x
    rw [List.length_cons, show nNot (x :: t) = (if x = 43 then 1 else 0) + nNot t from rfl]
    by_cases e : x = 43
    · have q := srt_l (r := r) h2_q h0_q (fun y hy => h3_q y (List.mem_cons_of_mem _ hy))
      rw [if_pos e]; omega
    · have q := srt_l (r := rnk x - 1) h2_q (by omega) (fun y hy => by
        rcases h1_q y hy with u | u
        · exact absurd u.1 e
        · have := u.2; omega)
      rw [if_neg e]; omega
theorem rnk_6 (y : Int) : rnk y ≤ 6 := by
  unfold rnk
  omega
theorem nNot_p : ∀ ops : List Int, 0 ≤ nNot ops
  | [] => Int.le_refl 0
  | x :: t => by
    have q := nNot_p t
    show 0 ≤ (if x = 43 then 1 else 0) + nNot t
    omega
theorem mjo_i {l : Int} : ∀ (ops : List Int) (out : List (Int × Int)) (o : Int), srt ops → srt (mjo l ops out o).1 ∧ (∀ y ∈ (mjo l ops out o).1, y ∈ ops ∧ rnk y < l) ∧ (mjo l ops out o).2.1.length + (mjo l ops out o).1.length = out.length + ops.length ∧ (mjo l ops out o).2.2 - nNot (mjo l ops out o).1 = o - nNot ops
  | [], out, o, _ => ⟨trivial, fun y hy => (by cases hy), rfl, rfl⟩
  | x :: t, out, o, ⟨h1_q, h2_q⟩ => by
    by_cases h : l ≤ rnk x
    · rw [mjo_p h]
      obtain ⟨a, b, c, d⟩ := mjo_i (l := l) t ((x, 0) :: out) (if x = 43 then o - 1 else o) h2_q
      refine ⟨a, fun y hy => ⟨List.mem_cons_of_mem _ (b y hy).1, (b y hy).2⟩, by rw [c, List.length_cons, List.length_cons]; omega, ?_⟩
      rw [d, show nNot (x :: t) = (if x = 43 then 1 else 0) + nNot t from rfl]
      omega
    · rw [mjo_n h]
      refine ⟨⟨h1_q, h2_q⟩, fun y hy => ⟨hy, ?_⟩, rfl, rfl⟩
      rcases List.mem_cons.mp hy with e | e
      · rw [e]; omega
      · rcases h1_q y e with u | u
        · have e43_q : rnk x = 3 := by rw [u.1]; rfl
          have := u.2; omega
        · have := u.2; omega
def frG : List zFr → Prop
  | [] => True
  | (kd, ph, _, _, ops) :: R => srt ops ∧ (ph = 0 → ∀ y ∈ ops, rnk y ≠ 4) ∧ (0 ≤ kd ∧ kd ≤ 6) ∧ (2 ≤ kd → R ≠ []) ∧ frG R
def nnF : List zFr → Int
  | [] => 0
  | (_, _, _, _, ops) :: R => nNot ops + nnF R
def lowB (R : List zFr) : Prop := ∀ f ∈ R, f.2.2.1 = false
theorem nnF_p : ∀ F : List zFr, 0 ≤ nnF F
  | [] => Int.le_refl 0
  | (_, _, _, _, ops) :: R => by
    have q := nNot_p ops
    have r := nnF_p R
    show 0 ≤ nNot ops + nnF R
    omega
theorem opsL_b : ∀ {F : List zFr}, frG F → opsL F ≤ 6 * (F.length : Int) + nnF F
  | [], _ => by show (0 : Int) ≤ 6 * ((0 : Nat) : Int) + 0; omega
  | (kd, ph, bg, pr, ops) :: R, ⟨h1_q, _, _, _, h5_q⟩ => by
    have q := srt_l (r := 6) h1_q (by omega) (fun y _ => rnk_6 y)
    have r := opsL_b h5_q
    rw [List.length_cons]
    show (ops.length : Int) + opsL R ≤ 6 * ((R.length + 1 : Nat) : Int) + (nNot ops + nnF R)
    omega
def cfI : zCf → Prop
  | (_, [], _, _, _) => False
  | (p, (kd, ph, bg, pr, ops) :: R, out, o, d) => frG ((kd, ph, bg, pr, ops) :: R) ∧ lowB R ∧ (R.length : Int) + nNot ops + nnF R = o ∧ o ≤ 7 ∧ (out.length : Int) + (ops.length : Int) + opsL R ≤ p ∧ (bg = true → d = false ∧ ∀ y ∈ ops, rnk y ≤ 3)
/-- what the contracts ask -/
theorem cfI_b {p kd ph pr o : Int} {bg d : Bool} {ops : List Int} {R : List zFr} {out : List (Int × Int)} (h : cfI (p, (kd, ph, bg, pr, ops) :: R, out, o, d)) : R.length ≤ 7 ∧ (0 ≤ o ∧ o ≤ 7) ∧ (out.length : Int) + (ops.length : Int) ≤ p ∧ ((ops.length : Int) + opsL R < 500) ∧ (0 ≤ kd ∧ kd ≤ 6) ∧ (2 ≤ kd → R ≠ []) := by
  obtain ⟨a, b, c, e, f, g⟩ := h
  have q := opsL_b a
  have n1_q := nNot_p ops
  have n2_q := nnF_p R
  have n3_q := opsL_0 R
  rw [List.length_cons, show opsL ((kd, ph, bg, pr, ops) :: R) = (ops.length : Int) + opsL R from rfl, show nnF ((kd, ph, bg, pr, ops) :: R) = nNot ops + nnF R from rfl] at q
  exact ⟨by omega, by omega, by omega, by omega, a.2.2.1, a.2.2.2.1⟩
theorem lowB_c {kd ph pr : Int} {ops : List Int} {R : List zFr} (h : lowB R) : lowB ((kd, ph, false, pr, ops) :: R) := fun f hf => (List.mem_cons.mp hf).elim (fun e => by rw [e]) (h f)
theorem srt_1 {x : Int} {ops : List Int} (h : srt ops) (hx : x ≠ 43) (hb : ∀ y ∈ ops, rnk y < rnk x) : srt (x :: ops) := ⟨fun y hy => Or.inr ⟨hx, hb y hy⟩, h⟩
theorem cfI_opn {T : Int → Int} {n p q kd k2_q ph pr pr2_q o : Int} {ops : List Int} {R : List zFr} {out : List (Int × Int)} {X : zCf} (hq : p < tN T q) (hqn : tN T q ≤ n) (hk : 2 ≤ k2_q ∧ k2_q ≤ 6) (h : cfI (p, (kd, ph, false, pr, ops) :: R, out, o, false)) (hx : opn T k2_q pr2_q q o ((kd, ph, false, pr, ops) :: R) out = Sum.inl X) : cfI X ∧ p < X.1 ∧ X.1 ≤ n := by
  unfold opn at hx
  by_cases h7_q : o = 7
  · rw [if_pos h7_q] at hx; cases hx
  · rw [if_neg h7_q] at hx
    cases hx
    obtain ⟨a, b, c, e, f, g⟩ := h
    have f2_q : (out.length : Int) + (([] : List Int).length : Int) + ((ops.length : Int) + opsL R) ≤ tN T q := by rw [List.length_nil]; omega
    have c2_q : (((kd, ph, false, pr, ops) :: R : List zFr).length : Int) + nNot [] + (nNot ops + nnF R) = o + 1 := by
      rw [List.length_cons, show nNot ([] : List Int) = 0 from rfl]; omega
    exact ⟨⟨⟨trivial, fun _ y hy => (by cases hy), by omega, fun _ q => (by cases q), a⟩, lowB_c b, c2_q, by omega, f2_q, fun _ => ⟨rfl, fun y hy => by cases hy⟩⟩, hq, hqn⟩
theorem cfI_opr {T : Int → Int} {n p kd ph pr o : Int} {lk bg : Bool} {ops : List Int} {R : List zFr} {out : List (Int × Int)} {X : zCf} (hT : TT T n) (hp : 0 ≤ p ∧ p ≤ n) (h : cfI (p, (kd, ph, bg, pr, ops) :: R, out, o, false)) (hx : oprF T lk p kd ph bg pr ops R out o = Sum.inl X) : cfI X ∧ p < X.1 ∧ X.1 ≤ n := by
  obtain ⟨a, b, c, e, f, g⟩ := h
  have hb : cfI (p, (kd, ph, false, pr, ops) :: R, out, o, false) := ⟨a, b, c, e, f, fun q => by cases q⟩
  have tc : (tK T p = 1 ∨ tK T p = 2 ∨ tK T p = 3) → p < tN T p ∧ tN T p ≤ n := fun q => by
    have := tN_c hT hp q
    exact ⟨this.1, this.2.2⟩
  unfold oprF at hx
  by_cases k4_q : tK T p = 4
  · rw [if_pos k4_q] at hx; cases hx
  rw [if_neg k4_q] at hx
  by_cases k20_q : (isT kd ∧ bg = true) ∧ isOw T p 20
  · rw [if_pos k20_q] at hx
    by_cases h7_q : o = 7
    · rw [if_pos h7_q] at hx; cases hx
    · rw [if_neg h7_q] at hx
      cases hx
      have t := tc (Or.inl k20_q.2.1)
      have g2_q := (g k20_q.1.2).2
      refine ⟨⟨⟨⟨fun y hy => Or.inl ⟨rfl, g2_q y hy⟩, a.1⟩, fun q y hy => ?_, a.2.2.1, a.2.2.2.1, a.2.2.2.2⟩, b, ?_, by omega, ?_, fun _ => ⟨rfl, fun y hy => ?_⟩⟩, t.1, t.2⟩
      · rcases List.mem_cons.mp hy with u | u
        · rw [u]; decide
        · exact a.2.1 q y u
      · rw [show nNot (43 :: ops) = 1 + nNot ops from rfl]; omega
      · rw [List.length_cons]; omega
      · rcases List.mem_cons.mp hy with u | u
        · rw [u]; decide
        · exact g2_q y u
  rw [if_neg k20_q] at hx
  by_cases k91_q : (isT kd ∧ bg = true) ∧ isSg T p 91
  · rw [if_pos k91_q] at hx
    have t := tc (Or.inr (Or.inr k91_q.2.1))
    exact cfI_opn t.1 t.2 (by omega) hb hx
  rw [if_neg k91_q] at hx
  by_cases k21_q : (isT kd ∧ bg = true) ∧ isOw T p 21
  · rw [if_pos k21_q] at hx
    cases hx
    have t := tc (Or.inl k21_q.2.1)
    exact ⟨⟨⟨a.1, fun q => absurd q (by decide), a.2.2.1, a.2.2.2.1, a.2.2.2.2⟩, b, c, e, by rw [List.length_cons]; omega, fun q => by cases q⟩, t.1, t.2⟩
  rw [if_neg k21_q] at hx
  by_cases k40_q : isSg T p 40
  · rw [if_pos k40_q] at hx
    have t := tc (Or.inr (Or.inr k40_q.1))
    exact cfI_opn t.1 t.2 (by omega) hb hx
  rw [if_neg k40_q] at hx
  by_cases kf : isOw T p 22 ∨ isOw T p 23 ∨ isOw T p 17
  · rw [if_pos kf] at hx
    have t := tc (Or.inl (by rcases kf with u | u | u; exact u.1; exact u.1; exact u.1))
    by_cases k5_q : tK T (tN T p) = 4
    · rw [if_pos k5_q] at hx; cases hx
    rw [if_neg k5_q] at hx
    by_cases k6_q : ¬ isSg T (tN T p) 40
    · rw [if_pos k6_q] at hx; cases hx
    rw [if_neg k6_q] at hx
    have k7_q : isSg T (tN T p) 40 := Classical.not_not.mp k6_q
    have t2_q := tN_c hT (p := tN T p) (by omega) (Or.inr (Or.inr k7_q.1))
    refine cfI_opn (by omega) t2_q.2.2 ?_ hb hx
    by_cases k8_q : isOw T p 17
    · rw [if_pos k8_q]; omega
    · rw [if_neg k8_q]; omega
  rw [if_neg kf] at hx
  by_cases ka : askS T p lk = -1
  · rw [if_pos ka] at hx; cases hx
  rw [if_neg ka] at hx
  cases hx
  have t := tc (by rcases askS_k ka with u | u; exact Or.inl u; exact Or.inr (Or.inl u))
  exact ⟨⟨⟨a.1, a.2.1, a.2.2.1, a.2.2.2.1, a.2.2.2.2⟩, b, c, e, by rw [List.length_cons]; omega, fun q => by cases q⟩, t.1, t.2⟩
