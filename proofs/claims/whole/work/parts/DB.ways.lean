/-! THE WAYS: what the turns come to; the class's and the model's -/
theorem fwD_e {w : Int → Int} : ∀ (c : Nat) (f t : Int), c ≤ 7 → 0 ≤ f → f < 7 → 0 ≤ t → t < 7 → fwD w c (f * 7 + t) = if f = t ∧ t < (c : Int) then 0 else w (f * 7 + t)
  | 0, f, t, _, _, _, _, _ => (if_neg (by omega)).symm
  | c + 1, f, t, h, h1_q, h2_q, h3_q, h4_q => by
    have ih := fwD_e (w := w) c f t (by omega) h1_q h2_q h3_q h4_q
    show ups (fwD w c) ((c : Int) * 7 + c) 0 (f * 7 + t) = _
    by_cases e : f = (c : Int) ∧ t = (c : Int)
    · rw [e.1, e.2, ups_s, if_pos (by omega)]
    · rw [ups_n (by omega), ih]
      by_cases q : f = t ∧ t < (c : Int)
      · rw [if_pos q, if_pos (by omega)]
      · rw [if_neg q, if_neg (by omega)]
theorem fwT_e {w : Int → Int} {b f : Int} (hb : 0 ≤ b ∧ b < 7) (hf : 0 ≤ f ∧ f < 7) (z : w (b * 7 + b) = 0) : ∀ (t : Nat) (x y : Int), t ≤ 7 → 0 ≤ x → x < 7 → 0 ≤ y → y < 7 → fwT w b f t (x * 7 + y) = if x = f ∧ y < (t : Int) then min (w (x * 7 + y)) (w (x * 7 + b) + w (b * 7 + y)) else w (x * 7 + y)
  | 0, x, y, _, _, _, _, _ => (if_neg (by omega)).symm
  | t + 1, x, y, h, h1_q, h2_q, h3_q, h4_q => by
    have ih := fun x y a b c d => fwT_e (w := w) hb hf z t x y (by omega) a b c d
    have e1_q : fwT w b f t (f * 7 + b) = w (f * 7 + b) := by
      rw [ih f b (by omega) (by omega) (by omega) (by omega)]
      by_cases q : f = f ∧ b < (t : Int)
      · rw [if_pos q, z]; omega
      · rw [if_neg q]
    have e2_q : fwT w b f t (b * 7 + t) = w (b * 7 + t) := by
      rw [ih b t (by omega) (by omega) (by omega) (by omega), if_neg (by omega)]
    have e3_q : fwT w b f t (f * 7 + t) = w (f * 7 + t) := by
      rw [ih f t (by omega) (by omega) (by omega) (by omega), if_neg (by omega)]
    show fwu (fwT w b f t) b f t (x * 7 + y) = _
    unfold fwu
    rw [e1_q, e2_q, e3_q]
    by_cases e : x = f ∧ y = (t : Int)
    · rw [e.1, e.2, if_pos (c := f = f ∧ (t : Int) < ((t + 1 : Nat) : Int)) (by omega)]
      by_cases q : w (f * 7 + b) + w (b * 7 + t) < w (f * 7 + t)
      · rw [if_pos q, ups_s]; omega
      · rw [if_neg q, e3_q]; omega
    · have r : (if w (f * 7 + b) + w (b * 7 + t) < w (f * 7 + t) then ups (fwT w b f t) (f * 7 + t) (w (f * 7 + b) + w (b * 7 + t)) else fwT w b f t) (x * 7 + y) = fwT w b f t (x * 7 + y) := by
        by_cases q : w (f * 7 + b) + w (b * 7 + t) < w (f * 7 + t)
        · rw [if_pos q, ups_n (by omega)]
        · rw [if_neg q]
      rw [r, ih x y h1_q h2_q h3_q h4_q]
      by_cases q : x = f ∧ y < (t : Int)
      · rw [if_pos q, if_pos (by omega)]
      · rw [if_neg q, if_neg (by omega)]
theorem fwF_e {w : Int → Int} {b : Int} {n : Nat} (hb : 0 ≤ b ∧ b < 7) (hn : n ≤ 7) (z : w (b * 7 + b) = 0) : ∀ (f : Nat) (x y : Int), f ≤ 7 → 0 ≤ x → x < 7 → 0 ≤ y → y < 7 → fwF w b n f (x * 7 + y) = if x < (f : Int) ∧ y < (n : Int) then min (w (x * 7 + y)) (w (x * 7 + b) + w (b * 7 + y)) else w (x * 7 + y)
  | 0, x, y, _, _, _, _, _ => (if_neg (by omega)).symm
  | f + 1, x, y, h, h1_q, h2_q, h3_q, h4_q => by
    have ih := fun x y a b c d => fwF_e (w := w) hb hn z f x y (by omega) a b c d
    have z2_q : fwF w b n f (b * 7 + b) = 0 := by
      rw [ih b b (by omega) (by omega) (by omega) (by omega), z]
      by_cases q : b < (f : Int) ∧ b < (n : Int)
      · rw [if_pos q]; omega
      · rw [if_neg q]
    show fwT (fwF w b n f) b f n (x * 7 + y) = _
    rw [fwT_e hb (f := (f : Int)) (by omega) z2_q n x y hn h1_q h2_q h3_q h4_q]
    by_cases q : x = (f : Int) ∧ y < (n : Int)
    · rw [if_pos q, if_pos (by omega), ih x y h1_q h2_q h3_q h4_q, ih x b h1_q h2_q (by omega) (by omega), ih b y (by omega) (by omega) h3_q h4_q, if_neg (by omega), if_neg (by omega)]
      by_cases u : b < (f : Int) ∧ y < (n : Int)
      · rw [if_pos u, z]; omega
      · rw [if_neg u]
    · rw [if_neg q, ih x y h1_q h2_q h3_q h4_q]
      by_cases u : x < (f : Int) ∧ y < (n : Int)
      · rw [if_pos u, if_pos (by omega)]
      · rw [if_neg u, if_neg (by omega)]
/-- one turn -/
theorem fwG_e {w : Int → Int} {b : Int} {n : Nat} (hb : 0 ≤ b ∧ b < 7) (hn : n ≤ 7) (z : w (b * 7 + b) = 0) {x y : Int} (hx : 0 ≤ x ∧ x < n) (hy : 0 ≤ y ∧ y < n) : fwF w b n n (x * 7 + y) = min (w (x * 7 + y)) (w (x * 7 + b) + w (b * 7 + y)) := by
  rw [fwF_e hb hn z n x y hn (by omega) (by omega) (by omega) (by omega), if_pos (by omega)]
/-- what is so of the ways behind k turns; A: the RAILS -/
def fwI (A : Int → Int) (n : Nat) (B : Int) (k : Nat) (w : Int → Int) : Prop := ∀ f t : Int, 0 ≤ f → f < n → 0 ≤ t → t < n → (0 ≤ w (f * 7 + t) ∧ w (f * 7 + t) ≤ 1000000) ∧ (w (f * 7 + t) = 0 ↔ f = t) ∧ (w (f * 7 + t) < 1000000 → w (f * 7 + t) ≤ B) ∧ (∀ j : Int, 0 ≤ j → j < k → w (f * 7 + t) ≤ w (f * 7 + j) + w (j * 7 + t)) ∧ (0 < A (f * 7 + t) → w (f * 7 + t) ≤ A (f * 7 + t)) ∧ (f ≠ t → w (f * 7 + t) < 1000000 → ∃ g : Int, (0 ≤ g ∧ g < n) ∧ 0 < A (g * 7 + t) ∧ w (f * 7 + g) + A (g * 7 + t) ≤ w (f * 7 + t))
theorem fwI_0 {A w : Int → Int} {n : Nat} (hn : n ≤ 7) (hA : ∀ k, 0 ≤ k → k < 49 → 0 ≤ A k ∧ A k ≤ 9) (hw : ∀ k, 0 ≤ k → k < 49 → w k = if A k = 0 then 1000000 else A k) : fwI A n 9 0 (fwD w n) := fun f t h1_q h2_q h3_q h4_q => by
  have e := fwD_e (w := w) n f t hn (by omega) (by omega) (by omega) (by omega)
  have a := hA (f * 7 + t) (by omega) (by omega)
  have q := hw (f * 7 + t) (by omega) (by omega)
  have ef := fwD_e (w := w) n f f hn (by omega) (by omega) (by omega) (by omega)
  rw [if_pos (by omega)] at ef
  by_cases c : f = t
  · rw [if_pos (by omega)] at e
    rw [e]
    exact ⟨by omega, ⟨fun _ => c, fun _ => rfl⟩, fun _ => by omega, fun j u v => absurd v (by omega), fun u => by omega, fun u => absurd c u⟩
  · rw [if_neg (by omega), q] at e
    rw [e]
    refine ⟨by omega, ⟨fun u => by omega, fun u => absurd u c⟩, fun u => by omega, fun j u v => absurd v (by omega), fun u => by omega, fun _ u => ⟨f, by omega, by omega, ?_⟩⟩
    rw [ef]
    omega
theorem fwI_s {A w : Int → Int} {n : Nat} {B : Int} {k : Nat} (hn : n ≤ 7) (hk : k < n) (hB : 0 ≤ B) (h : fwI A n B k w) : fwI A n (2 * B) (k + 1) (fwF w k n n) := fun f t h1_q h2_q h3_q h4_q => by
  have z : w ((k : Int) * 7 + k) = 0 := (h k k (by omega) (by omega) (by omega) (by omega)).2.1.mpr rfl
  have e : ∀ x y : Int, 0 ≤ x → x < n → 0 ≤ y → y < n → fwF w k n n (x * 7 + y) = min (w (x * 7 + y)) (w (x * 7 + k) + w ((k : Int) * 7 + y)) := fun x y a b c d => fwG_e (by omega) hn z ⟨a, b⟩ ⟨c, d⟩
  obtain ⟨a1_q, a2_q, a3_q, a4_q, a5_q, -⟩ := h f t h1_q h2_q h3_q h4_q
  obtain ⟨b1_q, b2_q, b3_q, b4_q, b5_q, -⟩ := h f k h1_q h2_q (by omega) (by omega)
  obtain ⟨c1_q, c2_q, c3_q, c4_q, c5_q, -⟩ := h k t (by omega) (by omega) h3_q h4_q
  rw [e f t h1_q h2_q h3_q h4_q]
  refine ⟨by omega, ⟨fun u => ?_, fun u => ?_⟩, fun u => by omega, fun j u v => ?_, fun u => by have := a5_q u; omega, fun u v => ?_⟩
  · by_cases q : f = t
    · exact q
    · exfalso
      have q1_q : w (f * 7 + t) ≠ 0 := fun r => q (a2_q.mp r)
      have q2_q : w (f * 7 + k) = 0 := by omega
      have q3_q : w ((k : Int) * 7 + t) = 0 := by omega
      exact q ((b2_q.mp q2_q).trans (c2_q.mp q3_q))
  · have q1_q := a2_q.mpr u
    omega
  · obtain ⟨d1_q, d2_q, d3_q, d4_q, d5_q, -⟩ := h f j h1_q h2_q u (by omega)
    obtain ⟨g1_q, g2_q, g3_q, g4_q, g5_q, -⟩ := h j t u (by omega) h3_q h4_q
    rw [e f j h1_q h2_q u (by omega), e j t u (by omega) h3_q h4_q]
    by_cases q : j = (k : Int)
    · rw [q] at d1_q g1_q ⊢
      omega
    · have t1_q := a4_q j u (by omega)
      have t2_q := c4_q j u (by omega)
      have t3_q := b4_q j u (by omega)
      have p1_q := (h k j (by omega) (by omega) u (by omega)).1
      have p2_q := (h j k u (by omega) (by omega) (by omega)).1
      omega
  · by_cases q : w (f * 7 + k) + w ((k : Int) * 7 + t) < w (f * 7 + t)
    · have q0_q : (k : Int) ≠ t := fun r => by
        rw [← r] at q a1_q
        omega
      obtain ⟨g, g1_q, g2_q, g3_q⟩ := (h k t (by omega) (by omega) h3_q h4_q).2.2.2.2.2 q0_q (by omega)
      refine ⟨g, g1_q, g2_q, ?_⟩
      rw [e f g h1_q h2_q g1_q.1 g1_q.2]
      omega
    · obtain ⟨g, g1_q, g2_q, g3_q⟩ := (h f t h1_q h2_q h3_q h4_q).2.2.2.2.2 u (by omega)
      refine ⟨g, g1_q, g2_q, ?_⟩
      rw [e f g h1_q h2_q g1_q.1 g1_q.2]
      omega
theorem fwI_B {A w : Int → Int} {n : Nat} (hn : n ≤ 7) (h : fwI A n 9 0 w) : ∀ k : Nat, k ≤ n → fwI A n (9 * 2 ^ k) k (fwB w n k)
  | 0, _ => h
  | k + 1, hk => by
    have ih := fwI_B hn h k (by omega)
    have p : (0 : Int) ≤ 9 * 2 ^ k := Int.mul_nonneg (by omega) (Int.le_of_lt (Int.pow_pos (by omega)))
    have q := fwI_s hn (by omega) p ih
    have e : (2 : Int) * (9 * 2 ^ k) = 9 * 2 ^ (k + 1) := by rw [Int.pow_succ]; omega
    rw [e] at q
    exact q
theorem pow7 {k : Nat} (h : k ≤ 7) : (9 : Int) * 2 ^ k ≤ 1152 := by
  have e : k = 0 ∨ k = 1 ∨ k = 2 ∨ k = 3 ∨ k = 4 ∨ k = 5 ∨ k = 6 ∨ k = 7 := by omega
  rcases e with rfl | rfl | rfl | rfl | rfl | rfl | rfl | rfl <;> decide
/-- how many of the first n are so -/
def cntF (d : Int → Int) (v : Int) : Nat → Nat
  | 0 => 0
  | n + 1 => cntF d v n + (if d n ≤ v then 1 else 0)
theorem cnt_le (d : Int → Int) (v : Int) : ∀ n : Nat, cntF d v n ≤ n
  | 0 => Nat.le_refl 0
  | n + 1 => by
    have := cnt_le d v n
    show cntF d v n + (if d n ≤ v then 1 else 0) ≤ n + 1
    by_cases q : d n ≤ v
    · rw [if_pos q]; omega
    · rw [if_neg q]; omega
theorem cnt_mo {d : Int → Int} {v u : Int} (h : v ≤ u) : ∀ n : Nat, cntF d v n ≤ cntF d u n
  | 0 => Nat.le_refl 0
  | n + 1 => by
    have := cnt_mo (d := d) h n
    show cntF d v n + (if d n ≤ v then 1 else 0) ≤ cntF d u n + (if d n ≤ u then 1 else 0)
    by_cases q : d n ≤ v
    · rw [if_pos q, if_pos (by omega)]; omega
    · rw [if_neg q]; omega
theorem cnt_st {d : Int → Int} {v u : Int} (h : v ≤ u) {x : Int} : ∀ n : Nat, 0 ≤ x → x < n → v < d x → d x ≤ u → cntF d v n + 1 ≤ cntF d u n
  | 0, _, h2_q, _, _ => by omega
  | n + 1, h1_q, h2_q, h3_q, h4_q => by
    show cntF d v n + (if d n ≤ v then 1 else 0) + 1 ≤ cntF d u n + (if d n ≤ u then 1 else 0)
    by_cases e : x = (n : Int)
    · rw [e] at h3_q h4_q
      have := cnt_mo (d := d) h n
      rw [if_neg (by omega), if_pos h4_q]; omega
    · have := cnt_st h n h1_q (by omega) h3_q h4_q
      by_cases q : d n ≤ v
      · rw [if_pos q, if_pos (by omega)]; omega
      · rw [if_neg q]; omega
/-- behind all turns no way is longer than 54 -/
theorem fwI_54 {A w : Int → Int} {n : Nat} {B : Int} (hn : n ≤ 7) (hA : ∀ k, 0 ≤ k → k < 49 → 0 ≤ A k ∧ A k ≤ 9) (h : fwI A n B n w) {f t : Int} (h1_q : 0 ≤ f) (h2_q : f < n) (h3_q : 0 ≤ t) (h4_q : t < n) (h5_q : w (f * 7 + t) < 1000000) : w (f * 7 + t) ≤ 54 := by
  have step : ∀ (g : Nat) (v x : Int), 0 ≤ v → 0 ≤ x → x < n → w (f * 7 + x) < 1000000 → v < w (f * 7 + x) → w (f * 7 + x) ≤ (g : Int) → ∃ y : Int, 0 ≤ y ∧ y < n ∧ v < w (f * 7 + y) ∧ w (f * 7 + y) ≤ v + 9 := by
    intro g
    induction g with
    | zero => intro v x a1_q a2_q a3_q a4_q a5_q a6_q; exfalso; omega
    | succ g ih =>
      intro v x a1_q a2_q a3_q a4_q a5_q a6_q
      by_cases q : w (f * 7 + x) ≤ v + 9
      · exact ⟨x, a2_q, a3_q, a5_q, q⟩
      · obtain ⟨b1_q, b2_q, b3_q, b4_q, b5_q, b6_q⟩ := h f x h1_q h2_q a2_q a3_q
        have ne : f ≠ x := fun r => by
          have := b2_q.mpr r
          omega
        obtain ⟨y, y1_q, y2_q, y3_q⟩ := (h f x h1_q h2_q a2_q a3_q).2.2.2.2.2 ne a4_q
        have c4_q := b4_q y y1_q.1 y1_q.2
        have c5_q := (h y x y1_q.1 y1_q.2 a2_q a3_q).2.2.2.2.1 y2_q
        have a9_q := hA (y * 7 + x) (by omega) (by omega)
        exact ih v y a1_q y1_q.1 y1_q.2 (by omega) (by omega) (by omega)
  by_cases hc : w (f * 7 + t) ≤ 54
  · exact hc
  · exfalso
    have lad : ∀ j : Nat, j ≤ 6 → j + 1 ≤ cntF (fun x => w (f * 7 + x)) (9 * (j : Int)) n := by
      intro j
      induction j with
      | zero =>
        intro _
        have z := (h f f h1_q h2_q h1_q h2_q).2.1.mpr rfl
        have := cnt_st (d := fun x => w (f * 7 + x)) (v := -1) (u := 9 * ((0 : Nat) : Int)) (by omega) n h1_q h2_q (by show -1 < w (f * 7 + f); omega) (by show w (f * 7 + f) ≤ _; omega)
        omega
      | succ j ih =>
        intro hj
        have i1_q := ih (by omega)
        obtain ⟨y, y1_q, y2_q, y3_q, y4_q⟩ := step (w (f * 7 + t)).toNat (9 * (j : Int)) t (by omega) h3_q h4_q h5_q (by omega) (by omega)
        have := cnt_st (d := fun x => w (f * 7 + x)) (v := 9 * (j : Int)) (u := 9 * ((j + 1 : Nat) : Int)) (by omega) n y1_q y2_q y3_q (by show w (f * 7 + y) ≤ _; omega)
        omega
    have l6_q := lad 6 (by omega)
    have := cnt_st (d := fun x => w (f * 7 + x)) (v := 9 * ((6 : Nat) : Int)) (u := w (f * 7 + t)) (by omega) n h3_q h4_q (by show _ < w (f * 7 + t); omega) (Int.le_refl _)
    have := cnt_le (fun x => w (f * 7 + x)) (w (f * 7 + t)) n
    omega
/-- the model's: over all 7, with another end -/
def fwk (B : Int) (w : Int → Int) : Prop := ∀ k, 0 ≤ k → k < 49 → 0 ≤ w k ∧ w k ≤ B
theorem fwu_k {B : Int} {w : Int → Int} {b f t : Int} (h : fwk B w) (hb : 0 ≤ b ∧ b < 7) (hf : 0 ≤ f ∧ f < 7) (ht : 0 ≤ t ∧ t < 7) : fwk B (fwu w b f t) := by
  have q1_q := h (f * 7 + b) (by omega) (by omega)
  have q2_q := h (b * 7 + t) (by omega) (by omega)
  have q3_q := h (f * 7 + t) (by omega) (by omega)
  unfold fwu
  by_cases c : w (f * 7 + b) + w (b * 7 + t) < w (f * 7 + t)
  · rw [if_pos c]
    intro k h0_q h1_q
    by_cases e : k = f * 7 + t
    · rw [e, ups_s]; omega
    · rw [ups_n e]; exact h k h0_q h1_q
  · rw [if_neg c]; exact h
theorem fwT_k {B : Int} {w : Int → Int} {b f : Int} (h : fwk B w) (hb : 0 ≤ b ∧ b < 7) (hf : 0 ≤ f ∧ f < 7) : ∀ t : Nat, t ≤ 7 → fwk B (fwT w b f t)
  | 0, _ => h
  | t + 1, ht => fwu_k (fwT_k h hb hf t (by omega)) hb hf ⟨by omega, by omega⟩
theorem fwF_k {B : Int} {w : Int → Int} {b : Int} {n : Nat} (h : fwk B w) (hb : 0 ≤ b ∧ b < 7) (hn : n ≤ 7) : ∀ f : Nat, f ≤ 7 → fwk B (fwF w b n f)
  | 0, _ => h
  | f + 1, hf => fwT_k (fwF_k h hb hn f (by omega)) hb ⟨by omega, by omega⟩ n hn
theorem fwB_k {B : Int} {w : Int → Int} {n : Nat} (h : fwk B w) (hn : n ≤ 7) : ∀ b : Nat, b ≤ 7 → fwk B (fwB w n b)
  | 0, _ => h
  | b + 1, hb => fwF_k (fwB_k h hn b (by omega)) ⟨by omega, by omega⟩ hn n hn
/-- no RAIL joins one that is not told -/
def fwM (n : Nat) (w m : Int → Int) : Prop := (∀ f t : Int, 0 ≤ f → f < n → 0 ≤ t → t < n → m (f * 7 + t) = wayM (w (f * 7 + t))) ∧ (∀ f b : Int, 0 ≤ f → f < n → n ≤ b → b < 7 → m (f * 7 + b) = 100000000) ∧ (∀ b : Int, 0 ≤ b → b < 7 → m (b * 7 + b) = 0) ∧ fwk 100000000 m
theorem fwM_s {A w m : Int → Int} {n : Nat} {B : Int} {k : Nat} (hn : n ≤ 7) (hk : k < n) (hB : 0 ≤ B ∧ B ≤ 2000) (h : fwI A n B k w) (hm : fwM n w m) : fwM n (fwF w k n n) (fwF m k 7 7) := by
  obtain ⟨m1_q, m2_q, m3_q, m4_q⟩ := hm
  have z : w ((k : Int) * 7 + k) = 0 := (h k k (by omega) (by omega) (by omega) (by omega)).2.1.mpr rfl
  have zm := m3_q k (by omega) (by omega)
  have e : ∀ x y : Int, 0 ≤ x → x < 7 → 0 ≤ y → y < 7 → fwF m k 7 7 (x * 7 + y) = min (m (x * 7 + y)) (m (x * 7 + k) + m ((k : Int) * 7 + y)) := fun x y a b c d => fwG_e (by omega) (Nat.le_refl 7) zm ⟨a, by omega⟩ ⟨c, by omega⟩
  refine ⟨fun f t h1_q h2_q h3_q h4_q => ?_, fun f b h1_q h2_q h3_q h4_q => ?_, fun b h1_q h2_q => ?_, fwF_k m4_q (by omega) (Nat.le_refl 7) 7 (Nat.le_refl 7)⟩
  · rw [e f t h1_q (by omega) h3_q (by omega), fwG_e (by omega) hn z ⟨h1_q, h2_q⟩ ⟨h3_q, h4_q⟩, m1_q f t h1_q h2_q h3_q h4_q, m1_q f k h1_q h2_q (by omega) (by omega), m1_q k t (by omega) (by omega) h3_q h4_q]
    obtain ⟨a1_q, a2_q, a3_q, -⟩ := h f t h1_q h2_q h3_q h4_q
    obtain ⟨b1_q, b2_q, b3_q, -⟩ := h f k h1_q h2_q (by omega) (by omega)
    obtain ⟨c1_q, c2_q, c3_q, -⟩ := h k t (by omega) (by omega) h3_q h4_q
    unfold wayM
    omega
  · have q1_q := m2_q f b h1_q h2_q h3_q h4_q
    have q2_q := m2_q k b (by omega) (by omega) h3_q h4_q
    have q3_q := m4_q (f * 7 + k) (by omega) (by omega)
    rw [e f b h1_q (by omega) (by omega) h4_q, q1_q, q2_q]
    omega
  · have q1_q := m3_q b h1_q h2_q
    have q2_q := m4_q (b * 7 + k) (by omega) (by omega)
    have q3_q := m4_q ((k : Int) * 7 + b) (by omega) (by omega)
    rw [e b b h1_q h2_q h1_q h2_q, q1_q]
    omega
/-- a turn over one that is not told -/
theorem fwM_o {w m : Int → Int} {n : Nat} {k : Nat} (hk : n ≤ k) (hk7_q : k < 7) (hm : fwM n w m) : fwM n w (fwF m k 7 7) := by
  obtain ⟨m1_q, m2_q, m3_q, m4_q⟩ := hm
  have zm := m3_q k (by omega) (by omega)
  have e : ∀ x y : Int, 0 ≤ x → x < 7 → 0 ≤ y → y < 7 → fwF m k 7 7 (x * 7 + y) = min (m (x * 7 + y)) (m (x * 7 + k) + m ((k : Int) * 7 + y)) := fun x y a b c d => fwG_e (by omega) (Nat.le_refl 7) zm ⟨a, by omega⟩ ⟨c, by omega⟩
  refine ⟨fun f t h1_q h2_q h3_q h4_q => ?_, fun f b h1_q h2_q h3_q h4_q => ?_, fun b h1_q h2_q => ?_, fwF_k m4_q (by omega) (Nat.le_refl 7) 7 (Nat.le_refl 7)⟩
  · have q1_q := m2_q f k h1_q h2_q (by omega) (by omega)
    have q2_q := m4_q ((k : Int) * 7 + t) (by omega) (by omega)
    have q3_q := m4_q (f * 7 + t) (by omega) (by omega)
    rw [e f t h1_q (by omega) h3_q (by omega), ← m1_q f t h1_q h2_q h3_q h4_q, q1_q]
    omega
  · have q1_q := m2_q f b h1_q h2_q h3_q h4_q
    have q2_q := m2_q f k h1_q h2_q (by omega) (by omega)
    have q3_q := m4_q ((k : Int) * 7 + b) (by omega) (by omega)
    rw [e f b h1_q (by omega) (by omega) h4_q, q1_q, q2_q]
    omega
  · have q1_q := m3_q b h1_q h2_q
    have q2_q := m4_q (b * 7 + k) (by omega) (by omega)
    have q3_q := m4_q ((k : Int) * 7 + b) (by omega) (by omega)
    rw [e b b h1_q h2_q h1_q h2_q, q1_q]
    omega
theorem fwM_B {A w m : Int → Int} {n : Nat} (hn : n ≤ 7) (h : fwI A n 9 0 w) (hm : fwM n w m) : ∀ k : Nat, k ≤ n → fwM n (fwB w n k) (fwB m 7 k)
  | 0, _ => hm
  | k + 1, hk => by
    have p : (0 : Int) ≤ 9 * 2 ^ k := Int.mul_nonneg (by omega) (Int.le_of_lt (Int.pow_pos (by omega)))
    have p7_q := pow7 (k := k) (by omega)
    exact fwM_s hn (by omega) ⟨p, by omega⟩ (fwI_B hn h k (by omega)) (fwM_B hn h hm k (by omega))
theorem fwM_7 {w m : Int → Int} {n : Nat} (hm : fwM n w (fwB m 7 n)) : ∀ j : Nat, n + j ≤ 7 → fwM n w (fwB m 7 (n + j))
  | 0, _ => hm
  | j + 1, hj => fwM_o (k := n + j) (by omega) (by omega) (fwM_7 hm j (by omega))
/-- what the model begins with -/
def msI (r : Int → Int) (k : Int) : Int := if k / 7 = k % 7 then 0 else if 0 < r k then r k else 100000000
theorem msI_k {r : Int → Int} (hA : ∀ k, 0 ≤ k → k < 49 → 0 ≤ r k ∧ r k ≤ 9) : fwk 100000000 (msI r) := fun k h1_q h2_q => by
  have := hA k h1_q h2_q
  unfold msI
  omega
theorem fwM_0 {A w r : Int → Int} {n : Nat} (hn : n ≤ 7) (hA : ∀ k, 0 ≤ k → k < 49 → 0 ≤ A k ∧ A k ≤ 9) (hr : ∀ k, 0 ≤ k → k < 49 → r k = A k) (hw : ∀ k, 0 ≤ k → k < 49 → w k = if A k = 0 then 1000000 else A k) (hx : ∀ f t : Int, 0 ≤ f → f < 7 → 0 ≤ t → t < 7 → ((n : Int) ≤ f ∨ (n : Int) ≤ t) → A (f * 7 + t) = 0) : fwM n (fwD w n) (msI r) := by
  have i : ∀ f t : Int, 0 ≤ f → f < 7 → 0 ≤ t → t < 7 → msI r (f * 7 + t) = if f = t then 0 else if 0 < A (f * 7 + t) then A (f * 7 + t) else 100000000 := fun f t h1_q h2_q h3_q h4_q => by
    unfold msI
    rw [hr (f * 7 + t) (by omega) (by omega), show (f * 7 + t) / 7 = f by omega, show (f * 7 + t) % 7 = t by omega]
  refine ⟨fun f t h1_q h2_q h3_q h4_q => ?_, fun f b h1_q h2_q h3_q h4_q => ?_, fun b h1_q h2_q => ?_, msI_k (fun k h1_q h2_q => by rw [hr k h1_q h2_q]; exact hA k h1_q h2_q)⟩
  · have a := hA (f * 7 + t) (by omega) (by omega)
    have q := hw (f * 7 + t) (by omega) (by omega)
    rw [i f t (by omega) (by omega) (by omega) (by omega), fwD_e n f t hn (by omega) (by omega) (by omega) (by omega), q]
    unfold wayM
    omega
  · have a := hx f b (by omega) (by omega) (by omega) (by omega) (Or.inr h3_q)
    rw [i f b (by omega) (by omega) (by omega) (by omega), a]
    omega
  · rw [i b b h1_q h2_q h1_q h2_q, if_pos rfl]
/-- all: the model's ways are the class's -/
theorem ways_M {A w r : Int → Int} {n : Nat} (hn : n ≤ 7) (hA : ∀ k, 0 ≤ k → k < 49 → 0 ≤ A k ∧ A k ≤ 9) (hr : ∀ k, 0 ≤ k → k < 49 → r k = A k) (hw : ∀ k, 0 ≤ k → k < 49 → w k = if A k = 0 then 1000000 else A k) (hx : ∀ f t : Int, 0 ≤ f → f < 7 → 0 ≤ t → t < 7 → ((n : Int) ≤ f ∨ (n : Int) ≤ t) → A (f * 7 + t) = 0) {f t : Int} (h1_q : 0 ≤ f) (h2_q : f < n) (h3_q : 0 ≤ t) (h4_q : t < n) : fwB (msI r) 7 7 (f * 7 + t) = wayM (fwB (fwD w n) n n (f * 7 + t)) := by
  have q := fwM_7 (fwM_B hn (fwI_0 hn hA hw) (fwM_0 hn hA hr hw hx) n (Nat.le_refl n)) (7 - n) (by omega)
  rw [show n + (7 - n) = 7 by omega] at q
  exact q.1 f t h1_q h2_q h3_q h4_q
/-- and what is so of them -/
theorem ways_W {A w : Int → Int} {n : Nat} (hn : n ≤ 7) (hA : ∀ k, 0 ≤ k → k < 49 → 0 ≤ A k ∧ A k ≤ 9) (hw : ∀ k, 0 ≤ k → k < 49 → w k = if A k = 0 then 1000000 else A k) : (∀ f t : Int, 0 ≤ f → f < n → 0 ≤ t → t < n → 0 ≤ fwB (fwD w n) n n (f * 7 + t) ∧ (fwB (fwD w n) n n (f * 7 + t) ≤ 54 ∨ fwB (fwD w n) n n (f * 7 + t) = 1000000) ∧ (fwB (fwD w n) n n (f * 7 + t) = 0 ↔ f = t)) ∧ ∀ f g t : Int, 0 ≤ f → f < n → 0 ≤ g → g < n → 0 ≤ t → t < n → fwB (fwD w n) n n (f * 7 + t) ≤ fwB (fwD w n) n n (f * 7 + g) + fwB (fwD w n) n n (g * 7 + t) := by
  have q := fwI_B hn (fwI_0 hn hA hw) n (Nat.le_refl n)
  refine ⟨fun f t h1_q h2_q h3_q h4_q => ?_, fun f g t h1_q h2_q h3_q h4_q h5_q h6_q => ?_⟩
  · obtain ⟨a1_q, a2_q, a3_q, _⟩ := q f t h1_q h2_q h3_q h4_q
    refine ⟨a1_q.1, ?_, a2_q⟩
    by_cases c : fwB (fwD w n) n n (f * 7 + t) < 1000000
    · exact Or.inl (fwI_54 hn hA q h1_q h2_q h3_q h4_q c)
    · exact Or.inr (by omega)
  · exact (q f t h1_q h2_q h5_q h6_q).2.2.2.1 g h3_q h4_q
