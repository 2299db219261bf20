/-! NAMES to the base 27 and to the base 256 -/
theorem zshrL_k {x y : Int} (k : Nat) (hx : 0 ≤ x ∧ x ≤ 9223372036854775807) (hy : y = (k : Int)) (hk : k ≤ 63) : zshrL x y = x / 2 ^ k := by
  have hs : (((Int32.ofInt y).toInt64 &&& 63).toBitVec.smod 64).toNat = k := by
    subst hy
    obtain ⟨j, rfl⟩ : ∃ j : Fin 64, k = j.val := ⟨⟨k, by omega⟩, rfl⟩
    revert j
    decide +kernel
  have e : (Int64.ofInt x).toInt = x := by
    show (BitVec.ofInt 64 x).toInt = x
    rw [BitVec.toInt_ofInt, w64_b, w64_id (by omega) (by omega)]
  have q : (Int64.ofInt x >>> ((Int32.ofInt y).toInt64 &&& 63)).toInt = (Int64.ofInt x).toInt >>> k := by
    rw [← hs]
    exact BitVec.toInt_sshiftRight ..
  unfold zshrL
  rw [q, e, Int.shiftRight_eq_div_pow]
  simp
def letU (U : Int → Int) (j : Nat) : Prop := ∀ i : Nat, i < j → 97 ≤ U i ∧ U i ≤ 122
theorem letU_s {U : Int → Int} {j : Nat} (h : letU U (j + 1)) : letU U j := fun i hi => h i (by omega)
theorem wv256_b {U : Int → Int} : ∀ j : Nat, letU U j → 0 ≤ wv256 U 0 j ∧ wv256 U 0 j < 256 ^ j
  | 0, _ => ⟨Int.le_refl _, by show (0 : Int) < 256 ^ 0; decide⟩
  | j + 1, h => by
    have ih := wv256_b j (letU_s h)
    have q := h j (by omega)
    have e : wv256 U 0 (j + 1) = 256 * wv256 U 0 j + U (0 + j) := rfl
    rw [e, Int.zero_add, Int.pow_succ]
    omega
theorem wv256_p {U : Int → Int} {j : Nat} (h : letU U (j + 1)) : wv256 U 0 (j + 1) / 256 = wv256 U 0 j ∧ wv256 U 0 (j + 1) % 256 = U j ∧ 0 < wv256 U 0 (j + 1) := by
  have b := wv256_b j (letU_s h)
  have q := h j (by omega)
  have e : wv256 U 0 (j + 1) = 256 * wv256 U 0 j + U (0 + j) := rfl
  rw [Int.zero_add] at e
  rw [e]
  omega
theorem wv256_62 {U : Int → Int} {j : Nat} (h : letU U j) (hj : j ≤ 6) : 0 ≤ wv256 U 0 j ∧ wv256 U 0 j ≤ 9223372036854775807 := by
  have b := wv256_b j h
  have e : j = 0 ∨ j = 1 ∨ j = 2 ∨ j = 3 ∨ j = 4 ∨ j = 5 ∨ j = 6 := by omega
  rcases e with rfl | rfl | rfl | rfl | rfl | rfl | rfl <;> omega
theorem wv256_d {U : Int → Int} {j : Nat} (h : letU U j) : ∀ d : Nat, d ≤ j → wv256 U 0 j / 2 ^ (8 * d) = wv256 U 0 (j - d)
  | 0, _ => by simp
  | d + 1, hd => by
    have ih := wv256_d h d (by omega)
    have e : (2 : Int) ^ (8 * (d + 1)) = 2 ^ (8 * d) * 256 := by rw [show 8 * (d + 1) = 8 * d + 8 by omega, Int.pow_add]; rfl
    rw [e, ← Int.ediv_ediv_of_nonneg (Int.le_of_lt (Int.pow_pos (by decide))), ih, show j - d = (j - (d + 1)) + 1 by omega]
    exact (wv256_p (fun i hi => h i (by omega))).1
theorem wv27_p {U : Int → Int} {j : Nat} (h : letU U (j + 1)) : wv27 U 0 (j + 1) / 27 = wv27 U 0 j ∧ wv27 U 0 (j + 1) % 27 = U j - 96 := by
  have q := h j (by omega)
  have e : wv27 U 0 (j + 1) = 27 * wv27 U 0 j + (U (0 + j) - 97 + 1) := rfl
  rw [Int.zero_add] at e
  rw [e]
  omega
theorem zlet_s (x : Int) (i : Nat) : zlet x (i + 1) = zlet x i / 27 := rfl
theorem zlet_m (x : Int) : ∀ i : Nat, zlet (x * 27) (i + 1) = zlet x i
  | 0 => by
    show x * 27 / 27 = x
    omega
  | i + 1 => by rw [zlet_s, zlet_m x i]; rfl
theorem zlet_f (v : Int) : ∀ (d i : Nat), zlet (fil27 v d) (d + i) = zlet v i
  | 0, i => by rw [Nat.zero_add]; rfl
  | d + 1, i => by
    rw [show fil27 v (d + 1) = fil27 v d * 27 from rfl, show d + 1 + i = (d + i) + 1 by omega, zlet_m]
    exact zlet_f v d i
theorem zlet_g (v : Int) : ∀ (i d : Nat), zlet (fil27 v (d + i)) i = fil27 v d
  | 0, d => rfl
  | i + 1, d => by
    rw [show d + (i + 1) = (d + i) + 1 by omega, show fil27 v (d + i + 1) = fil27 v (d + i) * 27 from rfl, zlet_m]
    exact zlet_g v i d
theorem wv27_d {U : Int → Int} {j : Nat} (h : letU U j) : ∀ d : Nat, d ≤ j → zlet (wv27 U 0 j) d = wv27 U 0 (j - d)
  | 0, _ => rfl
  | d + 1, hd => by
    rw [zlet_s, wv27_d h d (by omega), show j - d = (j - (d + 1)) + 1 by omega]
    exact (wv27_p (fun i hi => h i (by omega))).1
/-- letter k of a NAME -/
theorem let_27 {U : Int → Int} {j k : Nat} (h : letU U j) (hj : j ≤ 6) (hk : k < 6) : zlet (fil27 (wv27 U 0 j) (6 - j)) (5 - k) % 27 = if k < j then U k - 96 else 0 := by
  by_cases q : k < j
  · rw [if_pos q, show 5 - k = (6 - j) + (j - 1 - k) by omega, zlet_f, wv27_d h _ (by omega), show j - (j - 1 - k) = k + 1 by omega]
    exact (wv27_p (fun i hi => h i (by omega))).2
  · rw [if_neg q, show 6 - j = (k - j + 1) + (5 - k) by omega, zlet_g]
    show fil27 (wv27 U 0 j) (k - j) * 27 % 27 = 0
    omega
theorem nmR_U {v u : Int} (h : nmR v u) : ∃ (U : Int → Int) (j : Nat), (1 ≤ j ∧ j ≤ 6) ∧ letU U j ∧ v = fil27 (wv27 U 0 j) (6 - j) ∧ u = wv256 U 0 j := by
  obtain ⟨U, j, h1_q, h2_q, h3_q, h4_q⟩ := h
  exact ⟨U, j, h1_q, fun i hi => by have q := h2_q i hi; rw [Int.zero_add] at q; exact q, h3_q, h4_q⟩
theorem wv256_i {U V : Int → Int} : ∀ (j i : Nat), letU U j → letU V i → wv256 U 0 j = wv256 V 0 i → j = i ∧ ∀ k : Nat, k < j → U k = V k
  | 0, 0, _, _, _ => ⟨rfl, fun k hk => absurd hk (Nat.not_lt_zero _)⟩
  | 0, i + 1, _, hv, e => by
    have q := (wv256_p hv).2.2
    rw [← e] at q
    exact absurd q (Int.lt_irrefl _)
  | j + 1, 0, hu, _, e => by
    have q := (wv256_p hu).2.2
    rw [e] at q
    exact absurd q (Int.lt_irrefl _)
  | j + 1, i + 1, hu, hv, e => by
    have a := wv256_p hu
    have b := wv256_p hv
    rw [← e] at b
    obtain ⟨r1_q, r2_q⟩ := wv256_i j i (letU_s hu) (letU_s hv) (a.1.symm.trans b.1)
    refine ⟨by omega, fun k hk => ?_⟩
    by_cases ek : k = j
    · rw [ek, ← a.2.1, b.2.1, r1_q]
    · exact r2_q k (by omega)
theorem wv27_c {U V : Int → Int} : ∀ j : Nat, (∀ k : Nat, k < j → U k = V k) → wv27 U 0 j = wv27 V 0 j
  | 0, _ => rfl
  | j + 1, h => by
    show 27 * wv27 U 0 j + (U (0 + j) - 97 + 1) = 27 * wv27 V 0 j + (V (0 + j) - 97 + 1)
    rw [wv27_c j (fun k hk => h k (by omega)), Int.zero_add, h j (by omega)]
theorem wv256_c {U V : Int → Int} : ∀ j : Nat, (∀ k : Nat, k < j → U k = V k) → wv256 U 0 j = wv256 V 0 j
  | 0, _ => rfl
  | j + 1, h => by
    show 256 * wv256 U 0 j + U (0 + j) = 256 * wv256 V 0 j + V (0 + j)
    rw [wv256_c j (fun k hk => h k (by omega)), Int.zero_add, h j (by omega)]
/-- the two names of a NAME tell each other -/
theorem nmR_i {v u v2_q u2_q : Int} (h1_q : nmR v u) (h2_q : nmR v2_q u2_q) : v = v2_q ↔ u = u2_q := by
  obtain ⟨U, j, a1_q, a2_q, a3_q, a4_q⟩ := nmR_U h1_q
  obtain ⟨V, i, b1_q, b2_q, b3_q, b4_q⟩ := nmR_U h2_q
  constructor
  · intro e
    have l : ∀ k : Nat, k < 6 → (if k < j then U k - 96 else 0) = (if k < i then V k - 96 else 0) := fun k hk => by
      rw [← let_27 a2_q a1_q.2 hk, ← let_27 b2_q b1_q.2 hk, ← a3_q, ← b3_q, e]
    have eij : j = i := by
      by_cases c1_q : j < i
      · have q := l j (by omega)
        have q2_q := b2_q j c1_q
        rw [if_neg (by omega), if_pos c1_q] at q
        omega
      · by_cases c2_q : i < j
        · have q := l i (by omega)
          have q2_q := a2_q i c2_q
          rw [if_pos c2_q, if_neg (by omega)] at q
          omega
        · omega
    subst eij
    rw [a4_q, b4_q]
    exact wv256_c j (fun k hk => by
      have q := l k (by omega)
      rw [if_pos hk, if_pos hk] at q
      omega)
  · intro e
    obtain ⟨r1_q, r2_q⟩ := wv256_i j i a2_q b2_q (a4_q.symm.trans (e.trans b4_q))
    subst r1_q
    rw [a3_q, b3_q, wv27_c j r2_q]
