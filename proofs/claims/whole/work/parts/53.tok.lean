/-! THE TEXT AS TOKENS: T is the tape (-1 outside), p where the last token ended -/
def skp (T : Int → Int) : Nat → Int → Int
  | 0, p => p
  | g + 1, p => if T p = 10 ∨ T p = 32 then skp T g (p + 1) else p
def run (lo hi : Int) (T : Int → Int) : Nat → Int → Nat
  | 0, _ => 0
  | g + 1, q => if lo ≤ T q ∧ T q ≤ hi then run lo hi T g (q + 1) + 1 else 0
def alnm (c : Int) : Prop := (97 ≤ c ∧ c ≤ 122) ∨ (48 ≤ c ∧ c ≤ 57)
def tQ (T : Int → Int) (p : Int) : Int := skp T 1600 p
def tS (T : Int → Int) (p : Int) : Prop := ((97 ≤ T (p - 1) ∧ T (p - 1) ≤ 122) ∨ (48 ≤ T (p - 1) ∧ T (p - 1) ≤ 57)) ∧ tQ T p = p
def tK0 (T : Int → Int) (q : Int) : Int := if 97 ≤ T q ∧ T q ≤ 122 then (if run 97 122 T 7 q = 7 then 4 else 1) else (if run 48 57 T 5 q = 5 then 4 else 2)
noncomputable def tK (T : Int → Int) (p : Int) : Int := @ite Int (T (tQ T p) = -1) (Classical.propDecidable _) 0 (@ite Int (¬ alnm (T (tQ T p))) (Classical.propDecidable _) 3 (@ite Int (tS T p) (Classical.propDecidable _) 4 (tK0 T (tQ T p))))
noncomputable def tN (T : Int → Int) (p : Int) : Int := if tK T p = 0 then tQ T p else if tK T p = 3 then tQ T p + 1 else if 97 ≤ T (tQ T p) ∧ T (tQ T p) ≤ 122 then tQ T p + (run 97 122 T 6 (tQ T p) : Int) else tQ T p + (run 48 57 T 4 (tQ T p) : Int)
noncomputable def tP (T : Int → Int) (p : Int) : Int := @ite Int (tK T p = 4 ∧ ¬ tS T p) (Classical.propDecidable _) (if 97 ≤ T (tQ T p) ∧ T (tQ T p) ≤ 122 then tQ T p + 6 else tQ T p + 4) (tQ T p)
def wv27 (T : Int → Int) (q : Int) : Nat → Int
  | 0 => 0
  | j + 1 => 27 * wv27 T q j + (T (q + j) - 97 + 1)
def nv10 (T : Int → Int) (q : Int) : Nat → Int
  | 0 => 0
  | j + 1 => 10 * nv10 T q j + (T (q + j) - 48)
def fil27 (v : Int) : Nat → Int
  | 0 => v
  | j + 1 => fil27 v j * 27
def tNm (T : Int → Int) (p : Int) : Int := fil27 (wv27 T (tQ T p) (run 97 122 T 6 (tQ T p))) (6 - run 97 122 T 6 (tQ T p))
def tNv (T : Int → Int) (p : Int) : Int := nv10 T (tQ T p) (run 48 57 T 4 (tQ T p))
/-- the own words' numbers -/
def OWNL : List Int := ["county", "quota", "pays", "guard", "rail", "to", "weeks", "man", "at", "signs", "jumps", "likes", "post", "names", "purse", "week", "far", "if", "or", "and", "not", "all", "min", "max"].map (fun s => fil27 (s.toList.foldl (fun v c => 27 * v + ((c.toNat : Int) - 97 + 1)) 0) (6 - s.length))
def ownR (k : Int) : Int := OWNL.getD k.toNat 0
def ixF (f : Int → Int) (v : Int) : Nat → Int → Int
  | 0, _ => -1
  | g + 1, k => if f k = v then k else ixF f v g (k + 1)
def ownI (v : Int) : Int := ixF ownR v 24 0
noncomputable def tO (T : Int → Int) (p : Int) : Int := if tK T p = 1 then ownI (tNm T p) else -1
/-- the scanner has read the token behind p -/
def SCp (σ : zv_H) (T : Int → Int) (p : Int) : Prop := (tK T p ≠ 4 → σ 53 2 = tN T p) ∧ σ 53 3 = tK T p ∧ σ 53 4 = tQ T p ∧ σ 53 5 = tP T p ∧ σ 53 6 = tO T p ∧ (tK T p = 1 → σ 53 7 = tNm T p) ∧ (tK T p = 2 → σ 53 8 = tNv T p) ∧ (tK T p = 3 → σ 53 8 = T (tQ T p))
/-- of a tape: what it holds -/
def TT (T : Int → Int) (n : Int) : Prop := (0 ≤ n ∧ n ≤ 1600) ∧ (∀ k, 0 ≤ k → k < n → 0 ≤ T k ∧ T k ≤ 255) ∧ ∀ k, ¬ (0 ≤ k ∧ k < n) → T k = -1
theorem skp_b {T : Int → Int} : ∀ (g : Nat) (p : Int), p ≤ skp T g p ∧ skp T g p ≤ p + g
  | 0, p => ⟨Int.le_refl _, by show p ≤ p + ((0 : Nat) : Int); omega⟩
  | g + 1, p => by
    have ih := skp_b (T := T) g (p + 1)
    rw [show skp T (g + 1) p = if T p = 10 ∨ T p = 32 then skp T g (p + 1) else p from rfl]
    split <;> omega
theorem skp_s {T : Int → Int} : ∀ (g : Nat) (p : Int), (T (p + g) ≠ 10 ∧ T (p + g) ≠ 32) → T (skp T g p) ≠ 10 ∧ T (skp T g p) ≠ 32
  | 0, p, h => by rw [show p + ((0 : Nat) : Int) = p by omega] at h; exact h
  | g + 1, p, h => by
    rw [show skp T (g + 1) p = if T p = 10 ∨ T p = 32 then skp T g (p + 1) else p from rfl]
    split
    · exact skp_s g (p + 1) (by rw [show p + 1 + (g : Int) = p + ((g + 1 : Nat) : Int) by omega]; exact h)
    · rename_i q; exact ⟨fun e => q (Or.inl e), fun e => q (Or.inr e)⟩
theorem skp_i {T : Int → Int} : ∀ (g : Nat) (p i : Int), p ≤ i → i < skp T g p → T i = 10 ∨ T i = 32
  | 0, p, i, h1, h2 => by rw [show skp T 0 p = p from rfl] at h2; omega
  | g + 1, p, i, h1, h2 => by
    rw [show skp T (g + 1) p = if T p = 10 ∨ T p = 32 then skp T g (p + 1) else p from rfl] at h2
    split at h2
    · by_cases e : i = p
      · rw [e]; assumption
      · exact skp_i g (p + 1) i (by omega) h2
    · omega
/-- where blanks end is told by what stands there -/
theorem skp_u {T : Int → Int} {g : Nat} {p q : Int} (h0 : p ≤ q) (h1 : ∀ i, p ≤ i → i < q → T i = 10 ∨ T i = 32) (h2 : ¬ (T q = 10 ∨ T q = 32)) (h3 : T (p + g) ≠ 10 ∧ T (p + g) ≠ 32) : skp T g p = q := by
  have a := skp_b (T := T) g p
  have b := skp_s (T := T) g p h3
  have c := skp_i (T := T) g p
  by_cases e1 : skp T g p < q
  · have := h1 _ a.1 e1; rcases this with r | r; exact absurd r b.1; exact absurd r b.2
  · by_cases e2 : q < skp T g p
    · exact absurd (c q h0 e2) h2
    · omega
theorem run_b {lo hi : Int} {T : Int → Int} : ∀ (g : Nat) (q : Int), run lo hi T g q ≤ g
  | 0, _ => Nat.le_refl _
  | g + 1, q => by
    have ih := run_b (lo := lo) (hi := hi) (T := T) g (q + 1)
    rw [show run lo hi T (g + 1) q = if lo ≤ T q ∧ T q ≤ hi then run lo hi T g (q + 1) + 1 else 0 from rfl]
    split <;> omega
theorem run_i {lo hi : Int} {T : Int → Int} : ∀ (g : Nat) (q : Int) (i : Nat), i < run lo hi T g q → lo ≤ T (q + i) ∧ T (q + i) ≤ hi
  | 0, _, i, h => absurd h (Nat.not_lt_zero _)
  | g + 1, q, i, h => by
    rw [show run lo hi T (g + 1) q = if lo ≤ T q ∧ T q ≤ hi then run lo hi T g (q + 1) + 1 else 0 from rfl] at h
    split at h
    · cases i with
      | zero => rw [show q + ((0 : Nat) : Int) = q by omega]; assumption
      | succ i =>
        have := run_i (lo := lo) (hi := hi) (T := T) g (q + 1) i (by omega)
        rw [show q + ((i + 1 : Nat) : Int) = q + 1 + (i : Int) by omega]
        exact this
    · exact absurd h (Nat.not_lt_zero _)
theorem run_u {lo hi : Int} {T : Int → Int} : ∀ (g : Nat) (q : Int) (j : Nat), j ≤ g → (∀ i : Nat, i < j → lo ≤ T (q + i) ∧ T (q + i) ≤ hi) → (j = g ∨ ¬ (lo ≤ T (q + j) ∧ T (q + j) ≤ hi)) → run lo hi T g q = j
  | 0, _, j, h, _, _ => by have : j = 0 := by omega
                           rw [this]; rfl
  | g + 1, q, j, h, h1, h2 => by
    rw [show run lo hi T (g + 1) q = if lo ≤ T q ∧ T q ≤ hi then run lo hi T g (q + 1) + 1 else 0 from rfl]
    cases j with
    | zero =>
      rw [show q + ((0 : Nat) : Int) = q by omega] at h2
      rw [if_neg (by rcases h2 with e | e; omega; exact e)]
    | succ j =>
      have h3 := h1 0 (by omega)
      rw [show q + ((0 : Nat) : Int) = q by omega] at h3
      rw [if_pos h3, run_u g (q + 1) j (by omega) (fun i hi => by have := h1 (i + 1) (by omega); rw [show q + 1 + (i : Int) = q + ((i + 1 : Nat) : Int) by omega]; exact this) (by rw [show q + 1 + (j : Int) = q + ((j + 1 : Nat) : Int) by omega]; rcases h2 with e | e; exact Or.inl (by omega); exact Or.inr e)]
theorem tA_53 (σ : zv_H) (k v : Int) : tA (zup σ 53 k v) = tA σ := by
  funext i
  unfold tA
  rw [zup_n (by omega), zup_n (by omega)]
theorem up_53 (σ : zv_H) (k v : Int) : zup σ 53 k v 2 1 = σ 2 1 := zup_n (by omega)
theorem zup_zup (σ : zv_H) (a k v u : Int) : zup (zup σ a k v) a k u = zup σ a k u := by
  funext x j
  unfold zup
  split <;> rfl
theorem k_oct {Γ : zv_M} {L : Int} {σ : zv_H} {T : Int → Int} {k : Int} (hT : tA σ = T) (ht : σ 2 1 ≤ 1600) : zC Γ m_Tape_octetAt 0 0 0 (GM L) [zR 2, zI k] σ (zFn (some (zI (T k))) (GM L) σ) := by
  have h := c_Tape_octetAt (Γ := Γ) (L := L) (k := k) ht
  rw [show (if 0 ≤ k ∧ k < σ 2 1 then σ 3 k else -1) = tA σ k from rfl, hT] at h
  exact h
theorem zidx_F {σ : zv_H} {a v : Int} {f : Int → Int} : ∀ (g : Nat) (k : Int), (∀ i, k ≤ i → i < k + g → σ a i = f i) → zidx σ a v g k = ixF f v g k
  | 0, _, _ => rfl
  | g + 1, k, h => by
    rw [zidx_s, show ixF f v (g + 1) k = if f k = v then k else ixF f v g (k + 1) from rfl, h k (by omega) (by omega), zidx_F g (k + 1) (fun i h1 h2 => h i (by omega) (by omega))]
set_option maxHeartbeats 4000000 in
set_option maxRecDepth 20000 in
theorem c_Scanner_isBlank {Γ : zv_M} {L : Int} {v : Int} {σ : zv_H} : zC Γ m_Scanner_isBlank 0 0 0 (GM L) [zI v] σ (zFn (some (zI (if (v = 10 ∨ v = 32) then 1 else 0))) (GM L) σ) := by
  refine zC_of (ls0 := [_]) zm_Scanner_isBlank (by decide) rfl (Nat.le_of_ble_eq_true rfl) ?_
  generalize hQ : (zFn (some (zI (if (v = 10 ∨ v = 32) then 1 else 0))) (GM L) σ) = Q
  refine ziload_n (k := 0) rfl rfl ?_
  refine zbipush (k := 1) rfl rfl ?_
  refine zicmp_eq (k := 2) rfl rfl (fun c1 => ?_) (fun c1 => ?_)
  · skip
    refine ziconst (k := 6) rfl (by decide) ?_
    refine zgoto (k := 7) rfl rfl ?_
    refine zzreturn (k := 9) rfl rfl (by first | exact Or.inl rfl | exact Or.inr rfl | omega) rfl ?_
    rw [← hQ]
    exact ⟨by first | (rw [if_pos (by omega)]; done) | (rw [if_neg (by omega)]; done) | (exfalso; omega), rfl, rfl⟩
  · skip
    refine ziload_n (k := 3) rfl rfl ?_
    refine zbipush (k := 4) rfl rfl ?_
    refine zicmp_ne (k := 5) rfl rfl (fun c2 => ?_) (fun c2 => ?_)
    · skip
      refine ziconst (k := 8) rfl (by decide) ?_
      refine zzreturn (k := 9) rfl rfl (by first | exact Or.inl rfl | exact Or.inr rfl | omega) rfl ?_
      rw [← hQ]
      exact ⟨by first | (rw [if_pos (by omega)]; done) | (rw [if_neg (by omega)]; done) | (exfalso; omega), rfl, rfl⟩
    · skip
      refine ziconst (k := 6) rfl (by decide) ?_
      refine zgoto (k := 7) rfl rfl ?_
      refine zzreturn (k := 9) rfl rfl (by first | exact Or.inl rfl | exact Or.inr rfl | omega) rfl ?_
      rw [← hQ]
      exact ⟨by first | (rw [if_pos (by omega)]; done) | (rw [if_neg (by omega)]; done) | (exfalso; omega), rfl, rfl⟩
set_option maxHeartbeats 4000000 in
set_option maxRecDepth 20000 in
theorem c_Scanner_isLetter {Γ : zv_M} {L : Int} {v : Int} {σ : zv_H} : zC Γ m_Scanner_isLetter 0 0 0 (GM L) [zI v] σ (zFn (some (zI (if (97 ≤ v ∧ v ≤ 122) then 1 else 0))) (GM L) σ) := by
  refine zC_of (ls0 := [_]) zm_Scanner_isLetter (by decide) rfl (Nat.le_of_ble_eq_true rfl) ?_
  generalize hQ : (zFn (some (zI (if (97 ≤ v ∧ v ≤ 122) then 1 else 0))) (GM L) σ) = Q
  refine ziload_n (k := 0) rfl rfl ?_
  refine zbipush (k := 1) rfl rfl ?_
  refine zicmp_lt (k := 2) rfl rfl (fun c1 => ?_) (fun c1 => ?_)
  · skip
    refine ziconst (k := 8) rfl (by decide) ?_
    refine zzreturn (k := 9) rfl rfl (by first | exact Or.inl rfl | exact Or.inr rfl | omega) rfl ?_
    rw [← hQ]
    exact ⟨by first | (rw [if_pos (by omega)]; done) | (rw [if_neg (by omega)]; done) | (exfalso; omega), rfl, rfl⟩
  · skip
    refine ziload_n (k := 3) rfl rfl ?_
    refine zbipush (k := 4) rfl rfl ?_
    refine zicmp_gt (k := 5) rfl rfl (fun c2 => ?_) (fun c2 => ?_)
    · skip
      refine ziconst (k := 8) rfl (by decide) ?_
      refine zzreturn (k := 9) rfl rfl (by first | exact Or.inl rfl | exact Or.inr rfl | omega) rfl ?_
      rw [← hQ]
      exact ⟨by first | (rw [if_pos (by omega)]; done) | (rw [if_neg (by omega)]; done) | (exfalso; omega), rfl, rfl⟩
    · skip
      refine ziconst (k := 6) rfl (by decide) ?_
      refine zgoto (k := 7) rfl rfl ?_
      refine zzreturn (k := 9) rfl rfl (by first | exact Or.inl rfl | exact Or.inr rfl | omega) rfl ?_
      rw [← hQ]
      exact ⟨by first | (rw [if_pos (by omega)]; done) | (rw [if_neg (by omega)]; done) | (exfalso; omega), rfl, rfl⟩
set_option maxHeartbeats 4000000 in
set_option maxRecDepth 20000 in
theorem c_Scanner_isDigit {Γ : zv_M} {L : Int} {v : Int} {σ : zv_H} : zC Γ m_Scanner_isDigit 0 0 0 (GM L) [zI v] σ (zFn (some (zI (if (48 ≤ v ∧ v ≤ 57) then 1 else 0))) (GM L) σ) := by
  refine zC_of (ls0 := [_]) zm_Scanner_isDigit (by decide) rfl (Nat.le_of_ble_eq_true rfl) ?_
  generalize hQ : (zFn (some (zI (if (48 ≤ v ∧ v ≤ 57) then 1 else 0))) (GM L) σ) = Q
  refine ziload_n (k := 0) rfl rfl ?_
  refine zbipush (k := 1) rfl rfl ?_
  refine zicmp_lt (k := 2) rfl rfl (fun c1 => ?_) (fun c1 => ?_)
  · skip
    refine ziconst (k := 8) rfl (by decide) ?_
    refine zzreturn (k := 9) rfl rfl (by first | exact Or.inl rfl | exact Or.inr rfl | omega) rfl ?_
    rw [← hQ]
    exact ⟨by first | (rw [if_pos (by omega)]; done) | (rw [if_neg (by omega)]; done) | (exfalso; omega), rfl, rfl⟩
  · skip
    refine ziload_n (k := 3) rfl rfl ?_
    refine zbipush (k := 4) rfl rfl ?_
    refine zicmp_gt (k := 5) rfl rfl (fun c2 => ?_) (fun c2 => ?_)
    · skip
      refine ziconst (k := 8) rfl (by decide) ?_
      refine zzreturn (k := 9) rfl rfl (by first | exact Or.inl rfl | exact Or.inr rfl | omega) rfl ?_
      rw [← hQ]
      exact ⟨by first | (rw [if_pos (by omega)]; done) | (rw [if_neg (by omega)]; done) | (exfalso; omega), rfl, rfl⟩
    · skip
      refine ziconst (k := 6) rfl (by decide) ?_
      refine zgoto (k := 7) rfl rfl ?_
      refine zzreturn (k := 9) rfl rfl (by first | exact Or.inl rfl | exact Or.inr rfl | omega) rfl ?_
      rw [← hQ]
      exact ⟨by first | (rw [if_pos (by omega)]; done) | (rw [if_neg (by omega)]; done) | (exfalso; omega), rfl, rfl⟩
theorem fil_b {v : Int} {B : Int} (h : 0 ≤ v) : ∀ j : Nat, 0 ≤ fil27 v j
  | 0 => h
  | j + 1 => by
    have := fil_b (B := B) h j
    show 0 ≤ fil27 v j * 27
    omega
theorem wv_b {T : Int → Int} {q : Int} : ∀ j : Nat, (∀ i : Nat, i < j → 97 ≤ T (q + i) ∧ T (q + i) ≤ 122) → 0 ≤ wv27 T q j ∧ wv27 T q j < 27 ^ j
  | 0, _ => ⟨Int.le_refl _, by show (0 : Int) < 1; omega⟩
  | j + 1, h => by
    have ih := wv_b j (fun i hi => h i (by omega))
    have := h j (by omega)
    rw [show wv27 T q (j + 1) = 27 * wv27 T q j + (T (q + j) - 97 + 1) from rfl, show (27 : Int) ^ (j + 1) = 27 ^ j * 27 from Int.pow_succ _ _]
    omega
theorem fil_c {v : Int} {d : Nat} (h : 0 ≤ v ∧ v < 27 ^ d) : ∀ j : Nat, 0 ≤ fil27 v j ∧ fil27 v j < 27 ^ (d + j)
  | 0 => h
  | j + 1 => by
    have ih := fil_c h j
    rw [show fil27 v (j + 1) = fil27 v j * 27 from rfl, show d + (j + 1) = d + j + 1 by omega, show (27 : Int) ^ (d + j + 1) = 27 ^ (d + j) * 27 from Int.pow_succ _ _]
    omega
theorem p27_le {a b : Nat} (h : a ≤ b) : (27 : Int) ^ a ≤ 27 ^ b := by
  obtain ⟨c, rfl⟩ : ∃ c, b = a + c := ⟨b - a, by omega⟩
  rw [Int.pow_add]
  have h1 : (0 : Int) < 27 ^ a := Int.pow_pos (by omega)
  have h2 : (0 : Int) < 27 ^ c := Int.pow_pos (by omega)
  have := Int.mul_le_mul_of_nonneg_left (show (1 : Int) ≤ 27 ^ c by omega) (Int.le_of_lt h1)
  omega
set_option maxHeartbeats 4000000 in
set_option maxRecDepth 20000 in
theorem c_Scanner_filledUp {Γ : zv_M} {L : Int} {v : Int} {σ : zv_H} {n : Nat} (hn : n ≤ 6) (hv : 0 ≤ v ∧ v < 27 ^ n) : zC Γ m_Scanner_filledUp 0 0 0 (GM L) [zI v, zI n] σ (zFn (some (zI (fil27 v (6 - n)))) (GM L) σ) := by
  refine zC_of (ls0 := [_, _, _, _]) zm_Scanner_filledUp (by decide) rfl (Nat.le_of_ble_eq_true rfl) ?_
  generalize hQ : (zFn (some (zI (fil27 v (6 - n)))) (GM L) σ) = Q
  refine ziload_n (k := 0) rfl rfl ?_
  refine zistore_n (k := 1) (ls' := [_, _, _, _]) rfl (Nat.le_of_ble_eq_true rfl) rfl ?_
  refine ziload_n (k := 2) rfl rfl ?_
  refine zistore_n (k := 3) (ls' := [_, _, _, _]) rfl (Nat.le_of_ble_eq_true rfl) rfl ?_
  have lp4 : ∀ (g : Nat) (j : Nat), (6 - j) < g → (n + j ≤ 6) → zV Γ m_Scanner_filledUp 0 0 0 Q (GM L) (0, 0) 4 [some (zI v), some (zI n), some (zI (fil27 v j)), some (zI (n + j))] [] σ := by
    intro g
    induction g with
    | zero => intro j hg; exact absurd hg (Nat.not_lt_zero _)
    | succ g ih4 =>
      intro j hg hj
      have fc := fil_c hv j
      have pl := p27_le (a := n + j) (b := 6) hj
      rw [show (27 : Int) ^ 6 = 387420489 from rfl] at pl
      refine ziload_n (k := 4) rfl rfl ?_
      refine zbipush (k := 5) rfl rfl ?_
      refine zicmp_ge (k := 6) rfl rfl (fun c1 => ?_) (fun c1 => ?_)
      · skip
        refine ziload_n (k := 13) rfl rfl ?_
        refine zireturn (k := 14) rfl rfl rfl ?_
        rw [← hQ]
        exact ⟨by rw [show 6 - n = j by omega], rfl, rfl⟩
      · skip
        refine ziload_n (k := 7) rfl rfl ?_
        refine zbipush (k := 8) rfl rfl ?_
        refine zimulB (k := 9) rfl (by have pl2 := p27_le (a := n + (j + 1)) (b := 6) (by omega); rw [show (27 : Int) ^ 6 = 387420489 from rfl, show n + (j + 1) = n + j + 1 by omega, show (27 : Int) ^ (n + j + 1) = 27 ^ (n + j) * 27 from Int.pow_succ _ _] at pl2; omega) ?_
        refine zistore_n (k := 10) (ls' := [_, _, _, _]) rfl (Nat.le_of_ble_eq_true rfl) rfl ?_
        refine ziincB (k := 11) (ls' := [_, _, _, _]) rfl rfl (by decide) (by omega) rfl ?_
        refine zgoto (k := 12) rfl rfl ?_
        rw [show (n : Int) + (j : Int) + 1 = n + ((j + 1 : Nat) : Int) by omega]
        exact ih4 (j + 1) (by omega) (by omega)
  have r := lp4 7 0 (by omega) (by omega)
  rw [show (n : Int) + ((0 : Nat) : Int) = n by omega] at r
  exact r
