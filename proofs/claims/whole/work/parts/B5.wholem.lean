/-! who it was: the model's -/
theorem zshr_k {x y : Int} (k : Nat) (hx : -2147483648 ≤ x ∧ x ≤ 2147483647) (hy : y = (k : Int)) (hk : k ≤ 31) : zshr x y = x / 2 ^ k := by
  have hs : ((Int32.ofInt y &&& 31).toBitVec.smod 32).toNat = k := by
    subst hy
    obtain ⟨j, rfl⟩ : ∃ j : Fin 32, k = j.val := ⟨⟨k, by omega⟩, rfl⟩
    revert j
    decide +kernel
  unfold zshr
  rw [pk_shr _ _ k hs, Int.shiftRight_eq_div_pow, nI_toIntI hx]
  simp
def cntN (b : Int) : Nat → Int
  | 0 => 0
  | j + 1 => cntN b j + (if zshr b j % 2 = 1 then 1 else 0)
theorem cnt_ml (sg : Int → Int) (b s : Int) : ∀ j : Nat, mlH sg b s j + mlL sg b s j = cntN b j
  | 0 => rfl
  | j + 1 => by
    have ih := cnt_ml sg b s j
    rw [show mlH sg b s (j + 1) = if zshr b j % 2 = 1 then mlH sg b s j + zshr (sg j) s % 2 else mlH sg b s j from rfl, show mlL sg b s (j + 1) = if zshr b j % 2 = 1 then mlL sg b s j + (1 - zshr (sg j) s % 2) else mlL sg b s j from rfl, show cntN b (j + 1) = cntN b j + (if zshr b j % 2 = 1 then 1 else 0) from rfl]
    split <;> omega
theorem cnt_b : ∀ j : Fin 7, ∀ b : Fin 64, b.val < 2 ^ j.val → cntN ((b.val : Nat) : Int) j.val = bcn ((b.val : Nat) : Int) := by decide +kernel
theorem cnt_bcn {n : Nat} {b : Int} (hn : n ≤ 6) (hb : 0 ≤ b ∧ b < 2 ^ n) : cntN b n = bcn b := by
  have hp : (2 : Int) ^ n = ((2 ^ n : Nat) : Int) := by simp
  have hle : 2 ^ n ≤ 2 ^ 6 := Nat.pow_le_pow_right (by decide) (by omega)
  have r := cnt_b ⟨n, by omega⟩ ⟨b.toNat, by omega⟩ (by show b.toNat < 2 ^ n; omega)
  dsimp only at r
  rw [show ((b.toNat : Nat) : Int) = b by omega] at r
  exact r
theorem sfit_le {sg sS sH : Int → Int} {m : Int} {r : Nat} (h : sfit sg sS sH m r = false) : ∀ d : Nat, sfit sg sS sH m (r + d) = false
  | 0 => h
  | d + 1 => by rw [show r + (d + 1) = r + d + 1 by omega, sfit_s, sfit_le h d]; rfl
/-- the telling sign below s, and how many are left by it, as the model finds them -/
def tlM (sg : Int → Int) (n : Nat) (b : Int) : Nat → Int × Int
  | 0 => (-1, 100000000)
  | s + 1 => (telN sg n b s, mlQ sg n b (telN sg n b s))
theorem tlM_s {sg : Int → Int} {n : Nat} {b : Int} (hn : n ≤ 6) (s : Nat) : tlM sg n b (s + 1) = if mlQ sg n b s < (tlM sg n b s).2 then ((s : Int), mlQ sg n b s) else tlM sg n b s := by
  cases s with
  | zero =>
    have b1_q := ml_b sg b 0 n
    have e : mlQ sg n b ((0 : Nat) : Int) = max (mlH sg b 0 n) (mlL sg b 0 n) := rfl
    rw [show (tlM sg n b 0).2 = 100000000 from rfl, if_pos (by rw [e]; omega)]
    rfl
  | succ s =>
    show (telN sg n b (s + 1), mlQ sg n b (telN sg n b (s + 1))) = if mlQ sg n b ((s + 1 : Nat) : Int) < mlQ sg n b (telN sg n b s) then (((s + 1 : Nat) : Int), mlQ sg n b ((s + 1 : Nat) : Int)) else (telN sg n b s, mlQ sg n b (telN sg n b s))
    rw [show telN sg n b (s + 1) = if mlQ sg n b (s + 1) < mlQ sg n b (telN sg n b s) then ((s + 1 : Nat) : Int) else telN sg n b s from rfl]
    by_cases h : mlQ sg n b (s + 1) < mlQ sg n b (telN sg n b s)
    · rw [if_pos h]; exact (if_pos h).symm
    · rw [if_neg h]; exact (if_neg h).symm
theorem tlM_b {sg : Int → Int} {n : Nat} {b : Int} (hn : n ≤ 6) : ∀ s : Nat, s ≤ 6 → (-1 ≤ (tlM sg n b s).1 ∧ (tlM sg n b s).1 ≤ 6) ∧ (0 ≤ (tlM sg n b s).2 ∧ (tlM sg n b s).2 ≤ 100000000)
  | 0, _ => ⟨⟨Int.le_refl _, by show (-1 : Int) ≤ 6; omega⟩, by show (0 : Int) ≤ 100000000; omega, Int.le_refl _⟩
  | s + 1, h => by
    have ih := tlM_b (sg := sg) (b := b) hn s (by omega)
    have b1_q := ml_b sg b s n
    have e : mlQ sg n b (s : Int) = max (mlH sg b s n) (mlL sg b s n) := if_neg (by omega)
    rw [tlM_s hn]
    split
    · dsimp only; rw [e]; omega
    · exact ih
