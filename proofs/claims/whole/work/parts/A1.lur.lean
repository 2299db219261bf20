/-! lured -/
theorem lik_p {Wm S : zv_H} {m t p c x : Int} : likF Wm (zup S 2 c x) m t p = likF Wm S m t p := by
  have e : envF (zup S 2 c x) m t p (dstF Wm (zup S 2 c x 4 m) t) = envF S m t p (dstF Wm (S 4 m) t) := by
    funext s
    unfold envF
    rw [zup_n (a' := 3) (by omega), zup_n (a' := 7) (by omega), zup_n (a' := 8) (by omega), zup_n (a' := 0) (by omega), zup_n (a' := 1) (by omega), zup_n (a' := 4) (by omega)]
  unfold likF
  rw [e]
theorem nxtL_s {Wm S : zv_H} {m : Int} (t : Nat) : nxtL Wm S m (t + 1) = if (t : Int) ≠ S 4 m ∧ dstF Wm (S 4 m) t ≠ -1 ∧ ((nxtL Wm S m t).1 = -1 ∨ (nxtL Wm S m t).2 < likF Wm S m t (S 2 t)) then ((t : Int), likF Wm S m t (S 2 t)) else nxtL Wm S m t := rfl
theorem lurF_s {Wm S : zv_H} {m c : Int} (t : Nat) : lurF Wm S m c (t + 1) = if (t : Int) ≠ S 4 m ∧ (t : Int) ≠ c ∧ dstF Wm (S 4 m) t ≠ -1 then max (lurF Wm S m c t) (if (t : Int) < c then likF Wm S m t (S 2 t) + 1 else likF Wm S m t (S 2 t)) else lurF Wm S m c t := rfl
theorem nxt_p {Wm S : zv_H} {m c x : Int} (t : Nat) (ht : (t : Int) ≠ c) : nxtL Wm (zup S 2 c x) m (t + 1) = if (t : Int) ≠ S 4 m ∧ dstF Wm (S 4 m) t ≠ -1 ∧ ((nxtL Wm (zup S 2 c x) m t).1 = -1 ∨ (nxtL Wm (zup S 2 c x) m t).2 < likF Wm S m t (S 2 t)) then ((t : Int), likF Wm S m t (S 2 t)) else nxtL Wm (zup S 2 c x) m t := by
  rw [nxtL_s, lik_p, zup_n (a' := 4) (by omega), zup_n (a' := 2) (by omega)]
theorem nxt_c {Wm S : zv_H} {m c x : Int} (t : Nat) (ht : (t : Int) = c) (h4 : c ≠ S 4 m) (hd : dstF Wm (S 4 m) c ≠ -1) : nxtL Wm (zup S 2 c x) m (t + 1) = if (nxtL Wm (zup S 2 c x) m t).1 = -1 ∨ (nxtL Wm (zup S 2 c x) m t).2 < likF Wm S m c x then (c, likF Wm S m c x) else nxtL Wm (zup S 2 c x) m t := by
  rw [nxtL_s, lik_p, zup_n (a' := 4) (by omega), ht, zup_s]
  by_cases q : (nxtL Wm (zup S 2 c x) m t).1 = -1 ∨ (nxtL Wm (zup S 2 c x) m t).2 < likF Wm S m c x
  · rw [if_pos q, if_pos ⟨h4, hd, q⟩]
  · rw [if_neg q, if_neg (fun r => q r.2.2)]
theorem lur_a {Wm S : zv_H} {m c x : Int} (hW : WI Wm) (hS : SI (Wm 0 1) (Wm 0 3) S) (hm : 0 ≤ m ∧ m < Wm 0 3) (hc : 0 ≤ c ∧ c < Wm 0 1) : ∀ n : Nat, (n : Int) ≤ c → ((nxtL Wm (zup S 2 c x) m n).1 = -1 ∧ lurF Wm S m c n = -1000000) ∨ ((0 ≤ (nxtL Wm (zup S 2 c x) m n).1 ∧ (nxtL Wm (zup S 2 c x) m n).1 < c) ∧ lurF Wm S m c n = (nxtL Wm (zup S 2 c x) m n).2 + 1)
  | 0, _ => Or.inl ⟨rfl, rfl⟩
  | t + 1, h => by
    have ih := lur_a (x := x) hW hS hm hc t (by omega)
    have b := hS.2.2.2.1 t (by omega) (by omega)
    have l := lik_b hW hS hm (c := t) (p := S 2 t) ⟨by omega, by omega⟩ b.2.1
    rw [nxt_p t (by omega), lurF_s, if_pos (c := (t : Int) < c) (by omega)]
    generalize likF Wm S m t (S 2 t) = lk at l ⊢
    generalize nxtL Wm (zup S 2 c x) m t = X at ih ⊢
    by_cases v : (t : Int) ≠ S 4 m ∧ dstF Wm (S 4 m) t ≠ -1
    · rw [if_pos (c := (t : Int) ≠ S 4 m ∧ (t : Int) ≠ c ∧ dstF Wm (S 4 m) t ≠ -1) ⟨v.1, by omega, v.2⟩]
      by_cases q : X.1 = -1 ∨ X.2 < lk
      · rw [if_pos ⟨v.1, v.2, q⟩]
        exact Or.inr ⟨⟨by dsimp only; omega, by dsimp only; omega⟩, by dsimp only; omega⟩
      · rw [if_neg (fun r => q r.2.2)]
        rcases ih with ih | ih
        · exact absurd (Or.inl ih.1) q
        · exact Or.inr ⟨ih.1, by omega⟩
    · rw [if_neg (fun r => v ⟨r.1, r.2.1⟩), if_neg (c := (t : Int) ≠ S 4 m ∧ (t : Int) ≠ c ∧ dstF Wm (S 4 m) t ≠ -1) (fun r => v ⟨r.1, r.2.2⟩)]
      exact ih
theorem lur_b {Wm S : zv_H} {m c x : Int} (hW : WI Wm) (hS : SI (Wm 0 1) (Wm 0 3) S) (hm : 0 ≤ m ∧ m < Wm 0 3) (hc : 0 ≤ c ∧ c < Wm 0 1) (h4 : c ≠ S 4 m) (hd : dstF Wm (S 4 m) c ≠ -1) (hx : 0 ≤ x ∧ x ≤ 999) : ∀ n : Nat, c < (n : Int) → (n : Int) ≤ Wm 0 1 → ((nxtL Wm (zup S 2 c x) m n).1 = c ∧ (nxtL Wm (zup S 2 c x) m n).2 = likF Wm S m c x ∧ lurF Wm S m c n ≤ likF Wm S m c x) ∨ ((nxtL Wm (zup S 2 c x) m n).1 ≠ c ∧ (nxtL Wm (zup S 2 c x) m n).1 ≠ -1 ∧ likF Wm S m c x ≤ (nxtL Wm (zup S 2 c x) m n).2 ∧ likF Wm S m c x < lurF Wm S m c n)
  | 0, h, _ => by omega
  | t + 1, h, hn => by
    have lc := lik_b hW hS hm hc hx
    by_cases e : (t : Int) = c
    · have a := lur_a (x := x) hW hS hm hc t (by omega)
      rw [nxt_c t e h4 hd, lurF_s, if_neg (c := (t : Int) ≠ S 4 m ∧ (t : Int) ≠ c ∧ dstF Wm (S 4 m) t ≠ -1) (fun r => r.2.1 e)]
      generalize nxtL Wm (zup S 2 c x) m t = X at a ⊢
      by_cases q : X.1 = -1 ∨ X.2 < likF Wm S m c x
      · rw [if_pos q]
        exact Or.inl ⟨rfl, rfl, by omega⟩
      · rw [if_neg q]
        exact Or.inr ⟨by omega, by omega, by omega, by omega⟩
    · have ih := lur_b hW hS hm hc h4 hd hx t (by omega) (by omega)
      have b := hS.2.2.2.1 t (by omega) (by omega)
      have l := lik_b hW hS hm (c := t) (p := S 2 t) ⟨by omega, by omega⟩ b.2.1
      rw [nxt_p t e, lurF_s, if_neg (c := (t : Int) < c) (by omega)]
      generalize likF Wm S m t (S 2 t) = lk at l ⊢
      generalize likF Wm S m c x = lc0 at lc ih ⊢
      generalize nxtL Wm (zup S 2 c x) m t = X at ih ⊢
      by_cases v : (t : Int) ≠ S 4 m ∧ dstF Wm (S 4 m) t ≠ -1
      · rw [if_pos (c := (t : Int) ≠ S 4 m ∧ (t : Int) ≠ c ∧ dstF Wm (S 4 m) t ≠ -1) ⟨v.1, e, v.2⟩]
        by_cases q : X.1 = -1 ∨ X.2 < lk
        · rw [if_pos ⟨v.1, v.2, q⟩]
          exact Or.inr ⟨e, by dsimp only; omega, by dsimp only; omega, by omega⟩
        · rw [if_neg (fun r => q r.2.2)]
          omega
      · rw [if_neg (fun r => v ⟨r.1, r.2.1⟩), if_neg (c := (t : Int) ≠ S 4 m ∧ (t : Int) ≠ c ∧ dstF Wm (S 4 m) t ≠ -1) (fun r => v ⟨r.1, r.2.2⟩)]
        exact ih
theorem lur_n {Wm S : zv_H} {m c x : Int} (hd : dstF Wm (S 4 m) c = -1) : ∀ n : Nat, (nxtL Wm (zup S 2 c x) m n).1 ≠ c ∨ c = -1
  | 0 => by show (-1 : Int) ≠ c ∨ c = -1; omega
  | t + 1 => by
    have ih := lur_n (x := x) hd t
    by_cases e : (t : Int) = c
    · rw [nxtL_s, zup_n (a' := 4) (by omega), e, if_neg (fun r => r.2.1 hd)]
      exact ih
    · rw [nxt_p t e]
      split
      · exact Or.inl e
      · exact ih
theorem nxt_lur {Wm S : zv_H} {m c x : Int} (hW : WI Wm) (hS : SI (Wm 0 1) (Wm 0 3) S) (hm : 0 ≤ m ∧ m < Wm 0 3) (hc : 0 ≤ c ∧ c < Wm 0 1) (h4 : c ≠ S 4 m) (hx : 0 ≤ x ∧ x ≤ 999) : nxtF Wm (zup S 2 c x) m = c ↔ dstF Wm (S 4 m) c ≠ -1 ∧ lurF Wm S m c (Wm 0 1).toNat ≤ likF Wm S m c x := by
  unfold nxtF
  have w1 := hW.1
  by_cases hd : dstF Wm (S 4 m) c = -1
  · have q := lur_n (x := x) hd (Wm 0 1).toNat
    constructor
    · intro r; exact absurd r (by omega)
    · intro r; exact absurd hd r.1
  · have q := lur_b hW hS hm hc h4 hd hx (Wm 0 1).toNat (by omega) (by omega)
    constructor
    · intro r; exact ⟨hd, by omega⟩
    · intro r; have r2 := r.2; omega
/-- what the model finds -/
def lurM (Wm S : zv_H) (m c z : Int) : Prop := if ¬ ((0 ≤ m ∧ m < Wm 0 3) ∧ (0 ≤ c ∧ c < Wm 0 1) ∧ S 5 m = 0 ∧ S 4 m ≠ c) then z = -1 else (z = -1 ∧ ∀ q, 0 ≤ q → q ≤ 999 → nxtF Wm (zup S 2 c q) m ≠ c) ∨ ((0 ≤ z ∧ z ≤ 999) ∧ nxtF Wm (zup S 2 c z) m = c ∧ ∀ q, 0 ≤ q → q < z → nxtF Wm (zup S 2 c q) m ≠ c)
theorem lur_u {Wm S : zv_H} {m c z1 z2 : Int} (hW : WI Wm) (hS : SI (Wm 0 1) (Wm 0 3) S) (h1 : lurQ Wm S m c z1) (h2 : lurM Wm S m c z2) : z1 = z2 := by
  unfold lurM at h2
  unfold lurQ at h1
  by_cases hc : ¬ ((0 ≤ m ∧ m < Wm 0 3) ∧ (0 ≤ c ∧ c < Wm 0 1) ∧ S 5 m = 0 ∧ S 4 m ≠ c)
  · rw [if_pos hc] at h2
    by_cases a : ¬ ((0 ≤ m ∧ m < Wm 0 3) ∧ (0 ≤ c ∧ c < Wm 0 1))
    · rw [if_pos a] at h1; omega
    · rw [if_neg a, if_pos (by omega)] at h1; omega
  · rw [if_neg hc] at h2
    have hc2 : (0 ≤ m ∧ m < Wm 0 3) ∧ (0 ≤ c ∧ c < Wm 0 1) ∧ S 5 m = 0 ∧ S 4 m ≠ c := Classical.not_not.mp hc
    obtain ⟨hm, hcc, h5, h4⟩ := hc2
    rw [if_neg (by omega), if_neg (by omega)] at h1
    have key : ∀ x, 0 ≤ x → x ≤ 999 → (nxtF Wm (zup S 2 c x) m = c ↔ dstF Wm (S 4 m) c ≠ -1 ∧ lurF Wm S m c (Wm 0 1).toNat ≤ likF Wm S m c x) := fun x q1 q2 => nxt_lur hW hS hm hcc (Ne.symm h4) ⟨q1, q2⟩
    by_cases hd : dstF Wm (S 4 m) c = -1
    · rw [if_pos hd] at h1
      rcases h2 with h2 | h2
      · omega
      · exact absurd hd ((key z2 h2.1.1 h2.1.2).mp h2.2.1).1
    · rw [if_neg hd] at h1
      unfold lurP at h1
      rcases h1 with ⟨a1, a2⟩ | ⟨a0, a1, a2, a3⟩
      · rcases h2 with ⟨b1, b2⟩ | ⟨b0, b1, b2⟩
        · omega
        · have r := ((key z2 b0.1 b0.2).mp b1).2
          have r2 := a2 z2 b0.1 b0.2
          omega
      · rcases h2 with ⟨b1, b2⟩ | ⟨b0, b1, b2⟩
        · exact absurd ((key z1 a0 a1).mpr ⟨hd, a2⟩) (b2 z1 a0 a1)
        · by_cases c1 : z1 < z2
          · exact absurd ((key z1 a0 a1).mpr ⟨hd, a2⟩) (b2 z1 a0 c1)
          · by_cases c2 : z2 < z1
            · have r := ((key z2 b0.1 b0.2).mp b1).2
              have r2 := a3 z2 b0.1 c2
              omega
            · omega
