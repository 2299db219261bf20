/-! behind an operand -/
theorem mjo_o {l : Int} : ∀ (ops : List Int) (out : List (Int × Int)) (o : Int), o - (ops.length : Int) ≤ (mjo l ops out o).2.2 ∧ (mjo l ops out o).2.2 ≤ o
  | [], out, o => ⟨by show o - ((0 : Nat) : Int) ≤ o; omega, Int.le_refl o⟩
  | x :: r, out, o => by
    by_cases h : l ≤ rnk x
    · rw [mjo_p h]
      have q := mjo_o (l := l) r ((x, 0) :: out) (if x = 43 then o - 1 else o)
      rw [List.length_cons]
      by_cases e : x = 43
      · rw [if_pos e] at q ⊢; omega
      · rw [if_neg e] at q ⊢; omega
    · rw [mjo_n h, List.length_cons]
      dsimp only
      omega
theorem mjo_1 (ops : List Int) (out : List (Int × Int)) (o : Int) : (mjo 1 ops out o).1 = [] := by
  have q := mjo_x (l := 1) (x := ops) (ops := []) (out := out) (o := o) (rgt_1 ops) (hdl_nil 1)
  rw [List.append_nil] at q
  rw [q]
theorem clos_n {kd : Int} (h : kd ≠ 5) : ∀ R : List zFr, clos kd R = R
  | [] => rfl
  | (a, b, c, d, e) :: R => if_neg h
theorem q_joins {Γ : zv_M} {L l : Int} {s : zSpan} {σ : zv_H} {T : Int → Int} {n i p o kd ph pr : Int} {A : zv_H} {lk bg : Bool} {ops : List Int} {R : List zFr} {out : List (Int × Int)} (hi1_q : i = 0 ∨ i = 1) (hF : ∀ x k, inF i x k → s.2 x k) (hc : cfM s σ T n i A lk p ((kd, ph, bg, pr, ops) :: R) out o) (hl : R.length ≤ 18) (hm : σ 289 42 ≤ 500) (hN : out.length + ops.length ≤ 1600) (ho : -100 ≤ o ∧ o ≤ 100) : zC Γ m_M_joins 2 0 0 (GM L) [zR 289, zI l] σ (zP0 (GM L) (fun σ' => cfM s σ' T n i A lk p ((kd, ph, bg, pr, (mjo l ops out o).1) :: R) (mjo l ops out o).2.1 (mjo l ops out o).2.2 ∧ (0 ≤ σ' 289 42 ∧ σ' 289 42 ≤ σ 289 42) ∧ (mjo l ops out o).2.1.length + (mjo l ops out o).1.length = out.length + ops.length ∧ σ' 289 43 = σ 289 43)) := by
  have hc0_q := hc
  obtain ⟨h, ⟨⟨f1_q, f2_q, f3_q, f4_q, f5_q⟩, f6_q, f7_q⟩, d, u, c, g, w⟩ := hc
  have b0_q := frM_x.frM_0 f7_q
  rw [List.length_cons] at d
  refine zC_mono (fun q G' σ' hq => ?_) (c_M_joins (D := (R.length : Int) + 1) (base := σ 289 42 - (ops.length : Int)) (ops := ops) (out := out) (op := o) (m := σ 289 42) hi1_q h.2.2.1 (by rw [d]; omega) (by omega) (by rw [show (R.length : Int) + 1 - 1 = (R.length : Int) by omega]; exact f5_q) b0_q hm hN ho ⟨jfr_rf _ _ _, rfl, rfl, f6_q, u, c, g, rfl, Nat.le_refl _⟩)
  obtain ⟨q1_q, q2_q, r, v, o', m', e, j⟩ := hq
  rw [e]
  have j2_q := j
  obtain ⟨j, a, b, c5_q, d5_q, e5_q, g5_q, n5_q, k5_q⟩ := j2_q
  exact ⟨q1_q, q2_q, cfM_j hF hc0_q hN rfl ⟨j, a, b, c5_q, d5_q, e5_q, g5_q, n5_q, k5_q⟩, by omega, n5_q, j 289 43 (by omega) (by omega)⟩
def gonM (s : zSpan) (σ : zv_H) (T : Int → Int) (n i : Int) (A : zv_H) (lk : Bool) (z : Int) (r : zRs) : Prop := match r with
  | Sum.inl (p, F, out, o, d) => cfM s σ T n i A lk p F out o ∧ z = 1 ∧ σ 289 43 = zB d
  | Sum.inr (Sum.inl (p, F, out, o, _)) => cfM s σ T n i A lk p F out o ∧ z = 0
  | Sum.inr (Sum.inr (k, pl)) => rdR s σ T n i A (Sum.inr (k, pl))
