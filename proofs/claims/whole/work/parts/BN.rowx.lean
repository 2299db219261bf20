/-- what the model's rows so far are: shorter ones, and those of n with a number below w -/
def rowX (Wm S : zv_H) (m : Int) (n : Nat) (w : Int) (q : List (Int × Int)) : Prop := vOK Wm S m q ∧ 1 ≤ q.length ∧ (q.length < n ∨ (q.length = n ∧ nmF (Wm 0 1) q < w))
theorem rowX_n {Wm S : zv_H} {m w : Int} {n : Nat} {R : Int → Int} (hn : 1 ≤ n) (hal : 0 < Wm 0 1) (hw : 0 ≤ w ∧ w < Wm 0 1 ^ n) (hR : ∀ t : Nat, t < n → R t = w / Wm 0 1 ^ (n - 1 - t) % Wm 0 1) (q : List (Int × Int)) : rowX Wm S m n (w + 1) q ↔ rowX Wm S m n w q ∨ (q = pL Wm S m R n ∧ vOK Wm S m (pL Wm S m R n)) := by
  have hrg : rgP (Wm 0 1) (pL Wm S m R n) := fun e he => by
    obtain ⟨j, j1_q, j2_q⟩ := pL_m.mp he
    rw [j2_q]
    dsimp only
    rw [hR j j1_q]
    exact ⟨Int.emod_nonneg _ (by omega), Int.emod_lt_of_pos _ hal⟩
  have hnm : nmF (Wm 0 1) (pL Wm S m R n) = w := by
    rw [nm_dg hal hw hR n (Nat.le_refl _), Nat.sub_self]
    rw [Int.pow_zero]
    exact Int.ediv_one w
  constructor
  · rintro ⟨h1_q, h2_q, h3_q⟩
    rcases h3_q with h3_q | ⟨h3_q, h4_q⟩
    · exact Or.inl ⟨h1_q, h2_q, Or.inl h3_q⟩
    · by_cases e : nmF (Wm 0 1) q = w
      · have e2_q := nm_i (vOK_r h1_q) hrg (by rw [pL_l]; exact h3_q) (by rw [hnm]; exact e)
        have e3_q := vOK_pL h1_q e2_q
        exact Or.inr ⟨e3_q, by rw [← e3_q]; exact h1_q⟩
      · exact Or.inl ⟨h1_q, h2_q, Or.inr ⟨h3_q, by omega⟩⟩
  · rintro (⟨h1_q, h2_q, h3_q⟩ | ⟨h1_q, h2_q⟩)
    · rcases h3_q with h3_q | ⟨h3_q, h4_q⟩
      · exact ⟨h1_q, h2_q, Or.inl h3_q⟩
      · exact ⟨h1_q, h2_q, Or.inr ⟨h3_q, by omega⟩⟩
    · rw [h1_q]
      exact ⟨h2_q, by rw [pL_l]; exact hn, Or.inr ⟨pL_l _ _ _ _ _, by rw [hnm]; omega⟩⟩
theorem rowX_up {Wm S : zv_H} {m : Int} {n : Nat} (hal : 0 ≤ Wm 0 1) (q : List (Int × Int)) : rowX Wm S m n (Wm 0 1 ^ n) q ↔ rowX Wm S m (n + 1) 0 q := by
  constructor
  · rintro ⟨h1_q, h2_q, h3_q⟩
    exact ⟨h1_q, h2_q, Or.inl (by omega)⟩
  · rintro ⟨h1_q, h2_q, h3_q⟩
    refine ⟨h1_q, h2_q, ?_⟩
    rcases h3_q with h3_q | ⟨h3_q, h4_q⟩
    · by_cases e : q.length = n
      · refine Or.inr ⟨e, ?_⟩
        rcases nm_b hal (vOK_r h1_q) with b | ⟨b, _⟩
        · rw [← e]; exact b.2
        · rw [b] at h2_q; exact absurd h2_q (by decide)
      · exact Or.inl (by omega)
    · exfalso
      rcases nm_b hal (vOK_r h1_q) with b | ⟨b, _⟩
      · omega
      · rw [b] at h2_q; exact absurd h2_q (by decide)
/-- the best as the model notes it -/
def bsR (σ : zv_H) (B : zB3) : Prop := σ 289 66 = (B.1.length : Int) ∧ B.1.length ≤ 4 ∧ (B.1 ≠ [] → (∀ i : Nat, i < 4 → σ 331 i = if i < B.1.length then B.1.getD i 0 else -1) ∧ σ 331 4 = B.2.1 ∧ σ 331 5 = B.2.2)
theorem rowX_c {Wm S : zv_H} {m w : Int} {n : Nat} {R : Int → Int} (hn : 1 ≤ n) (hal : 0 < Wm 0 1) (hw : 0 ≤ w ∧ w < Wm 0 1 ^ n) (hR : ∀ t : Nat, t < n → R t = w / Wm 0 1 ^ (n - 1 - t) % Wm 0 1) {q : List (Int × Int)} (h : rowX Wm S m n w q) (hv : vOK Wm S m (pL Wm S m R n)) : q.length < (pL Wm S m R n).length ∨ (q.length = (pL Wm S m R n).length ∧ lexL (cL q) (cL (pL Wm S m R n))) := by
  rw [pL_l]
  obtain ⟨h1_q, h2_q, h3_q⟩ := h
  rcases h3_q with h3_q | ⟨h3_q, h4_q⟩
  · exact Or.inl h3_q
  · refine Or.inr ⟨h3_q, nm_lex (vOK_r h1_q) (vOK_r hv) (by rw [pL_l]; exact h3_q) ?_⟩
    rw [nm_dg hal hw hR n (Nat.le_refl _), Nat.sub_self]
    rw [Int.pow_zero, Int.ediv_one]
    exact h4_q
theorem bst_new {Wm S : zv_H} {m w : Int} {n : Nat} {R : Int → Int} {B : zB3} (hn : 1 ≤ n) (hal : 0 < Wm 0 1) (hw : 0 ≤ w ∧ w < Wm 0 1 ^ n) (hR : ∀ t : Nat, t < n → R t = w / Wm 0 1 ^ (n - 1 - t) % Wm 0 1) (hv : vOK Wm S m (pL Wm S m R n)) (h : Bst S (rowX Wm S m n w) B) (hb : B.1 = [] ∨ B.2.1 < gaF S (pL Wm S m R n) ∨ (B.2.1 = gaF S (pL Wm S m R n) ∧ whF (pL Wm S m R n) < B.2.2)) : Bst S (rowX Wm S m n (w + 1)) (cL (pL Wm S m R n), gaF S (pL Wm S m R n), whF (pL Wm S m R n)) := by
  have hp : pL Wm S m R n ≠ [] := fun e => by
    have := pL_l Wm S m R n
    rw [e] at this
    exact absurd this.symm (by show ¬ n = 0; omega)
  refine Bst_i (X := fun q => rowX Wm S m n w q ∨ q = pL Wm S m R n) ?_ (fun q => ?_)
  · by_cases e : B.1 = []
    · exact Bst_0 h e hp
    · refine Bst_1 h e hp (fun r hr he => ?_)
      rcases hb with hb | hb | ⟨hb, hb2_q⟩
      · exact absurd hb e
      · rw [he] at hb; exact Or.inl hb
      · rw [he] at hb hb2_q; exact Or.inr ⟨hb.symm, Or.inl hb2_q⟩
  · rw [rowX_n hn hal hw hR q]
    exact ⟨fun x => x.elim Or.inl (fun e => Or.inr ⟨e, hv⟩), fun x => x.elim Or.inl (fun e => Or.inr e.1)⟩
theorem bst_old {Wm S : zv_H} {m w : Int} {n : Nat} {R : Int → Int} {B : zB3} (hn : 1 ≤ n) (hal : 0 < Wm 0 1) (hw : 0 ≤ w ∧ w < Wm 0 1 ^ n) (hR : ∀ t : Nat, t < n → R t = w / Wm 0 1 ^ (n - 1 - t) % Wm 0 1) (h : Bst S (rowX Wm S m n w) B) (hb : ¬ vOK Wm S m (pL Wm S m R n) ∨ (B.1 ≠ [] ∧ ¬ (B.2.1 < gaF S (pL Wm S m R n) ∨ (B.2.1 = gaF S (pL Wm S m R n) ∧ whF (pL Wm S m R n) < B.2.2)))) : Bst S (rowX Wm S m n (w + 1)) B := by
  by_cases hv : vOK Wm S m (pL Wm S m R n)
  · have hb := hb.elim (fun x => absurd hv x) id
    refine Bst_i (X := fun q => rowX Wm S m n w q ∨ q = pL Wm S m R n) ?_ (fun q => ?_)
    · refine Bst_2 h hb.1 (fun r hr he => ?_)
      have hc := rowX_c hn hal hw hR hr hv
      have hb2_q := hb.2
      rw [he] at hb2_q
      dsimp only at hb2_q
      unfold bet
      by_cases e1_q : gaF S (pL Wm S m R n) < gaF S r
      · exact Or.inl e1_q
      · have e2_q : gaF S r = gaF S (pL Wm S m R n) := by omega
        refine Or.inr ⟨e2_q, ?_⟩
        by_cases e3_q : whF r < whF (pL Wm S m R n)
        · exact Or.inl e3_q
        · exact Or.inr ⟨by omega, hc⟩
    · rw [rowX_n hn hal hw hR q]
      exact ⟨fun x => x.elim Or.inl (fun e => Or.inr ⟨e, hv⟩), fun x => x.elim Or.inl (fun e => Or.inr e.1)⟩
  · refine Bst_i h (fun q => ?_)
    rw [rowX_n hn hal hw hR q]
    exact ⟨Or.inl, fun x => x.elim id (fun e => absurd e.2 hv)⟩
theorem cL_pL {Wm S : zv_H} {m : Int} {R : Int → Int} : ∀ (n i : Nat), i < n → (cL (pL Wm S m R n)).getD i 0 = R i
  | 0, i, h => absurd h (Nat.not_lt_zero _)
  | n + 1, i, h => by
    have e : cL (pL Wm S m R (n + 1)) = cL (pL Wm S m R n) ++ [R n] := cL_s _ _
    rw [e, List.getD_eq_getElem?_getD]
    by_cases c : i = n
    · rw [c, List.getElem?_append_right (by rw [cL_l, pL_l]; exact Nat.le_refl _), cL_l, pL_l, Nat.sub_self]; rfl
    · rw [List.getElem?_append_left (by rw [cL_l, pL_l]; omega), ← List.getD_eq_getElem?_getD]
      exact cL_pL n i (by omega)
theorem gaF_s (Wm S : zv_H) (m : Int) (R : Int → Int) (n : Nat) : gaF S (pL Wm S m R (n + 1)) = gaF S (pL Wm S m R n) + S 2 (R n) := rfl
theorem pL_c {Wm S : zv_H} {m : Int} {R R2 : Int → Int} : ∀ n : Nat, (∀ i : Nat, i < n → R i = R2 i) → pL Wm S m R n = pL Wm S m R2 n
  | 0, _ => rfl
  | n + 1, h => by
    show (R n, cmA Wm S m (pL Wm S m R n) (R n)) :: pL Wm S m R n = (R2 n, cmA Wm S m (pL Wm S m R2 n) (R2 n)) :: pL Wm S m R2 n
    rw [pL_c n (fun i hi => h i (by omega)), h n (by omega)]
