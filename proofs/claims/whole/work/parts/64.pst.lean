theorem or_1 {z : Int} {P Q : Prop} (h : (z = 1 ∧ P) ∨ (z = 0 ∧ Q)) (hz : z ≠ 0) : P := h.elim (fun q => q.2) (fun q => absurd q.1 hz)
theorem or_0 {z : Int} {P Q : Prop} (h : (z = 1 ∧ P) ∨ (z = 0 ∧ Q)) (hz : z = 0) : Q := h.elim (fun q => absurd (hz.symm.trans q.1) (by decide)) (fun q => q.2)
theorem or3_1 {z : Int} {P Q R : Prop} (h : (z = 1 ∧ P) ∨ (z = 0 ∧ Q) ∨ (z = 0 ∧ R)) (hz : z ≠ 0) : P := h.elim (fun q => q.2) (fun q => q.elim (fun r => absurd r.1 hz) (fun r => absurd r.1 hz))
theorem or3_0 {z : Int} {P Q R : Prop} (h : (z = 1 ∧ P) ∨ (z = 0 ∧ Q) ∨ (z = 0 ∧ R)) (hz : z = 0) : Q ∨ R := h.elim (fun q => absurd (hz.symm.trans q.1) (by decide)) (fun q => q.elim (fun r => Or.inl r.2) (fun r => Or.inr r.2))
/-! what a reader of a piece answers -/
def pst (σ0 : zv_H) (T : Int → Int) (n f p : Int) (cs0 : List (Int × Int)) (Ok : Int → List (Int × Int) → Prop) (Bd : Int → Int → Prop) (z : Int) (σ' : zv_H) : Prop := (z = 1 ∧ ∃ (p' : Int) (cs : List (Int × Int)), prs σ0 σ' T p' f (cs0 ++ cs) ∧ (p < p' ∧ p' ≤ n) ∧ (cs.length : Int) ≤ p' - p ∧ Ok p' cs) ∨ (z = 0 ∧ ∃ k pl : Int, bdp σ0 σ' f k pl ∧ Bd k pl)
theorem pst_1 {σ0 : zv_H} {T : Int → Int} {n f p : Int} {cs0 : List (Int × Int)} {Ok : Int → List (Int × Int) → Prop} {Bd : Int → Int → Prop} {z : Int} {σ' : zv_H} (h : pst σ0 T n f p cs0 Ok Bd z σ') (hz : z ≠ 0) : ∃ (p' : Int) (cs : List (Int × Int)), prs σ0 σ' T p' f (cs0 ++ cs) ∧ (p < p' ∧ p' ≤ n) ∧ (cs.length : Int) ≤ p' - p ∧ Ok p' cs := by
  rcases h with h | h
  · exact h.2
  · exact absurd h.1 hz
theorem pst_0 {σ0 : zv_H} {T : Int → Int} {n f p : Int} {cs0 : List (Int × Int)} {Ok : Int → List (Int × Int) → Prop} {Bd : Int → Int → Prop} {z : Int} {σ' : zv_H} (h : pst σ0 T n f p cs0 Ok Bd z σ') (hz : z = 0) : ∃ k pl : Int, bdp σ0 σ' f k pl ∧ Bd k pl := by
  rcases h with h | h
  · exact absurd (hz.symm.trans h.1) (by decide)
  · exact h.2
theorem pst_b {σ0 : zv_H} {T : Int → Int} {n f p : Int} {cs0 : List (Int × Int)} {Ok : Int → List (Int × Int) → Prop} {Bd : Int → Int → Prop} {z : Int} {σ' : zv_H} (h : pst σ0 T n f p cs0 Ok Bd z σ') : z = 0 ∨ z = 1 := by
  rcases h with h | h
  · exact Or.inr h.1
  · exact Or.inl h.1
theorem pst_m {σ0 : zv_H} {T : Int → Int} {n f p : Int} {cs0 : List (Int × Int)} {Ok Ok2 : Int → List (Int × Int) → Prop} {Bd Bd2 : Int → Int → Prop} {z : Int} {σ' : zv_H} (h : pst σ0 T n f p cs0 Ok Bd z σ') (h1 : ∀ p' cs, Ok p' cs → Ok2 p' cs) (h2 : ∀ k pl, Bd k pl → Bd2 k pl) : pst σ0 T n f p cs0 Ok2 Bd2 z σ' := by
  rcases h with ⟨hz, p', cs, a, b, c, d⟩ | ⟨hz, k, pl, a, b⟩
  · exact Or.inl ⟨hz, p', cs, a, b, c, h1 _ _ d⟩
  · exact Or.inr ⟨hz, k, pl, a, h2 _ _ b⟩
abbrev OkA (T : Int → Int) (lk : Bool) (o p p' : Int) (cs : List (Int × Int)) : Prop := PrtOk T lk o p p' cs ∧ wl (cs.map enS) false (Bp o)
abbrev OkP (T : Int → Int) (lk : Bool) (o p p' : Int) (cs : List (Int × Int)) : Prop := AccOk 6 T lk o p p' cs ∧ wl (cs.map enS) false (Bp o + 1) ∧ ¬ (tK T p' = 3 ∧ (T (tQ T p') = 42 ∨ T (tQ T p') = 47 ∨ T (tQ T p') = 37))
abbrev OkS (T : Int → Int) (lk : Bool) (o p p' : Int) (cs : List (Int × Int)) : Prop := AccOk 5 T lk o p p' cs ∧ wl (cs.map enS) false (Bp o + 2) ∧ ¬ isA T p'
abbrev OkC (T : Int → Int) (lk : Bool) (o p p' : Int) (cs : List (Int × Int)) : Prop := CmpOk T lk o p p' cs ∧ wl (cs.map enS) true (Bp o + 3) ∧ ¬ isA T p'
abbrev OkF (T : Int → Int) (lk : Bool) (o p p' : Int) (cs : List (Int × Int)) : Prop := BtOk 4 3 T lk o p p' cs ∧ wl (cs.map enS) true (Bp o + 3)
abbrev OkB (T : Int → Int) (lk : Bool) (o p p' : Int) (cs : List (Int × Int)) : Prop := BtOk 2 2 T lk o p p' cs ∧ wl (cs.map enS) true (Bp o + 4) ∧ ¬ isOw T p' 19
abbrev OkT (T : Int → Int) (lk : Bool) (o p p' : Int) (cs : List (Int × Int)) : Prop := BtOk 1 1 T lk o p p' cs ∧ wl (cs.map enS) true (Bp o + 5) ∧ ¬ isOw T p' 19 ∧ ¬ isOw T p' 18
def kA (Γ : zv_M) (L : Int) (σ0 : zv_H) (T : Int → Int) (n f : Int) (lk : Bool) (o : Int) : Prop := ∀ {σ : zv_H} {p : Int} {cs0 : List (Int × Int)}, RE σ0 T n f lk → prs σ0 σ T p f cs0 → (0 ≤ p ∧ p ≤ n) → (cs0.length : Int) ≤ p → zC Γ m_Reader_readPart (12 * (8 - o).toNat + 4) 0 0 (GM L) [zR 52, zI o] σ (zPI (GM L) (pst σ0 T n f p cs0 (OkA T lk o p) (PrtBd T lk o p)))
def kP (Γ : zv_M) (L : Int) (σ0 : zv_H) (T : Int → Int) (n f : Int) (lk : Bool) (o : Int) : Prop := ∀ {σ : zv_H} {p : Int} {cs0 : List (Int × Int)}, RE σ0 T n f lk → prs σ0 σ T p f cs0 → (0 ≤ p ∧ p ≤ n) → (cs0.length : Int) ≤ p → zC Γ m_Reader_readProduct (12 * (8 - o).toNat + 5) 0 0 (GM L) [zR 52, zI o] σ (zPI (GM L) (pst σ0 T n f p cs0 (OkP T lk o p) (AccBd 6 T lk o p)))
def kS (Γ : zv_M) (L : Int) (σ0 : zv_H) (T : Int → Int) (n f : Int) (lk : Bool) (o : Int) : Prop := ∀ {σ : zv_H} {p : Int} {cs0 : List (Int × Int)}, RE σ0 T n f lk → prs σ0 σ T p f cs0 → (0 ≤ p ∧ p ≤ n) → (cs0.length : Int) ≤ p → zC Γ m_Reader_readSum (12 * (8 - o).toNat + 6) 0 0 (GM L) [zR 52, zI o] σ (zPI (GM L) (pst σ0 T n f p cs0 (OkS T lk o p) (AccBd 5 T lk o p)))
def kC (Γ : zv_M) (L : Int) (σ0 : zv_H) (T : Int → Int) (n f : Int) (lk : Bool) (o : Int) : Prop := ∀ {σ : zv_H} {p : Int} {cs0 : List (Int × Int)}, RE σ0 T n f lk → prs σ0 σ T p f cs0 → (0 ≤ p ∧ p ≤ n) → (cs0.length : Int) ≤ p → zC Γ m_Reader_readComparison (12 * (8 - o).toNat + 7) 0 0 (GM L) [zR 52, zI o] σ (zPI (GM L) (pst σ0 T n f p cs0 (OkC T lk o p) (CmpBd T lk o p)))
def kF (Γ : zv_M) (L : Int) (σ0 : zv_H) (T : Int → Int) (n f : Int) (lk : Bool) (o : Int) : Prop := ∀ {σ : zv_H} {p : Int} {cs0 : List (Int × Int)}, RE σ0 T n f lk → prs σ0 σ T p f cs0 → (0 ≤ p ∧ p ≤ n) → (cs0.length : Int) ≤ p → zC Γ m_Reader_readFact (12 * (8 - o).toNat + 8) 0 0 (GM L) [zR 52, zI o] σ (zPI (GM L) (pst σ0 T n f p cs0 (OkF T lk o p) (BtBd 4 T lk o p)))
def kB (Γ : zv_M) (L : Int) (σ0 : zv_H) (T : Int → Int) (n f : Int) (lk : Bool) (o : Int) : Prop := ∀ {σ : zv_H} {p : Int} {cs0 : List (Int × Int)}, RE σ0 T n f lk → prs σ0 σ T p f cs0 → (0 ≤ p ∧ p ≤ n) → (cs0.length : Int) ≤ p → zC Γ m_Reader_readBoth (12 * (8 - o).toNat + 9) 0 0 (GM L) [zR 52, zI o] σ (zPI (GM L) (pst σ0 T n f p cs0 (OkB T lk o p) (BtBd 2 T lk o p)))
def kT (Γ : zv_M) (L : Int) (σ0 : zv_H) (T : Int → Int) (n f : Int) (lk : Bool) (o : Int) : Prop := ∀ {σ : zv_H} {p : Int} {cs0 : List (Int × Int)}, RE σ0 T n f lk → prs σ0 σ T p f cs0 → (0 ≤ p ∧ p ≤ n) → (cs0.length : Int) ≤ p → zC Γ m_Reader_readTest (12 * (8 - o).toNat + 10) 0 0 (GM L) [zR 52, zI o] σ (zPI (GM L) (pst σ0 T n f p cs0 (OkT T lk o p) (BtBd 1 T lk o p)))
set_option maxHeartbeats 4000000 in
set_option maxRecDepth 20000 in
theorem c_Reader_productStep {Γ : zv_M} {L : Int} {σ0 σ : zv_H} {T : Int → Int} {n f p : Int} {lk : Bool} {cs0 : List (Int × Int)} (hE : RE σ0 T n f lk) (h0 : prs σ0 σ T p f cs0) (hp : 0 ≤ p ∧ p ≤ n)  : zC Γ m_Reader_productStep 1 0 0 (GM L) [zR 52] σ (zPI (GM L) (fun z σ' => σ' = σ ∧ ((z = 0 ∧ ¬ (tK T p = 3 ∧ (T (tQ T p) = 42 ∨ T (tQ T p) = 47 ∨ T (tQ T p) = 37))) ∨ (z ≠ 0 ∧ z = enS (arO (T (tQ T p)), 0) ∧ (tK T p = 3 ∧ (T (tQ T p) = 42 ∨ T (tQ T p) = 47 ∨ T (tQ T p) = 37)))))) := by
  refine zC_of (ls0 := [_]) zm_Reader_productStep (by decide) rfl (Nat.le_of_ble_eq_true rfl) ?_
  generalize hQ : (zPI (GM L) (fun z σ' => σ' = σ ∧ ((z = 0 ∧ ¬ (tK T p = 3 ∧ (T (tQ T p) = 42 ∨ T (tQ T p) = 47 ∨ T (tQ T p) = 37))) ∨ (z ≠ 0 ∧ z = enS (arO (T (tQ T p)), 0) ∧ (tK T p = 3 ∧ (T (tQ T p) = 42 ∨ T (tQ T p) = 47 ∨ T (tQ T p) = 37)))))) = Q
  refine zaload_n (k := 0) rfl rfl ?_
  refine zgF 0 (k := 1) rfl ob_52 fl_4_14 rfl fx_52_0 ?_
  refine zbipush (k := 2) rfl rfl ?_
  refine zpVI (k := 3) rfl (c_Scanner_isSign h0.1) fm_Scanner_isSign lk_4_184 rfl rfl ob_53 ⟨_, rfl, rfl⟩ (Nat.le_of_ble_eq_true rfl) (by decide) ⟨by decide, by decide⟩ (fun z1 τ1 g1 => ?_)
  obtain ⟨he1, g1⟩ := g1
  rw [he1]
  refine zif_eq (k := 4) rfl rfl (fun c1 => ?_) (fun c1 => ?_)
  · skip
    refine zaload_n (k := 7) rfl rfl ?_
    refine zgF 0 (k := 8) rfl ob_52 fl_4_14 rfl fx_52_0 ?_
    refine zbipush (k := 9) rfl rfl ?_
    refine zpVI (k := 10) rfl (c_Scanner_isSign h0.1) fm_Scanner_isSign lk_4_184 rfl rfl ob_53 ⟨_, rfl, rfl⟩ (Nat.le_of_ble_eq_true rfl) (by decide) ⟨by decide, by decide⟩ (fun z2 τ2 g2 => ?_)
    obtain ⟨he2, g2⟩ := g2
    rw [he2]
    refine zif_eq (k := 11) rfl rfl (fun c2 => ?_) (fun c2 => ?_)
    · skip
      refine zaload_n (k := 14) rfl rfl ?_
      refine zgF 0 (k := 15) rfl ob_52 fl_4_14 rfl fx_52_0 ?_
      refine zbipush (k := 16) rfl rfl ?_
      refine zpVI (k := 17) rfl (c_Scanner_isSign h0.1) fm_Scanner_isSign lk_4_184 rfl rfl ob_53 ⟨_, rfl, rfl⟩ (Nat.le_of_ble_eq_true rfl) (by decide) ⟨by decide, by decide⟩ (fun z3 τ3 g3 => ?_)
      obtain ⟨he3, g3⟩ := g3
      rw [he3]
      refine zif_eq (k := 18) rfl rfl (fun c3 => ?_) (fun c3 => ?_)
      · skip
        refine ziconst (k := 21) rfl (by decide) ?_
        refine zireturn (k := 22) rfl rfl rfl ?_
        rw [← hQ]
        refine ⟨rfl, _, rfl, rfl, ?_⟩
        first
        | exact Or.inr ⟨by decide, by rw [show T (tQ T p) = 42 by omega]; rfl, by omega⟩
        | exact Or.inr ⟨by decide, by rw [show T (tQ T p) = 47 by omega]; rfl, by omega⟩
        | exact Or.inr ⟨by decide, by rw [show T (tQ T p) = 37 by omega]; rfl, by omega⟩
        | exact Or.inl ⟨rfl, by omega⟩
      · skip
        refine zbipush (k := 19) rfl rfl ?_
        refine zgoto (k := 20) rfl rfl ?_
        refine zireturn (k := 22) rfl rfl rfl ?_
        rw [← hQ]
        refine ⟨rfl, _, rfl, rfl, ?_⟩
        first
        | exact Or.inr ⟨by decide, by rw [show T (tQ T p) = 42 by omega]; rfl, by omega⟩
        | exact Or.inr ⟨by decide, by rw [show T (tQ T p) = 47 by omega]; rfl, by omega⟩
        | exact Or.inr ⟨by decide, by rw [show T (tQ T p) = 37 by omega]; rfl, by omega⟩
        | exact Or.inl ⟨rfl, by omega⟩
    · skip
      refine zbipush (k := 12) rfl rfl ?_
      refine zireturn (k := 13) rfl rfl rfl ?_
      rw [← hQ]
      refine ⟨rfl, _, rfl, rfl, ?_⟩
      first
      | exact Or.inr ⟨by decide, by rw [show T (tQ T p) = 42 by omega]; rfl, by omega⟩
      | exact Or.inr ⟨by decide, by rw [show T (tQ T p) = 47 by omega]; rfl, by omega⟩
      | exact Or.inr ⟨by decide, by rw [show T (tQ T p) = 37 by omega]; rfl, by omega⟩
      | exact Or.inl ⟨rfl, by omega⟩
  · skip
    refine zbipush (k := 5) rfl rfl ?_
    refine zireturn (k := 6) rfl rfl rfl ?_
    rw [← hQ]
    refine ⟨rfl, _, rfl, rfl, ?_⟩
    first
    | exact Or.inr ⟨by decide, by rw [show T (tQ T p) = 42 by omega]; rfl, by omega⟩
    | exact Or.inr ⟨by decide, by rw [show T (tQ T p) = 47 by omega]; rfl, by omega⟩
    | exact Or.inr ⟨by decide, by rw [show T (tQ T p) = 37 by omega]; rfl, by omega⟩
    | exact Or.inl ⟨rfl, by omega⟩
set_option maxHeartbeats 4000000 in
set_option maxRecDepth 20000 in
theorem c_Reader_comparisonStep {Γ : zv_M} {L : Int} {σ0 σ : zv_H} {T : Int → Int} {n f p : Int} {lk : Bool} {cs0 : List (Int × Int)} (hE : RE σ0 T n f lk) (h0 : prs σ0 σ T p f cs0) (hp : 0 ≤ p ∧ p ≤ n)  : zC Γ m_Reader_comparisonStep 1 0 0 (GM L) [zR 52] σ (zPI (GM L) (fun z σ' => σ' = σ ∧ ((z = 0 ∧ ¬ (tK T p = 3 ∧ (T (tQ T p) = 60 ∨ T (tQ T p) = 62 ∨ T (tQ T p) = 61))) ∨ (z ≠ 0 ∧ z = enS (cmO (T (tQ T p)), 0) ∧ (tK T p = 3 ∧ (T (tQ T p) = 60 ∨ T (tQ T p) = 62 ∨ T (tQ T p) = 61)))))) := by
  refine zC_of (ls0 := [_]) zm_Reader_comparisonStep (by decide) rfl (Nat.le_of_ble_eq_true rfl) ?_
  generalize hQ : (zPI (GM L) (fun z σ' => σ' = σ ∧ ((z = 0 ∧ ¬ (tK T p = 3 ∧ (T (tQ T p) = 60 ∨ T (tQ T p) = 62 ∨ T (tQ T p) = 61))) ∨ (z ≠ 0 ∧ z = enS (cmO (T (tQ T p)), 0) ∧ (tK T p = 3 ∧ (T (tQ T p) = 60 ∨ T (tQ T p) = 62 ∨ T (tQ T p) = 61)))))) = Q
  refine zaload_n (k := 0) rfl rfl ?_
  refine zgF 0 (k := 1) rfl ob_52 fl_4_14 rfl fx_52_0 ?_
  refine zbipush (k := 2) rfl rfl ?_
  refine zpVI (k := 3) rfl (c_Scanner_isSign h0.1) fm_Scanner_isSign lk_4_184 rfl rfl ob_53 ⟨_, rfl, rfl⟩ (Nat.le_of_ble_eq_true rfl) (by decide) ⟨by decide, by decide⟩ (fun z1 τ1 g1 => ?_)
  obtain ⟨he1, g1⟩ := g1
  rw [he1]
  refine zif_eq (k := 4) rfl rfl (fun c1 => ?_) (fun c1 => ?_)
  · skip
    refine zaload_n (k := 7) rfl rfl ?_
    refine zgF 0 (k := 8) rfl ob_52 fl_4_14 rfl fx_52_0 ?_
    refine zbipush (k := 9) rfl rfl ?_
    refine zpVI (k := 10) rfl (c_Scanner_isSign h0.1) fm_Scanner_isSign lk_4_184 rfl rfl ob_53 ⟨_, rfl, rfl⟩ (Nat.le_of_ble_eq_true rfl) (by decide) ⟨by decide, by decide⟩ (fun z2 τ2 g2 => ?_)
    obtain ⟨he2, g2⟩ := g2
    rw [he2]
    refine zif_eq (k := 11) rfl rfl (fun c2 => ?_) (fun c2 => ?_)
    · skip
      refine zaload_n (k := 14) rfl rfl ?_
      refine zgF 0 (k := 15) rfl ob_52 fl_4_14 rfl fx_52_0 ?_
      refine zbipush (k := 16) rfl rfl ?_
      refine zpVI (k := 17) rfl (c_Scanner_isSign h0.1) fm_Scanner_isSign lk_4_184 rfl rfl ob_53 ⟨_, rfl, rfl⟩ (Nat.le_of_ble_eq_true rfl) (by decide) ⟨by decide, by decide⟩ (fun z3 τ3 g3 => ?_)
      obtain ⟨he3, g3⟩ := g3
      rw [he3]
      refine zif_eq (k := 18) rfl rfl (fun c3 => ?_) (fun c3 => ?_)
      · skip
        refine ziconst (k := 21) rfl (by decide) ?_
        refine zireturn (k := 22) rfl rfl rfl ?_
        rw [← hQ]
        refine ⟨rfl, _, rfl, rfl, ?_⟩
        first
        | exact Or.inr ⟨by decide, by rw [show T (tQ T p) = 60 by omega]; rfl, by omega⟩
        | exact Or.inr ⟨by decide, by rw [show T (tQ T p) = 62 by omega]; rfl, by omega⟩
        | exact Or.inr ⟨by decide, by rw [show T (tQ T p) = 61 by omega]; rfl, by omega⟩
        | exact Or.inl ⟨rfl, by omega⟩
      · skip
        refine zbipush (k := 19) rfl rfl ?_
        refine zgoto (k := 20) rfl rfl ?_
        refine zireturn (k := 22) rfl rfl rfl ?_
        rw [← hQ]
        refine ⟨rfl, _, rfl, rfl, ?_⟩
        first
        | exact Or.inr ⟨by decide, by rw [show T (tQ T p) = 60 by omega]; rfl, by omega⟩
        | exact Or.inr ⟨by decide, by rw [show T (tQ T p) = 62 by omega]; rfl, by omega⟩
        | exact Or.inr ⟨by decide, by rw [show T (tQ T p) = 61 by omega]; rfl, by omega⟩
        | exact Or.inl ⟨rfl, by omega⟩
    · skip
      refine zbipush (k := 12) rfl rfl ?_
      refine zireturn (k := 13) rfl rfl rfl ?_
      rw [← hQ]
      refine ⟨rfl, _, rfl, rfl, ?_⟩
      first
      | exact Or.inr ⟨by decide, by rw [show T (tQ T p) = 60 by omega]; rfl, by omega⟩
      | exact Or.inr ⟨by decide, by rw [show T (tQ T p) = 62 by omega]; rfl, by omega⟩
      | exact Or.inr ⟨by decide, by rw [show T (tQ T p) = 61 by omega]; rfl, by omega⟩
      | exact Or.inl ⟨rfl, by omega⟩
  · skip
    refine zbipush (k := 5) rfl rfl ?_
    refine zireturn (k := 6) rfl rfl rfl ?_
    rw [← hQ]
    refine ⟨rfl, _, rfl, rfl, ?_⟩
    first
    | exact Or.inr ⟨by decide, by rw [show T (tQ T p) = 60 by omega]; rfl, by omega⟩
    | exact Or.inr ⟨by decide, by rw [show T (tQ T p) = 62 by omega]; rfl, by omega⟩
    | exact Or.inr ⟨by decide, by rw [show T (tQ T p) = 61 by omega]; rfl, by omega⟩
    | exact Or.inl ⟨rfl, by omega⟩
theorem lk_b {lk : Bool} : (zB lk ≠ 0 ↔ lk = true) := by cases lk <;> decide
