/-! a STATEMENT: what the machine comes to -/
def endR (T : Int → Int) (p' : Int) (cs out : List (Int × Int)) (r : zRs) : Prop := (tK T p' = 4 ∧ r = zft 1 (tP T p')) ∨ (tK T p' ≠ 4 ∧ ∃ (F : List zFr) (o : Int) (d : Bool), r = Sum.inr (Sum.inl (p', F, cs.reverse ++ out, o, d)))
theorem endR_n {T : Int → Int} {p' : Int} {cs out : List (Int × Int)} {r : zRs} (h : endR T p' cs out r) : ∀ Z, r ≠ Sum.inl Z := fun Z e => by
  rcases h with ⟨_, q⟩ | ⟨_, F, o, d, q⟩
  · have h9_q := q.symm.trans e; cases h9_q
  · have h9_q := q.symm.trans e; cases h9_q
theorem jmp_r {T : Int → Int} {p1_q p' : Int} {cs out : List (Int × Int)} (h : OkT T false 0 p1_q p' cs) : ∃ (k0_q : Nat) (Y : zCf), rch T false k0_q (p1_q, [(1, 0, true, 0, [])], out, 0, false) Y ∧ endR T p' cs out (stpF T false Y) := by
  obtain ⟨hb, _, h19_q, h18_q⟩ := h
  obtain ⟨ph, x, out', hph, hx, hf, k0_q, hr⟩ := hb 1 0 [] [] out (by omega) (hdl_nil 1)
  refine ⟨k0_q, _, hr, ?_⟩
  rw [List.append_nil]
  show endR T p' cs out (gonS T p' 1 ph false 0 x [] out' _)
  unfold gonS
  by_cases k4_q : tK T p' = 4
  · rw [if_pos k4_q]; exact Or.inl ⟨k4_q, rfl⟩
  · rw [if_neg k4_q, if_neg (fun q => by
      rcases hph with u | u
      · have := q.1; omega
      · exact u.2 q.2), if_neg (fun q => by have := q.2.1; omega), if_neg (fun q => q.2.elim h19_q h18_q), if_neg (fun q => by have := q.2; omega), if_pos (by omega)]
    have e := mjo_x (l := 1) (x := x) (ops := []) (out := out') (o := 0 + nNot x) (rgt_1 x) (hdl_nil 1)
    rw [List.append_nil] at e
    rw [e, hf]
    exact Or.inr ⟨k4_q, _, _, _, rfl⟩
theorem lks_r {T : Int → Int} {p1_q p' : Int} {cs out : List (Int × Int)} (h : OkS T true 0 p1_q p' cs) : ∃ (k0_q : Nat) (Y : zCf), rch T true k0_q (p1_q, [(0, 0, true, 0, [])], out, 0, false) Y ∧ endR T p' cs out (stpF T true Y) := by
  obtain ⟨hb, _, hA⟩ := h
  obtain ⟨x, out', hx, hf, k0_q, hr⟩ := hb 0 0 true 0 [] [] out (fun q => absurd q.1 (by omega)) (hdl_nil 5) (by omega)
  refine ⟨k0_q, _, hr, ?_⟩
  rw [List.append_nil]
  show endR T p' cs out (gonS T p' 0 0 false 0 x [] out' _)
  unfold gonS
  by_cases k4_q : tK T p' = 4
  · rw [if_pos k4_q]; exact Or.inl ⟨k4_q, rfl⟩
  · rw [if_neg k4_q, if_neg (fun q => hA q.2), if_neg (fun q => by have := q.1; omega), if_neg (fun q => by have := q.1; omega), if_neg (fun q => by have := q.1; omega), if_pos (by omega)]
    have e := fun o => mjo_x (l := 1) (x := x) (ops := []) (out := out') (o := o) (rgt_1 x) (hdl_nil 1)
    simp only [List.append_nil] at e
    rw [e, hf]
    exact Or.inr ⟨k4_q, _, _, _, rfl⟩
theorem jmp_b {T : Int → Int} {p1_q k pl : Int} {out : List (Int × Int)} (h : BtBd 1 T false 0 p1_q k pl) : ∃ (k0_q : Nat) (Y : zCf), rch T false k0_q (p1_q, [(1, 0, true, 0, [])], out, 0, false) Y ∧ stpF T false Y = zft k pl := by
  obtain ⟨Y, ⟨k0_q, hr⟩, e⟩ := h 1 0 [] [] out (by omega) (hdl_nil 1)
  exact ⟨k0_q, Y, hr, e⟩
theorem lks_b {T : Int → Int} {p1_q k pl : Int} {out : List (Int × Int)} (h : AccBd 5 T true 0 p1_q k pl) : ∃ (k0_q : Nat) (Y : zCf), rch T true k0_q (p1_q, [(0, 0, true, 0, [])], out, 0, false) Y ∧ stpF T true Y = zft k pl := by
  obtain ⟨Y, ⟨k0_q, hr⟩, e⟩ := h 0 0 true 0 [] [] out (fun q => absurd q.1 (by omega)) (hdl_nil 5) (by omega)
  exact ⟨k0_q, Y, hr, e⟩
/-- what a STATEMENT leaves -/
def stE (s : zSpan) (σ : zv_H) (T : Int → Int) (n i : Int) (res : zX zSt) : Prop := match res with
  | Sum.inl (p', A', J', K') => (∃ out', stS s σ T n i A' J' K' out' p') ∨ (tK T p' = 4 ∧ ∃ A0, rdR s σ T n i A0 (Sum.inr (1, tP T p')))
  | Sum.inr e => ∃ A', rdR s σ T n i A' (Sum.inr e)
/-- a small STATEMENT: the cells that it may change are those of inW -/
theorem stE_x {s : zSpan} {σ σ' : zv_H} {T : Int → Int} {n i p : Int} {A : zv_H} {J K out : List (Int × Int)} {X : zX (Int × zv_H)} (h : stS s σ T n i A J K out p) (hs : ∀ x k, inZt i x k → s.2 x k) (hX : rdX (σ, inW i) σ' T n i X) (hp : ∀ x, X = Sum.inl x → p ≤ x.1) (hrl : ∀ x, X = Sum.inl x → rlA x.2) : stE s σ' T n i (lftS X J K) := by
  obtain ⟨h1_q, h2_q, h3_q, h4_q, h5_q, h6_q, h7_q, h8_q, h9_q⟩ := h
  rcases X with ⟨p', A'⟩ | e
  · obtain ⟨hr, hA⟩ := hX
    have e : ∀ x k, ¬ inW i x k → ¬ (x = 289 ∧ ((3 ≤ k ∧ k ≤ 9) ∨ k = 12)) → σ' x k = σ x k := hr.1
    have e2_q : ∀ x k, (302 ≤ x ∧ x ≤ 305) → σ' x k = σ x k := fun x k q => e x k (fun w => by rcases w with w | w | w | w <;> omega) (by omega)
    refine Or.inl ⟨out, rdR_in h1_q (fun x k q => hs x k (Or.inl q)) hr, hA, ouM_x h3_q (fun x k q _ _ => e2_q x k (by omega)), by rw [e 289 31 (fun w => by rcases w with w | w | w | w <;> omega) (by omega)]; exact h4_q, ?_, ?_, ?_, h8_q, hrl _ rfl⟩
    · have := hp _ rfl; dsimp only at this ⊢; omega
    · exact fmT_x (post := []) h6_q (e2_q _ _ (by omega)) (e2_q _ _ (by omega))
    · exact fmT_x (post := []) h7_q (e2_q _ _ (by omega)) (e2_q _ _ (by omega))
  · obtain ⟨A', hr⟩ := hX
    exact ⟨A', rdR_in h1_q (fun x k q => hs x k (Or.inl q)) hr⟩
