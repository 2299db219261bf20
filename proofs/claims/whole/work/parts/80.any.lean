/-! any STATEMENT -/
def wfj (σ0 σ : zv_H) (w : Int) : Prop := ∀ x k, ¬ (w ≤ x ∧ x ≤ w + 12) → x ≠ 53 → ¬ (x = 52 ∧ 2 ≤ k ∧ k ≤ 8) → σ x k = σ0 x k
def stJ (σ0 σ : zv_H) (T : Int → Int) (n w : Int) (A : zv_H) (J K : List (Int × Int)) (p : Int) : Prop := RW σ T n w ∧ SCp σ T p ∧ wrN σ w T A ∧ wrF σ (w + 8) J ∧ wrF σ (w + 10) K ∧ wfj σ0 σ w
abbrev bgS (u : Int) : Prop := u = 0 ∨ u = 4 ∨ u = 7 ∨ u = 10 ∨ u = 11 ∨ u = 12
abbrev flS (u : Int) (A : zv_H) (J K : List (Int × Int)) : Prop := (u = 0 ∧ 7 ≤ A 0 1) ∨ (u = 4 ∧ 12 ≤ A 0 2) ∨ (u = 7 ∧ 6 ≤ A 0 3) ∨ (u = 10 ∧ 0 < J.length) ∨ (u = 11 ∧ 0 < K.length)
abbrev zSt : Type := Int × zv_H × List (Int × Int) × List (Int × Int)
def lftS (x : zX (Int × zv_H)) (J K : List (Int × Int)) : zX zSt := bnd x fun a => Sum.inl (a.1, a.2, J, K)
/-- what a STATEMENT that begins with the token behind p comes to -/
def stR (T : Int → Int) (n p : Int) (A : zv_H) (J K : List (Int × Int)) (res : zX zSt) : Prop :=
  (¬ bgS (tO T p) ∧ res = Sum.inr (1, tP T p)) ∨ (flS (tO T p) A J K ∧ res = Sum.inr (6, tP T p)) ∨
  (¬ flS (tO T p) A J K ∧ ((tO T p = 0 ∧ res = lftS (ctyF T A (tN T p)) J K) ∨ (tO T p = 4 ∧ res = lftS (ralF T A (tN T p)) J K) ∨ (tO T p = 7 ∧ res = lftS (mnnF T A (tN T p)) J K) ∨ (tO T p = 12 ∧ res = lftS (pstF T A (tN T p)) J K) ∨
    (tO T p = 10 ∧ ((∃ (p' : Int) (cs : List (Int × Int)), OkT T false 0 (tN T p) p' cs ∧ (tN T p < p' ∧ p' ≤ n) ∧ (cs.length : Int) ≤ p' - tN T p ∧ res = Sum.inl (p', A, cs, K)) ∨ ∃ k pl, BtBd 1 T false 0 (tN T p) k pl ∧ res = Sum.inr (k, pl))) ∨
    (tO T p = 11 ∧ ((∃ (p' : Int) (cs : List (Int × Int)), OkS T true 0 (tN T p) p' cs ∧ (tN T p < p' ∧ p' ≤ n) ∧ (cs.length : Int) ≤ p' - tN T p ∧ res = Sum.inl (p', A, J, cs)) ∨ ∃ k pl, AccBd 5 T true 0 (tN T p) k pl ∧ res = Sum.inr (k, pl)))))
theorem stJ_N {σ0 σ : zv_H} {T : Int → Int} {n w p : Int} {A : zv_H} {J K : List (Int × Int)} (h : stJ σ0 σ T n w A J K p) : stN σ σ T n w A p := ⟨h.1, h.2.1, h.2.2.1, fun _ _ _ _ _ _ => rfl⟩
theorem N_stJ {σ0 σ σ' : zv_H} {T : Int → Int} {n w p p' : Int} {A A' : zv_H} {J K : List (Int × Int)} (h : stJ σ0 σ T n w A J K p) (h2 : stN σ σ' T n w A' p') : stJ σ0 σ' T n w A' J K p' := by
  have hf := wr_far h.1.2.2.2.2.1
  refine ⟨h2.1, h2.2.1, h2.2.2.1, ⟨?_, fun i hi => ?_⟩, ⟨?_, fun i hi => ?_⟩, fun x k a b c => by rw [h2.2.2.2 x k (by omega) (by omega) b c]; exact h.2.2.2.2.2 x k a b c⟩
  · rw [h2.2.2.2 (w + 8) 1 (by omega) (by omega) (by omega) (by omega)]; exact h.2.2.2.1.1
  · rw [h2.2.2.2 (w + 8 + 1) i (by omega) (by omega) (by omega) (by omega)]; exact h.2.2.2.1.2 i hi
  · rw [h2.2.2.2 (w + 10) 1 (by omega) (by omega) (by omega) (by omega)]; exact h.2.2.2.2.1.1
  · rw [h2.2.2.2 (w + 10 + 1) i (by omega) (by omega) (by omega) (by omega)]; exact h.2.2.2.2.1.2 i hi
theorem stJ_x {σ0 σ σ' : zv_H} {T : Int → Int} {n w p p' : Int} {A : zv_H} {J K : List (Int × Int)} (h : stJ σ0 σ T n w A J K p) (h1 : SCp σ' T p') (h2 : ∀ x k, x ≠ 53 → ¬ (x = 52 ∧ 2 ≤ k ∧ k ≤ 3) → σ' x k = σ x k) : stJ σ0 σ' T n w A J K p' := by
  have hf := wr_far h.1.2.2.2.2.1
  obtain ⟨⟨⟨a1, z7, z8⟩, a2, a3, a4, a5, a6⟩, b, ⟨c1, c2, c3, c4⟩, d, e, g⟩ := h
  have r : ∀ x, (w ≤ x ∧ x ≤ w + 12) → ∀ k, σ' x k = σ x k := fun x hx k => h2 x k (by omega) (by omega)
  refine ⟨⟨⟨?_, by rw [h2 52 7 (by omega) (by omega)]; exact z7, by rw [h2 52 8 (by omega) (by omega)]; exact z8⟩, by rw [h2 2 1 (by omega) (by omega)]; exact a2, a3, fun k q1 q2 => by rw [h2 54 k (by omega) (by omega)]; exact a4 k q1 q2, a5, by rw [h2 52 1 (by omega) (by omega)]; exact a6⟩, h1, ⟨fun k q1 q2 => by rw [r w (by omega)]; exact c1 k q1 q2, fun i q1 q2 => by rw [r _ (by omega), r _ (by omega), r _ (by omega), r _ (by omega)]; exact c2 i q1 q2, fun i q1 q2 => by rw [r _ (by omega), r _ (by omega), r _ (by omega)]; exact c3 i q1 q2, fun i q1 q2 => by rw [r _ (by omega)]; exact c4 i q1 q2⟩, ⟨by rw [r _ (by omega)]; exact d.1, fun i hi => by rw [r _ (by omega)]; exact d.2 i hi⟩, ⟨by rw [r _ (by omega)]; exact e.1, fun i hi => by rw [r _ (by omega)]; exact e.2 i hi⟩, fun x k q1 q2 q3 => by rw [h2 x k q2 (by omega)]; exact g x k q1 q2 q3⟩
  rw [← a1]
  funext k
  unfold tA
  rw [h2 2 1 (by omega) (by omega), h2 3 k (by omega) (by omega)]
theorem stJ_RE {σ0 σ : zv_H} {T : Int → Int} {n w p f : Int} {A : zv_H} {J K : List (Int × Int)} {lk : Bool} (h : stJ σ0 σ T n w A J K p) (hf : f = w + 8 ∨ f = w + 10) (h2 : σ 52 2 = f) (h3 : σ 52 3 = zB lk) : RE σ T n f lk := ⟨h.1.1.1, h.1.2.1, h.1.2.2.1, h.1.2.2.2.1, by rcases hf with rfl | rfl; exact (wr_8 h.1.2.2.2.2.1).1; exact (wr_8 h.1.2.2.2.2.1).2, h2, h3⟩
theorem rfo_wfj {σ0 σ σ' : zv_H} {w f : Int} (hf : f = w + 8 ∨ f = w + 10) (h : wfj σ0 σ w) (h2 : rfo σ σ' f) : wfj σ0 σ' w := fun x k a b c => by rw [h2 x k b (by omega) (by omega) (by omega)]; exact h x k a b c
theorem stJ_F {σ0 σ σ' : zv_H} {T : Int → Int} {n w p p' f : Int} {A : zv_H} {J K cs : List (Int × Int)} {lk : Bool} (h : stJ σ0 σ T n w A J K p) (hf : (f = w + 8 ∧ lk = false) ∨ (f = w + 10 ∧ lk = true)) (h2 : prs σ σ' T p' f cs) : stJ σ0 σ' T n w A (if lk = false then cs else J) (if lk = false then K else cs) p' := by
  have hwf := wr_far h.1.2.2.2.2.1
  obtain ⟨⟨⟨a1, z7, z8⟩, a2, a3, a4, a5, a6⟩, b, ⟨c1, c2, c3, c4⟩, d, e, g⟩ := h
  obtain ⟨q1, q2, q3, q4⟩ := h2
  have hff : f = w + 8 ∨ f = w + 10 := by rcases hf with r | r; exact Or.inl r.1; exact Or.inr r.1
  have r : ∀ x, x ≠ 53 → x ≠ 52 → x ≠ f → x ≠ f + 1 → ∀ k, σ' x k = σ x k := fun x h1 h2 h3 h4 k => q4 x k h1 (by omega) h4
  refine ⟨⟨⟨?_, by rw [q4 52 7 (by omega) (by omega) (by omega)]; exact z7, by rw [q4 52 8 (by omega) (by omega) (by omega)]; exact z8⟩, by rw [r 2 (by omega) (by omega) (by omega) (by omega)]; exact a2, a3, fun k u v => by rw [r 54 (by omega) (by omega) (by omega) (by omega)]; exact a4 k u v, a5, by rw [q4 52 1 (by omega) (by omega) (by omega)]; exact a6⟩, q1, ⟨fun k u v => by rw [r w (by omega) (by omega) (by omega) (by omega)]; exact c1 k u v, fun i u v => by rw [r _ (by omega) (by omega) (by omega) (by omega), r _ (by omega) (by omega) (by omega) (by omega), r _ (by omega) (by omega) (by omega) (by omega), r _ (by omega) (by omega) (by omega) (by omega)]; exact c2 i u v, fun i u v => by rw [r _ (by omega) (by omega) (by omega) (by omega), r _ (by omega) (by omega) (by omega) (by omega), r _ (by omega) (by omega) (by omega) (by omega)]; exact c3 i u v, fun i u v => by rw [r _ (by omega) (by omega) (by omega) (by omega)]; exact c4 i u v⟩, ?_, ?_, rfo_wfj hff g (rfs_o q4)⟩
  · rw [← a1]
    funext k
    unfold tA
    rw [r 2 (by omega) (by omega) (by omega) (by omega), r 3 (by omega) (by omega) (by omega) (by omega)]
  · rcases hf with ⟨rfl, rfl⟩ | ⟨rfl, rfl⟩
    · rw [if_pos rfl]; exact ⟨q2, q3⟩
    · rw [if_neg (by decide)]
      exact ⟨by rw [r _ (by omega) (by omega) (by omega) (by omega)]; exact d.1, fun i hi => by rw [r _ (by omega) (by omega) (by omega) (by omega)]; exact d.2 i hi⟩
  · rcases hf with ⟨rfl, rfl⟩ | ⟨rfl, rfl⟩
    · rw [if_pos rfl]
      exact ⟨by rw [r _ (by omega) (by omega) (by omega) (by omega)]; exact e.1, fun i hi => by rw [r _ (by omega) (by omega) (by omega) (by omega)]; exact e.2 i hi⟩
    · rw [if_neg (by decide)]; exact ⟨q2, q3⟩
set_option maxHeartbeats 4000000 in
set_option maxRecDepth 20000 in
theorem c_Reader_beginsStatement {Γ : zv_M} {L : Int} {σ : zv_H} {u : Int} : zC Γ m_Reader_beginsStatement 0 0 0 (GM L) [zI u] σ (zFn (some (zI (if bgS u then 1 else 0))) (GM L) σ) := by
  refine zC_of (ls0 := [_]) zm_Reader_beginsStatement (by decide) rfl (Nat.le_of_ble_eq_true rfl) ?_
  generalize hQ : (zFn (some (zI (if bgS u then 1 else 0))) (GM L) σ) = Q
  refine ziload_n (k := 0) rfl rfl ?_
  refine ztabC (k := 1) (v := 0) 0 rfl rfl (by decide) rfl rfl (fun c1 => ?_) (fun c1 => ?_)
  · skip
    refine ziconst (k := 2) rfl (by decide) ?_
    refine zzreturn (k := 3) rfl rfl (by first | exact Or.inl rfl | exact Or.inr rfl | omega) rfl ?_
    rw [← hQ]
    exact ⟨by first | (rw [if_pos (by omega)]; done) | (rw [if_neg (by omega)]; done), rfl, rfl⟩
  refine ztabC (k := 1) (v := 1) 1 rfl rfl (by decide) rfl rfl (fun c2 => ?_) (fun c2 => ?_)
  · skip
    refine ziconst (k := 4) rfl (by decide) ?_
    refine zzreturn (k := 5) rfl rfl (by first | exact Or.inl rfl | exact Or.inr rfl | omega) rfl ?_
    rw [← hQ]
    exact ⟨by first | (rw [if_pos (by omega)]; done) | (rw [if_neg (by omega)]; done), rfl, rfl⟩
  refine ztabC (k := 1) (v := 2) 2 rfl rfl (by decide) rfl rfl (fun c3 => ?_) (fun c3 => ?_)
  · skip
    refine ziconst (k := 4) rfl (by decide) ?_
    refine zzreturn (k := 5) rfl rfl (by first | exact Or.inl rfl | exact Or.inr rfl | omega) rfl ?_
    rw [← hQ]
    exact ⟨by first | (rw [if_pos (by omega)]; done) | (rw [if_neg (by omega)]; done), rfl, rfl⟩
  refine ztabC (k := 1) (v := 3) 3 rfl rfl (by decide) rfl rfl (fun c4 => ?_) (fun c4 => ?_)
  · skip
    refine ziconst (k := 4) rfl (by decide) ?_
    refine zzreturn (k := 5) rfl rfl (by first | exact Or.inl rfl | exact Or.inr rfl | omega) rfl ?_
    rw [← hQ]
    exact ⟨by first | (rw [if_pos (by omega)]; done) | (rw [if_neg (by omega)]; done), rfl, rfl⟩
  refine ztabC (k := 1) (v := 4) 4 rfl rfl (by decide) rfl rfl (fun c5 => ?_) (fun c5 => ?_)
  · skip
    refine ziconst (k := 2) rfl (by decide) ?_
    refine zzreturn (k := 3) rfl rfl (by first | exact Or.inl rfl | exact Or.inr rfl | omega) rfl ?_
    rw [← hQ]
    exact ⟨by first | (rw [if_pos (by omega)]; done) | (rw [if_neg (by omega)]; done), rfl, rfl⟩
  refine ztabC (k := 1) (v := 5) 5 rfl rfl (by decide) rfl rfl (fun c6 => ?_) (fun c6 => ?_)
  · skip
    refine ziconst (k := 4) rfl (by decide) ?_
    refine zzreturn (k := 5) rfl rfl (by first | exact Or.inl rfl | exact Or.inr rfl | omega) rfl ?_
    rw [← hQ]
    exact ⟨by first | (rw [if_pos (by omega)]; done) | (rw [if_neg (by omega)]; done), rfl, rfl⟩
  refine ztabC (k := 1) (v := 6) 6 rfl rfl (by decide) rfl rfl (fun c7 => ?_) (fun c7 => ?_)
  · skip
    refine ziconst (k := 4) rfl (by decide) ?_
    refine zzreturn (k := 5) rfl rfl (by first | exact Or.inl rfl | exact Or.inr rfl | omega) rfl ?_
    rw [← hQ]
    exact ⟨by first | (rw [if_pos (by omega)]; done) | (rw [if_neg (by omega)]; done), rfl, rfl⟩
  refine ztabC (k := 1) (v := 7) 7 rfl rfl (by decide) rfl rfl (fun c8 => ?_) (fun c8 => ?_)
  · skip
    refine ziconst (k := 2) rfl (by decide) ?_
    refine zzreturn (k := 3) rfl rfl (by first | exact Or.inl rfl | exact Or.inr rfl | omega) rfl ?_
    rw [← hQ]
    exact ⟨by first | (rw [if_pos (by omega)]; done) | (rw [if_neg (by omega)]; done), rfl, rfl⟩
  refine ztabC (k := 1) (v := 8) 8 rfl rfl (by decide) rfl rfl (fun c9 => ?_) (fun c9 => ?_)
  · skip
    refine ziconst (k := 4) rfl (by decide) ?_
    refine zzreturn (k := 5) rfl rfl (by first | exact Or.inl rfl | exact Or.inr rfl | omega) rfl ?_
    rw [← hQ]
    exact ⟨by first | (rw [if_pos (by omega)]; done) | (rw [if_neg (by omega)]; done), rfl, rfl⟩
  refine ztabC (k := 1) (v := 9) 9 rfl rfl (by decide) rfl rfl (fun c10 => ?_) (fun c10 => ?_)
  · skip
    refine ziconst (k := 4) rfl (by decide) ?_
    refine zzreturn (k := 5) rfl rfl (by first | exact Or.inl rfl | exact Or.inr rfl | omega) rfl ?_
    rw [← hQ]
    exact ⟨by first | (rw [if_pos (by omega)]; done) | (rw [if_neg (by omega)]; done), rfl, rfl⟩
  refine ztabC (k := 1) (v := 10) 10 rfl rfl (by decide) rfl rfl (fun c11 => ?_) (fun c11 => ?_)
  · skip
    refine ziconst (k := 2) rfl (by decide) ?_
    refine zzreturn (k := 3) rfl rfl (by first | exact Or.inl rfl | exact Or.inr rfl | omega) rfl ?_
    rw [← hQ]
    exact ⟨by first | (rw [if_pos (by omega)]; done) | (rw [if_neg (by omega)]; done), rfl, rfl⟩
  refine ztabC (k := 1) (v := 11) 11 rfl rfl (by decide) rfl rfl (fun c12 => ?_) (fun c12 => ?_)
  · skip
    refine ziconst (k := 2) rfl (by decide) ?_
    refine zzreturn (k := 3) rfl rfl (by first | exact Or.inl rfl | exact Or.inr rfl | omega) rfl ?_
    rw [← hQ]
    exact ⟨by first | (rw [if_pos (by omega)]; done) | (rw [if_neg (by omega)]; done), rfl, rfl⟩
  refine ztabC (k := 1) (v := 12) 12 rfl rfl (by decide) rfl rfl (fun c13 => ?_) (fun c13 => ?_)
  · skip
    refine ziconst (k := 2) rfl (by decide) ?_
    refine zzreturn (k := 3) rfl rfl (by first | exact Or.inl rfl | exact Or.inr rfl | omega) rfl ?_
    rw [← hQ]
    exact ⟨by first | (rw [if_pos (by omega)]; done) | (rw [if_neg (by omega)]; done), rfl, rfl⟩
  refine ztabOut (k := 1) rfl (by omega) rfl ?_
  refine ziconst (k := 4) rfl (by decide) ?_
  refine zzreturn (k := 5) rfl rfl (by first | exact Or.inl rfl | exact Or.inr rfl | omega) rfl ?_
  rw [← hQ]
  exact ⟨by first | (rw [if_pos (by omega)]; done) | (rw [if_neg (by omega)]; done), rfl, rfl⟩
