/-! what is told stays so -/
theorem bnd_a {α β γ : Type} {x : zX α} {f : α → zX β} {g : β → zX γ} : bnd (bnd x f) g = bnd x (fun a => bnd (f a) g) := by
  rcases x with a | e
  · rfl
  · rfl
theorem tkNum_b {T : Int → Int} {lo hi p : Int} {q : Int × Int} (h : tkNum T lo hi p = Sum.inl q) : (lo ≤ q.1 ∧ q.1 ≤ hi) ∧ q.2 = tN T p ∧ tK T p = 2 := by
  unfold tkNum at h
  by_cases a : tK T p ≠ 2
  · rw [if_pos a] at h; cases h
  · rw [if_neg a] at h
    by_cases b : tNv T p < lo ∨ hi < tNv T p
    · rw [if_pos b] at h; cases h
    · rw [if_neg b] at h
      cases h
      exact ⟨⟨by dsimp only; omega, by dsimp only; omega⟩, rfl, by omega⟩
theorem tkNew_b {T : Int → Int} {A : zv_H} {p q : Int} (h : tkNew T A p = Sum.inl q) : tK T p = 1 ∧ q = tN T p := by
  unfold tkNew at h
  by_cases a : ¬ isOw T p (-1)
  · rw [if_pos a] at h; cases h
  · rw [if_neg a] at h
    by_cases b : cyI T A p ≠ -1 ∨ mnI T A p ≠ -1
    · rw [if_pos b] at h; cases h
    · rw [if_neg b] at h
      cases h
      exact ⟨(Classical.not_not.mp a).1, rfl⟩
theorem tkWord_b {T : Int → Int} {u p q : Int} (h : tkWord T u p = Sum.inl q) : tK T p = 1 ∧ q = tN T p := by
  unfold tkWord at h
  by_cases a : isOw T p u
  · rw [if_pos a] at h
    cases h
    exact ⟨a.1, rfl⟩
  · rw [if_neg a] at h; cases h
theorem tkCty_b {T : Int → Int} {A : zv_H} {rf p : Int} {q : Int × Int} (h : tkCty T A rf p = Sum.inl q) : tK T p = 1 ∧ q.2 = tN T p ∧ q.1 = cyI T A p ∧ q.1 ≠ -1 ∧ (rf ≠ -1 → q.1 ≠ rf) := by
  unfold tkCty at h
  by_cases a : ¬ isOw T p (-1)
  · rw [if_pos a] at h; cases h
  · rw [if_neg a] at h
    by_cases b : cyI T A p = -1 ∨ (rf ≠ -1 ∧ (cyI T A p = rf ∨ A 12 (rf * 7 + cyI T A p) ≠ 0))
    · rw [if_pos b] at h; cases h
    · rw [if_neg b] at h
      cases h
      exact ⟨(Classical.not_not.mp a).1, rfl, rfl, fun e => b (Or.inl e), fun e e2_q => b (Or.inr ⟨e, Or.inl e2_q⟩)⟩
theorem AI_cty {T : Int → Int} {p0_q q y g : Int} {A : zv_H} (hA : AI T A) (hk : tK T p0_q = 1) (hq : 0 ≤ q ∧ q ≤ 20) (hy : 0 ≤ y ∧ y ≤ 999) (hg : 0 ≤ g ∧ g ≤ 9) (hc : A 0 1 < 7) : AI T (zup (zup (zup (zup (zup A 1 (A 0 1) p0_q) 2 (A 0 1) q) 3 (A 0 1) y) 4 (A 0 1) g) 0 1 (A 0 1 + 1)) := by
  obtain ⟨a0_q, a1_q, a2_q, a3_q, a4_q, a5_q, a6_q, a7_q⟩ := hA
  have e1_q : ∀ i, i ≠ A 0 1 → (zup (zup (zup (zup (zup A 1 (A 0 1) p0_q) 2 (A 0 1) q) 3 (A 0 1) y) 4 (A 0 1) g) 0 1 (A 0 1 + 1)) 1 i = A 1 i := fun i hi => by rw [zup_n (by omega), zup_n (by omega), zup_n (by omega), zup_n (by omega), zup_n (by omega)]
  generalize hA' : zup (zup (zup (zup (zup A 1 (A 0 1) p0_q) 2 (A 0 1) q) 3 (A 0 1) y) 4 (A 0 1) g) 0 1 (A 0 1 + 1) = A'
  have r0_q : ∀ k, k ≠ 1 → A' 0 k = A 0 k := fun k hk => by rw [← hA', zup_n (by omega), zup_n (by omega), zup_n (by omega), zup_n (by omega), zup_n (by omega)]
  have r01_q : A' 0 1 = A 0 1 + 1 := by rw [← hA', zup_s]
  have rx : ∀ x k, (5 ≤ x ∨ (1 ≤ x ∧ k ≠ A 0 1)) → A' x k = A x k := fun x k hk => by rw [← hA', zup_n (by omega), zup_n (by omega), zup_n (by omega), zup_n (by omega), zup_n (by omega)]
  have s1_q : A' 1 (A 0 1) = p0_q := by rw [← hA', zup_n (by omega), zup_n (by omega), zup_n (by omega), zup_n (by omega), zup_s]
  have s2_q : A' 2 (A 0 1) = q := by rw [← hA', zup_n (by omega), zup_n (by omega), zup_n (by omega), zup_s]
  have s3_q : A' 3 (A 0 1) = y := by rw [← hA', zup_n (by omega), zup_n (by omega), zup_s]
  have s4_q : A' 4 (A 0 1) = g := by rw [← hA', zup_n (by omega), zup_s]
  refine ⟨by rw [r0_q 0 (by omega)]; exact a0_q, by rw [r01_q]; omega, by rw [r0_q 2 (by omega)]; exact a2_q, by rw [r0_q 3 (by omega)]; exact a3_q, by rw [r0_q 4 (by omega)]; exact a4_q, fun i q1_q q2_q => ?_, fun i q1_q q2_q => ?_, fun i q1_q q2_q => by rw [rx 12 i (by omega)]; exact a7_q i q1_q q2_q⟩
  · rw [r01_q] at q2_q
    by_cases e : i = A 0 1
    · rw [e, s1_q, s2_q, s3_q, s4_q]; exact ⟨hk, hq, hy, hg⟩
    · rw [rx 1 i (by omega), rx 2 i (by omega), rx 3 i (by omega), rx 4 i (by omega)]; exact a5_q i q1_q (by omega)
  · rw [r0_q 3 (by omega)] at q2_q
    rw [rx 5 i (by omega), rx 6 i (by omega), rx 7 i (by omega), r01_q]
    have := a6_q i q1_q q2_q
    exact ⟨this.1, by omega, this.2.2⟩
theorem AI_man {T : Int → Int} {p0_q q y : Int} {A : zv_H} (hA : AI T A) (hk : tK T p0_q = 1) (hq : 0 ≤ q ∧ q < A 0 1) (hy : 0 ≤ y ∧ y ≤ 63) (hc : A 0 3 < 6) : AI T (zup (zup (zup (zup A 5 (A 0 3) p0_q) 6 (A 0 3) q) 7 (A 0 3) y) 0 3 (A 0 3 + 1)) := by
  obtain ⟨a0_q, a1_q, a2_q, a3_q, a4_q, a5_q, a6_q, a7_q⟩ := hA
  generalize hA' : zup (zup (zup (zup A 5 (A 0 3) p0_q) 6 (A 0 3) q) 7 (A 0 3) y) 0 3 (A 0 3 + 1) = A'
  have r0_q : ∀ k, k ≠ 3 → A' 0 k = A 0 k := fun k hk => by rw [← hA', zup_n (by omega), zup_n (by omega), zup_n (by omega), zup_n (by omega)]
  have r01_q : A' 0 3 = A 0 3 + 1 := by rw [← hA', zup_s]
  have rx : ∀ x k, ((1 ≤ x ∧ x ≤ 4) ∨ 8 ≤ x ∨ (1 ≤ x ∧ k ≠ A 0 3)) → A' x k = A x k := fun x k hk => by rw [← hA', zup_n (by omega), zup_n (by omega), zup_n (by omega), zup_n (by omega)]
  have s1_q : A' 5 (A 0 3) = p0_q := by rw [← hA', zup_n (by omega), zup_n (by omega), zup_n (by omega), zup_s]
  have s2_q : A' 6 (A 0 3) = q := by rw [← hA', zup_n (by omega), zup_n (by omega), zup_s]
  have s3_q : A' 7 (A 0 3) = y := by rw [← hA', zup_n (by omega), zup_s]
  refine ⟨by rw [r0_q 0 (by omega)]; exact a0_q, by rw [r0_q 1 (by omega)]; exact a1_q, by rw [r0_q 2 (by omega)]; exact a2_q, by rw [r01_q]; omega, by rw [r0_q 4 (by omega)]; exact a4_q, fun i q1_q q2_q => ?_, fun i q1_q q2_q => ?_, fun i q1_q q2_q => by rw [rx 12 i (by omega)]; exact a7_q i q1_q q2_q⟩
  · rw [r0_q 1 (by omega)] at q2_q
    rw [rx 1 i (by omega), rx 2 i (by omega), rx 3 i (by omega), rx 4 i (by omega)]; exact a5_q i q1_q q2_q
  · rw [r01_q] at q2_q
    rw [r0_q 1 (by omega)]
    by_cases e : i = A 0 3
    · rw [e, s1_q, s2_q, s3_q]; exact ⟨hk, hq, hy⟩
    · rw [rx 5 i (by omega), rx 6 i (by omega), rx 7 i (by omega)]; exact a6_q i q1_q (by omega)
theorem AI_ral {T : Int → Int} {f t v : Int} {A : zv_H} (hA : AI T A) (hv : 1 ≤ v ∧ v ≤ 9) (hc : A 0 2 < 12) : AI T (zup (zup (zup A 12 (f * 7 + t) v) 12 (t * 7 + f) v) 0 2 (A 0 2 + 1)) := by
  obtain ⟨a0_q, a1_q, a2_q, a3_q, a4_q, a5_q, a6_q, a7_q⟩ := hA
  generalize hA' : zup (zup (zup A 12 (f * 7 + t) v) 12 (t * 7 + f) v) 0 2 (A 0 2 + 1) = A'
  have r0_q : ∀ k, k ≠ 2 → A' 0 k = A 0 k := fun k hk => by rw [← hA', zup_n (by omega), zup_n (by omega), zup_n (by omega)]
  have r01_q : A' 0 2 = A 0 2 + 1 := by rw [← hA', zup_s]
  have rx : ∀ x k, (1 ≤ x ∧ x ≠ 12) → A' x k = A x k := fun x k hk => by rw [← hA', zup_n (by omega), zup_n (by omega), zup_n (by omega)]
  have r12_q : ∀ i, A' 12 i = if i = t * 7 + f ∨ i = f * 7 + t then v else A 12 i := fun i => by
    rw [← hA', zup_n (by omega)]
    by_cases e1_q : i = t * 7 + f
    · rw [e1_q, zup_s, if_pos (Or.inl rfl)]
    · rw [zup_n (by omega)]
      by_cases e2_q : i = f * 7 + t
      · rw [e2_q, zup_s, if_pos (Or.inr rfl)]
      · rw [zup_n (by omega), if_neg (by omega)]
  refine ⟨by rw [r0_q 0 (by omega)]; exact a0_q, by rw [r0_q 1 (by omega)]; exact a1_q, by rw [r01_q]; omega, by rw [r0_q 3 (by omega)]; exact a3_q, by rw [r0_q 4 (by omega)]; exact a4_q, fun i q1_q q2_q => ?_, fun i q1_q q2_q => ?_, fun i q1_q q2_q => ?_⟩
  · rw [r0_q 1 (by omega)] at q2_q
    rw [rx 1 i (by omega), rx 2 i (by omega), rx 3 i (by omega), rx 4 i (by omega)]; exact a5_q i q1_q q2_q
  · rw [r0_q 3 (by omega)] at q2_q
    rw [rx 5 i (by omega), rx 6 i (by omega), rx 7 i (by omega), r0_q 1 (by omega)]; exact a6_q i q1_q q2_q
  · rw [r12_q]
    have := a7_q i q1_q q2_q
    split <;> omega
theorem AI_pst {T : Int → Int} {v : Int} {A : zv_H} (hA : AI T A) (hv : 0 ≤ v ∧ v ≤ 9) : AI T (zup A 0 4 v) := by
  obtain ⟨a0_q, a1_q, a2_q, a3_q, a4_q, a5_q, a6_q, a7_q⟩ := hA
  have r0_q : ∀ k, k ≠ 4 → zup A 0 4 v 0 k = A 0 k := fun k hk => zup_n (by omega)
  have rx : ∀ x k, x ≠ 0 → zup A 0 4 v x k = A x k := fun x k hk => zup_n (by omega)
  refine ⟨by rw [r0_q 0 (by omega)]; exact a0_q, by rw [r0_q 1 (by omega)]; exact a1_q, by rw [r0_q 2 (by omega)]; exact a2_q, by rw [r0_q 3 (by omega)]; exact a3_q, by rw [zup_s]; exact hv, fun i q1_q q2_q => ?_, fun i q1_q q2_q => ?_, fun i q1_q q2_q => by rw [rx 12 i (by omega)]; exact a7_q i q1_q q2_q⟩
  · rw [r0_q 1 (by omega)] at q2_q
    rw [rx 1 i (by omega), rx 2 i (by omega), rx 3 i (by omega), rx 4 i (by omega)]; exact a5_q i q1_q q2_q
  · rw [r0_q 3 (by omega)] at q2_q
    rw [rx 5 i (by omega), rx 6 i (by omega), rx 7 i (by omega), r0_q 1 (by omega)]; exact a6_q i q1_q q2_q
/-- the cells of bank i that statements other than jumps and likes write -/
def inW (i x k : Int) : Prop := ((x = 291 ∨ x = 295 ∨ x = 298 ∨ x = 301) ∧ k = i) ∨ (((292 ≤ x ∧ x ≤ 294) ∨ x = 306) ∧ 7 * i ≤ k ∧ k < 7 * i + 7) ∨ ((x = 299 ∨ x = 300 ∨ x = 307) ∧ 6 * i ≤ k ∧ k < 6 * i + 6) ∨ (x = 296 ∧ 49 * i ≤ k ∧ k < 49 * i + 49)
/-- where reading a statement ends -/
def rdX (s : zSpan) (σ : zv_H) (T : Int → Int) (n i : Int) (X : zX (Int × zv_H)) : Prop := match X with
  | Sum.inl x => rdR s σ T n i x.2 (Sum.inl x.1) ∧ AI T x.2
  | Sum.inr e => ∃ A, rdR s σ T n i A (Sum.inr e)
theorem q_counts {Γ : zv_M} {L : Int} {s : zSpan} {σ : zv_H} {T : Int → Int} {n i p u : Int} {A : zv_H} (h : rdR s σ T n i A (Sum.inl p)) (hu : u = 0 ∨ u = 1) (k1_q : tK T p = 1) : zC Γ m_M_counts 2 0 0 (GM L) [zR 289, zI u] σ (zPI (GM L) (fun z σ' => (u = 1 ∧ z = 0 ∧ rdR s σ' T n i A (Sum.inr (6, tQ T p)) ∧ sfe σ σ') ∨ (u = 0 ∧ z = 1 ∧ rdR s σ' T n i A (Sum.inl (tN T p)) ∧ sfe σ σ'))) := by
  refine zC_mono (fun q G' σ' hq => ?_) (g_counts (rdR_self h) hu k1_q)
  obtain ⟨g1_q, z, g2_q, g3_q⟩ := hq
  refine ⟨g1_q, z, g2_q, ?_⟩
  rcases g3_q with ⟨a, b, c⟩ | ⟨a, b, c⟩
  · exact Or.inl ⟨a, b, rdR_up h c⟩
  · exact Or.inr ⟨a, b, rdR_up h c⟩
theorem ctyF_r (T : Int → Int) (A : zv_H) (p : Int) : bnd (bnd (bnd (bnd (bnd (bnd (bnd (Sum.inl p) (fun p => tkNew T A p)) (fun p => tkWord T 1 p)) (fun p => bnd (tkNum T 0 20 p) (fun q => Sum.inl q.2))) (fun p => tkWord T 2 p)) (fun p => bnd (tkNum T 0 999 p) (fun q => Sum.inl q.2))) (fun p => tkWord T 3 p)) (fun p => bnd (tkNum T 0 9 p) (fun q => Sum.inl q.2)) = bnd (ctyF T A p) (fun x => Sum.inl x.1) := by
  simp only [ctyF, bnd_l, bnd_a]
theorem mnnF_r (T : Int → Int) (A : zv_H) (p : Int) : bnd (bnd (bnd (bnd (bnd (Sum.inl p) (fun p => tkNew T A p)) (fun p => tkWord T 8 p)) (fun p => bnd (tkCty T A (-1) p) (fun q => Sum.inl q.2))) (fun p => tkWord T 9 p)) (fun p => bnd (tkNum T 0 63 p) (fun q => Sum.inl q.2)) = bnd (mnnF T A p) (fun x => Sum.inl x.1) := by
  simp only [mnnF, bnd_l, bnd_a]
theorem pstF_r (T : Int → Int) (A : zv_H) (p : Int) : bnd (Sum.inl p) (fun p => bnd (tkNum T 0 9 p) (fun q => Sum.inl q.2)) = bnd (pstF T A p) (fun x => Sum.inl x.1) := by
  simp only [pstF, bnd_l, bnd_a]
/-- one more COUNTY -/
theorem rdR_cty {s : zSpan} {σ : zv_H} {T : Int → Int} {n i p0_q q y g : Int} {A : zv_H} {r : zX Int} (h : rdR s σ T n i A r) (hs : s.2 291 i) (hA : AI T A) (hc : A 0 1 < 7) (f1_q : σ 306 (7 * i + A 0 1) = tNw T p0_q) (f2_q : σ 292 (7 * i + A 0 1) = q) (f3_q : σ 293 (7 * i + A 0 1) = y) (f4_q : σ 294 (7 * i + A 0 1) = g) : rdR s (zup σ 291 i (A 0 1 + 1)) T n i (zup (zup (zup (zup (zup A 1 (A 0 1) p0_q) 2 (A 0 1) q) 3 (A 0 1) y) 4 (A 0 1) g) 0 1 (A 0 1 + 1)) r := by
  have b0_q := hA.2.1
  have b3_q := hA.2.2.2.1
  obtain ⟨f, t, b, ⟨⟨w1_q, w2_q, w3_q, w4_q⟩, w5_q, w6_q, w7_q⟩, k⟩ := h
  generalize hA' : zup (zup (zup (zup (zup A 1 (A 0 1) p0_q) 2 (A 0 1) q) 3 (A 0 1) y) 4 (A 0 1) g) 0 1 (A 0 1 + 1) = A'
  have r0_q : ∀ k, k ≠ 1 → A' 0 k = A 0 k := fun k hk => by rw [← hA', zup_n (by omega), zup_n (by omega), zup_n (by omega), zup_n (by omega), zup_n (by omega)]
  have r01_q : A' 0 1 = A 0 1 + 1 := by rw [← hA', zup_s]
  have rx : ∀ x k, (5 ≤ x ∨ (1 ≤ x ∧ k ≠ A 0 1)) → A' x k = A x k := fun x k hk => by rw [← hA', zup_n (by omega), zup_n (by omega), zup_n (by omega), zup_n (by omega), zup_n (by omega)]
  have s1_q : A' 1 (A 0 1) = p0_q := by rw [← hA', zup_n (by omega), zup_n (by omega), zup_n (by omega), zup_n (by omega), zup_s]
  have s2_q : A' 2 (A 0 1) = q := by rw [← hA', zup_n (by omega), zup_n (by omega), zup_n (by omega), zup_s]
  have s3_q : A' 3 (A 0 1) = y := by rw [← hA', zup_n (by omega), zup_n (by omega), zup_s]
  have s4_q : A' 4 (A 0 1) = g := by rw [← hA', zup_n (by omega), zup_s]
  refine ⟨fun x j q1_q q2_q => ?_, ⟨by rw [zup_n (by omega)]; exact t.1, t.2.1, fun j q1_q q2_q => by rw [zup_n (by omega)]; exact t.2.2 j q1_q q2_q⟩, by rw [zup_n (by omega)]; exact b, ⟨⟨by rw [zup_s, r01_q], by rw [zup_n (by omega), r0_q 2 (by omega)]; exact w2_q, by rw [zup_n (by omega), r0_q 3 (by omega)]; exact w3_q, by rw [zup_n (by omega), r0_q 4 (by omega)]; exact w4_q⟩, fun c q1_q q2_q => ?_, fun m q1_q q2_q => ?_, fun j q1_q q2_q => by rw [zup_n (by omega), rx 12 j (by omega)]; exact w7_q j q1_q q2_q⟩, stR'_x k (fun j q => zup_n (by omega))⟩
  · rw [zup_n (fun q => q1_q (by rw [q.1, q.2]; exact hs))]; exact f x j q1_q q2_q
  · rw [r01_q] at q2_q
    rw [zup_n (by omega), zup_n (by omega), zup_n (by omega), zup_n (by omega)]
    by_cases e : c = A 0 1
    · rw [e, s1_q, s2_q, s3_q, s4_q]; exact ⟨f2_q, f3_q, f4_q, f1_q⟩
    · rw [rx 1 c (by omega), rx 2 c (by omega), rx 3 c (by omega), rx 4 c (by omega)]; exact w5_q c q1_q (by omega)
  · rw [r0_q 3 (by omega)] at q2_q
    rw [zup_n (by omega), zup_n (by omega), zup_n (by omega), rx 5 m (by omega), rx 6 m (by omega), rx 7 m (by omega)]; exact w6_q m q1_q q2_q
/-- one more MAN -/
theorem rdR_man {s : zSpan} {σ : zv_H} {T : Int → Int} {n i p0_q q y : Int} {A : zv_H} {r : zX Int} (h : rdR s σ T n i A r) (hs : s.2 298 i) (hA : AI T A) (hc : A 0 3 < 6) (f1_q : σ 307 (6 * i + A 0 3) = tNw T p0_q) (f2_q : σ 299 (6 * i + A 0 3) = q) (f3_q : σ 300 (6 * i + A 0 3) = y) : rdR s (zup σ 298 i (A 0 3 + 1)) T n i (zup (zup (zup (zup A 5 (A 0 3) p0_q) 6 (A 0 3) q) 7 (A 0 3) y) 0 3 (A 0 3 + 1)) r := by
  have b0_q := hA.2.1
  have b3_q := hA.2.2.2.1
  obtain ⟨f, t, b, ⟨⟨w1_q, w2_q, w3_q, w4_q⟩, w5_q, w6_q, w7_q⟩, k⟩ := h
  generalize hA' : zup (zup (zup (zup A 5 (A 0 3) p0_q) 6 (A 0 3) q) 7 (A 0 3) y) 0 3 (A 0 3 + 1) = A'
  have r0_q : ∀ k, k ≠ 3 → A' 0 k = A 0 k := fun k hk => by rw [← hA', zup_n (by omega), zup_n (by omega), zup_n (by omega), zup_n (by omega)]
  have r01_q : A' 0 3 = A 0 3 + 1 := by rw [← hA', zup_s]
  have rx : ∀ x k, ((1 ≤ x ∧ x ≤ 4) ∨ 8 ≤ x ∨ (1 ≤ x ∧ k ≠ A 0 3)) → A' x k = A x k := fun x k hk => by rw [← hA', zup_n (by omega), zup_n (by omega), zup_n (by omega), zup_n (by omega)]
  have s1_q : A' 5 (A 0 3) = p0_q := by rw [← hA', zup_n (by omega), zup_n (by omega), zup_n (by omega), zup_s]
  have s2_q : A' 6 (A 0 3) = q := by rw [← hA', zup_n (by omega), zup_n (by omega), zup_s]
  have s3_q : A' 7 (A 0 3) = y := by rw [← hA', zup_n (by omega), zup_s]
  refine ⟨fun x j q1_q q2_q => ?_, ⟨by rw [zup_n (by omega)]; exact t.1, t.2.1, fun j q1_q q2_q => by rw [zup_n (by omega)]; exact t.2.2 j q1_q q2_q⟩, by rw [zup_n (by omega)]; exact b, ⟨⟨by rw [zup_n (by omega), r0_q 1 (by omega)]; exact w1_q, by rw [zup_n (by omega), r0_q 2 (by omega)]; exact w2_q, by rw [zup_s, r01_q], by rw [zup_n (by omega), r0_q 4 (by omega)]; exact w4_q⟩, fun c q1_q q2_q => ?_, fun m q1_q q2_q => ?_, fun j q1_q q2_q => by rw [zup_n (by omega), rx 12 j (by omega)]; exact w7_q j q1_q q2_q⟩, stR'_x k (fun j q => zup_n (by omega))⟩
  · rw [zup_n (fun q => q1_q (by rw [q.1, q.2]; exact hs))]; exact f x j q1_q q2_q
  · rw [r0_q 1 (by omega)] at q2_q
    rw [zup_n (by omega), zup_n (by omega), zup_n (by omega), zup_n (by omega), rx 1 c (by omega), rx 2 c (by omega), rx 3 c (by omega), rx 4 c (by omega)]; exact w5_q c q1_q q2_q
  · rw [r01_q] at q2_q
    rw [zup_n (by omega), zup_n (by omega), zup_n (by omega)]
    by_cases e : m = A 0 3
    · rw [e, s1_q, s2_q, s3_q]; exact ⟨f2_q, f3_q, f1_q⟩
    · rw [rx 5 m (by omega), rx 6 m (by omega), rx 7 m (by omega)]; exact w6_q m q1_q (by omega)
theorem rdR_pst {s : zSpan} {σ : zv_H} {T : Int → Int} {n i v : Int} {A : zv_H} {r : zX Int} (h : rdR s σ T n i A r) (hs : s.2 301 i) : rdR s (zup σ 301 i v) T n i (zup A 0 4 v) r := by
  obtain ⟨f, t, b, ⟨⟨w1_q, w2_q, w3_q, w4_q⟩, w5_q, w6_q, w7_q⟩, k⟩ := h
  have r0_q : ∀ k, k ≠ 4 → zup A 0 4 v 0 k = A 0 k := fun k hk => zup_n (by omega)
  have rx : ∀ x k, x ≠ 0 → zup A 0 4 v x k = A x k := fun x k hk => zup_n (by omega)
  refine ⟨fun x j q1_q q2_q => ?_, ⟨by rw [zup_n (by omega)]; exact t.1, t.2.1, fun j q1_q q2_q => by rw [zup_n (by omega)]; exact t.2.2 j q1_q q2_q⟩, by rw [zup_n (by omega)]; exact b, ⟨⟨by rw [zup_n (by omega), r0_q 1 (by omega)]; exact w1_q, by rw [zup_n (by omega), r0_q 2 (by omega)]; exact w2_q, by rw [zup_n (by omega), r0_q 3 (by omega)]; exact w3_q, by rw [zup_s, zup_s]⟩, fun c q1_q q2_q => ?_, fun m q1_q q2_q => ?_, fun j q1_q q2_q => by rw [zup_n (by omega), rx 12 j (by omega)]; exact w7_q j q1_q q2_q⟩, stR'_x k (fun j q => zup_n (by omega))⟩
  · rw [zup_n (fun q => q1_q (by rw [q.1, q.2]; exact hs))]; exact f x j q1_q q2_q
  · rw [r0_q 1 (by omega)] at q2_q
    rw [zup_n (by omega), zup_n (by omega), zup_n (by omega), zup_n (by omega), zup_n (by omega), zup_n (by omega), zup_n (by omega), zup_n (by omega)]; exact w5_q c q1_q q2_q
  · rw [r0_q 3 (by omega)] at q2_q
    rw [zup_n (by omega), zup_n (by omega), zup_n (by omega), zup_n (by omega), zup_n (by omega), zup_n (by omega)]; exact w6_q m q1_q q2_q
