/-! whole STATEMENTS -/
def wfr (σ0 σ : zv_H) (w : Int) : Prop := ∀ x k, ¬ (w ≤ x ∧ x ≤ w + 7) → x ≠ w + 12 → x ≠ 53 → ¬ (x = 52 ∧ 2 ≤ k ∧ k ≤ 8) → σ x k = σ0 x k
def stN (σ0 σ : zv_H) (T : Int → Int) (n w : Int) (A : zv_H) (p : Int) : Prop := RW σ T n w ∧ SCp σ T p ∧ wrN σ w T A ∧ wfr σ0 σ w
theorem wfr_t {σ0 σ σ' : zv_H} {w : Int} (h : wfr σ0 σ w) (t : tkf σ σ') : wfr σ0 σ' w := fun x k a b c d => by rw [t x k c (by omega)]; exact h x k a b c d
theorem stN_t {σ0 σ σ' : zv_H} {T : Int → Int} {n w p p' : Int} {A : zv_H} (h : stN σ0 σ T n w A p) (t : tks σ σ') (hs : SCp σ' T p') : stN σ0 σ' T n w A p' := ⟨RW_t h.1 t, hs, wrN_t h.1.2.2.2.2.1 h.2.2.1 (tks_f t), wfr_t h.2.2.2 (tks_f t)⟩
theorem RW_w {σ σ' : zv_H} {T : Int → Int} {n w : Int} (h : RW σ T n w) (h2 : ∀ x k, ¬ (w ≤ x ∧ x ≤ w + 12) → σ' x k = σ x k) : RW σ' T n w := by
  obtain ⟨⟨a, z7, z8⟩, b, c, d, e, g⟩ := h
  have hf := wr_far e
  refine ⟨⟨?_, by rw [h2 52 7 (by omega)]; exact z7, by rw [h2 52 8 (by omega)]; exact z8⟩, ?_, c, fun k q1 q2 => ?_, e, ?_⟩
  · rw [← a]
    funext k
    unfold tA
    rw [h2 2 1 (by omega), h2 3 k (by omega)]
  · rw [h2 2 1 (by omega)]; exact b
  · rw [h2 54 k (by omega)]; exact d k q1 q2
  · rw [h2 52 1 (by omega)]; exact g
theorem SC_x {σ σ' : zv_H} {T : Int → Int} {p : Int} (h : SCp σ T p) (e : ∀ k, σ' 53 k = σ 53 k) : SCp σ' T p := by
  unfold SCp
  rw [e, e, e, e, e, e, e]
  exact h
theorem stN_p {σ0 σ : zv_H} {T : Int → Int} {n w p i v r : Int} {A : zv_H} (h : stN σ0 σ T n w A p) (hr : 1 ≤ r ∧ r ≤ 7) (h1 : r ≤ 4 → A 0 1 ≤ i) (h2 : 5 ≤ r → A 0 3 ≤ i) : stN σ0 (zup σ (w + r) i v) T n w A p := by
  have hf := wr_far h.1.2.2.2.2.1
  obtain ⟨g1, g2, ⟨a, b, c, d⟩, g4⟩ := h
  refine ⟨RW_w g1 (fun x k q => zup_n (by omega)), SC_x g2 (fun k => zup_n (by omega)), ⟨fun k q1 q2 => by rw [zup_n (by omega)]; exact a k q1 q2, fun j q1 q2 => ?_, fun j q1 q2 => ?_, fun j q1 q2 => by rw [zup_n (by omega)]; exact d j q1 q2⟩, fun x k a b c d => by rw [zup_n (by omega)]; exact g4 x k a b c d⟩
  · rw [zup_n (by omega), zup_n (by omega), zup_n (by omega), zup_n (by omega)]; exact b j q1 q2
  · rw [zup_n (by omega), zup_n (by omega), zup_n (by omega)]; exact c j q1 q2
theorem k_tw {Γ : zv_M} {L : Int} {σ0 σ : zv_H} {T : Int → Int} {n w p : Int} {A : zv_H} {u : Int} (h : stN σ0 σ T n w A p) (hp : 0 ≤ p ∧ p ≤ n)  : zC Γ m_Reader_takeWord 3 0 0 (GM L) [zR 52, zI u] σ (zPI (GM L) (fun z σ' => (z = 1 ∧ ∃ X, tkWord T u p = Sum.inl X ∧ (True) ∧ stN σ0 σ' T n w A X ∧ (p < X ∧ X ≤ n) ∧ tks σ σ') ∨ (z = 0 ∧ ∃ k pl, tkWord T u p = Sum.inr (k, pl) ∧ flt σ' k pl ∧ wfr σ0 σ' w))) := by
  refine zC_mono (fun q G' σ' hq => ?_) (d_Reader_takeWord h.1 h.2.1 hp)
  obtain ⟨g1, z, g2, g3⟩ := hq
  refine ⟨g1, z, g2, ?_⟩
  rcases g3 with ⟨a, X, r⟩ | ⟨a, k, pl, b, c, d⟩
  · exact Or.inl ⟨a, X, r.1, trivial, stN_t h r.2.2.2 r.2.1, r.2.2.1, r.2.2.2⟩
  · exact Or.inr ⟨a, k, pl, b, c, wfr_t h.2.2.2 d⟩
theorem k_tn {Γ : zv_M} {L : Int} {σ0 σ : zv_H} {T : Int → Int} {n w p : Int} {A : zv_H} {lo hi : Int} (h : stN σ0 σ T n w A p) (hp : 0 ≤ p ∧ p ≤ n)  : zC Γ m_Reader_takeNumber 3 0 0 (GM L) [zR 52, zI lo, zI hi] σ (zPI (GM L) (fun z σ' => (z = 1 ∧ ∃ X, tkNum T lo hi p = Sum.inl X ∧ (σ' 52 4 = X.1 ∧ lo ≤ X.1 ∧ X.1 ≤ hi) ∧ stN σ0 σ' T n w A X.2 ∧ (p < X.2 ∧ X.2 ≤ n) ∧ tks σ σ') ∨ (z = 0 ∧ ∃ k pl, tkNum T lo hi p = Sum.inr (k, pl) ∧ flt σ' k pl ∧ wfr σ0 σ' w))) := by
  refine zC_mono (fun q G' σ' hq => ?_) (d_Reader_takeNumber h.1 h.2.1 hp)
  obtain ⟨g1, z, g2, g3⟩ := hq
  refine ⟨g1, z, g2, ?_⟩
  rcases g3 with ⟨a, X, r⟩ | ⟨a, k, pl, b, c, d⟩
  · exact Or.inl ⟨a, X, r.1, ⟨r.2.1, r.2.2.1⟩, stN_t h r.2.2.2.2.2 r.2.2.2.1, r.2.2.2.2.1, r.2.2.2.2.2⟩
  · exact Or.inr ⟨a, k, pl, b, c, wfr_t h.2.2.2 d⟩
theorem k_nn {Γ : zv_M} {L : Int} {σ0 σ : zv_H} {T : Int → Int} {n w p : Int} {A : zv_H}  (h : stN σ0 σ T n w A p) (hp : 0 ≤ p ∧ p ≤ n) (hA : AI T A) : zC Γ m_Reader_takeNewName 3 0 0 (GM L) [zR 52] σ (zPI (GM L) (fun z σ' => (z = 1 ∧ ∃ X, tkNew T A p = Sum.inl X ∧ (σ' 52 5 = tNm T p ∧ tK T p = 1) ∧ stN σ0 σ' T n w A X ∧ (p < X ∧ X ≤ n) ∧ tks σ σ') ∨ (z = 0 ∧ ∃ k pl, tkNew T A p = Sum.inr (k, pl) ∧ flt σ' k pl ∧ wfr σ0 σ' w))) := by
  refine zC_mono (fun q G' σ' hq => ?_) (d_Reader_takeNewName h.1 h.2.1 hp h.2.2.1 hA)
  obtain ⟨g1, z, g2, g3⟩ := hq
  refine ⟨g1, z, g2, ?_⟩
  rcases g3 with ⟨a, X, r⟩ | ⟨a, k, pl, b, c, d⟩
  · exact Or.inl ⟨a, X, r.1, ⟨r.2.1, r.2.2.1⟩, stN_t h r.2.2.2.2.2 r.2.2.2.1, r.2.2.2.2.1, r.2.2.2.2.2⟩
  · exact Or.inr ⟨a, k, pl, b, c, wfr_t h.2.2.2 d⟩
theorem k_tc {Γ : zv_M} {L : Int} {σ0 σ : zv_H} {T : Int → Int} {n w p : Int} {A : zv_H} {rf : Int} (h : stN σ0 σ T n w A p) (hp : 0 ≤ p ∧ p ≤ n) (hA : AI T A) (hrf : rf = -1 ∨ (0 ≤ rf ∧ rf < 7)) : zC Γ m_Reader_takeCounty 3 0 0 (GM L) [zR 52, zI rf] σ (zPI (GM L) (fun z σ' => (z = 1 ∧ ∃ X, tkCty T A rf p = Sum.inl X ∧ (σ' 52 6 = X.1 ∧ (0 ≤ X.1 ∧ X.1 < A 0 1) ∧ (rf ≠ -1 → X.1 ≠ rf)) ∧ stN σ0 σ' T n w A X.2 ∧ (p < X.2 ∧ X.2 ≤ n) ∧ tks σ σ') ∨ (z = 0 ∧ ∃ k pl, tkCty T A rf p = Sum.inr (k, pl) ∧ flt σ' k pl ∧ wfr σ0 σ' w))) := by
  refine zC_mono (fun q G' σ' hq => ?_) (d_Reader_takeCounty h.1 h.2.1 hp h.2.2.1 hA hrf)
  obtain ⟨g1, z, g2, g3⟩ := hq
  refine ⟨g1, z, g2, ?_⟩
  rcases g3 with ⟨a, X, r⟩ | ⟨a, k, pl, b, c, d⟩
  · exact Or.inl ⟨a, X, r.1, ⟨r.2.1, r.2.2.1, r.2.2.2.1⟩, stN_t h r.2.2.2.2.2.2 r.2.2.2.2.1, r.2.2.2.2.2.1, r.2.2.2.2.2.2⟩
  · exact Or.inr ⟨a, k, pl, b, c, wfr_t h.2.2.2 d⟩
theorem st_cty {σ0 σ : zv_H} {T : Int → Int} {n w p p0 q y g : Int} {A : zv_H} (h : stN σ0 σ T n w A p) (hA : AI T A) (hk : tK T p0 = 1) (hq : 0 ≤ q ∧ q ≤ 20) (hy : 0 ≤ y ∧ y ≤ 999) (hg : 0 ≤ g ∧ g ≤ 9) (hc : A 0 1 < 7) (f1 : σ (w + 1) (A 0 1) = tNm T p0) (f2 : σ (w + 2) (A 0 1) = q) (f3 : σ (w + 3) (A 0 1) = y) (f4 : σ (w + 4) (A 0 1) = g) : stN σ0 (zup σ w 1 (A 0 1 + 1)) T n w (zup (zup (zup (zup (zup A 1 (A 0 1) p0) 2 (A 0 1) q) 3 (A 0 1) y) 4 (A 0 1) g) 0 1 (A 0 1 + 1)) p ∧ AI T (zup (zup (zup (zup (zup A 1 (A 0 1) p0) 2 (A 0 1) q) 3 (A 0 1) y) 4 (A 0 1) g) 0 1 (A 0 1 + 1)) := by
  have hf := wr_far h.1.2.2.2.2.1
  obtain ⟨g1, g2, ⟨a, b, c, d⟩, g4⟩ := h
  obtain ⟨a0, a1, a2, a3, a4, a5, a6, a7⟩ := hA
  have e1 : ∀ i, i ≠ A 0 1 → zup (zup (zup (zup (zup A 1 (A 0 1) p0) 2 (A 0 1) q) 3 (A 0 1) y) 4 (A 0 1) g) 0 1 (A 0 1 + 1) 1 i = A 1 i := fun i hi => by rw [zup_n (by omega), zup_n (by omega), zup_n (by omega), zup_n (by omega), zup_n (by omega)]
  generalize hA' : zup (zup (zup (zup (zup A 1 (A 0 1) p0) 2 (A 0 1) q) 3 (A 0 1) y) 4 (A 0 1) g) 0 1 (A 0 1 + 1) = A'
  have r0 : ∀ k, k ≠ 1 → A' 0 k = A 0 k := fun k hk => by rw [← hA', zup_n (by omega), zup_n (by omega), zup_n (by omega), zup_n (by omega), zup_n (by omega)]
  have r01 : A' 0 1 = A 0 1 + 1 := by rw [← hA', zup_s]
  have rx : ∀ x k, (5 ≤ x ∨ (1 ≤ x ∧ k ≠ A 0 1)) → A' x k = A x k := fun x k hk => by rw [← hA', zup_n (by omega), zup_n (by omega), zup_n (by omega), zup_n (by omega), zup_n (by omega)]
  have s1 : A' 1 (A 0 1) = p0 := by rw [← hA', zup_n (by omega), zup_n (by omega), zup_n (by omega), zup_n (by omega), zup_s]
  have s2 : A' 2 (A 0 1) = q := by rw [← hA', zup_n (by omega), zup_n (by omega), zup_n (by omega), zup_s]
  have s3 : A' 3 (A 0 1) = y := by rw [← hA', zup_n (by omega), zup_n (by omega), zup_s]
  have s4 : A' 4 (A 0 1) = g := by rw [← hA', zup_n (by omega), zup_s]
  refine ⟨⟨RW_w g1 (fun x k q => zup_n (by omega)), SC_x g2 (fun k => zup_n (by omega)), ⟨fun k q1 q2 => ?_, fun i q1 q2 => ?_, fun i q1 q2 => ?_, fun i q1 q2 => ?_⟩, fun x k a b c d => by rw [zup_n (by omega)]; exact g4 x k a b c d⟩, ?_⟩
  · by_cases e : k = 1
    · rw [e, zup_s, r01]
    · rw [zup_n (by omega), r0 k e]; exact a k q1 q2
  · rw [r01] at q2
    rw [zup_n (by omega), zup_n (by omega), zup_n (by omega), zup_n (by omega)]
    by_cases e : i = A 0 1
    · rw [e, s1, s2, s3, s4]; exact ⟨f1, f2, f3, f4⟩
    · rw [rx 1 i (by omega), rx 2 i (by omega), rx 3 i (by omega), rx 4 i (by omega)]; exact b i q1 (by omega)
  · rw [r0 3 (by omega)] at q2
    rw [zup_n (by omega), zup_n (by omega), zup_n (by omega), rx 5 i (by omega), rx 6 i (by omega), rx 7 i (by omega)]; exact c i q1 q2
  · rw [zup_n (by omega), rx 12 i (by omega)]; exact d i q1 q2
  · refine ⟨by rw [r0 0 (by omega)]; exact a0, by rw [r01]; omega, by rw [r0 2 (by omega)]; exact a2, by rw [r0 3 (by omega)]; exact a3, by rw [r0 4 (by omega)]; exact a4, fun i q1 q2 => ?_, fun i q1 q2 => ?_, fun i q1 q2 => by rw [rx 12 i (by omega)]; exact a7 i q1 q2⟩
    · rw [r01] at q2
      by_cases e : i = A 0 1
      · rw [e, s1, s2, s3, s4]; exact ⟨hk, hq, hy, hg⟩
      · rw [rx 1 i (by omega), rx 2 i (by omega), rx 3 i (by omega), rx 4 i (by omega)]; exact a5 i q1 (by omega)
    · rw [r0 3 (by omega)] at q2
      rw [rx 5 i (by omega), rx 6 i (by omega), rx 7 i (by omega), r01]
      have := a6 i q1 q2
      exact ⟨this.1, by omega, this.2.2⟩
theorem st_man {σ0 σ : zv_H} {T : Int → Int} {n w p p0 q y : Int} {A : zv_H} (h : stN σ0 σ T n w A p) (hA : AI T A) (hk : tK T p0 = 1) (hq : 0 ≤ q ∧ q < A 0 1) (hy : 0 ≤ y ∧ y ≤ 63) (hc : A 0 3 < 6) (f1 : σ (w + 5) (A 0 3) = tNm T p0) (f2 : σ (w + 6) (A 0 3) = q) (f3 : σ (w + 7) (A 0 3) = y) : stN σ0 (zup σ w 3 (A 0 3 + 1)) T n w (zup (zup (zup (zup A 5 (A 0 3) p0) 6 (A 0 3) q) 7 (A 0 3) y) 0 3 (A 0 3 + 1)) p ∧ AI T (zup (zup (zup (zup A 5 (A 0 3) p0) 6 (A 0 3) q) 7 (A 0 3) y) 0 3 (A 0 3 + 1)) := by
  have hf := wr_far h.1.2.2.2.2.1
  obtain ⟨g1, g2, ⟨a, b, c, d⟩, g4⟩ := h
  obtain ⟨a0, a1, a2, a3, a4, a5, a6, a7⟩ := hA
  generalize hA' : zup (zup (zup (zup A 5 (A 0 3) p0) 6 (A 0 3) q) 7 (A 0 3) y) 0 3 (A 0 3 + 1) = A'
  have r0 : ∀ k, k ≠ 3 → A' 0 k = A 0 k := fun k hk => by rw [← hA', zup_n (by omega), zup_n (by omega), zup_n (by omega), zup_n (by omega)]
  have r01 : A' 0 3 = A 0 3 + 1 := by rw [← hA', zup_s]
  have rx : ∀ x k, ((1 ≤ x ∧ x ≤ 4) ∨ 8 ≤ x ∨ (1 ≤ x ∧ k ≠ A 0 3)) → A' x k = A x k := fun x k hk => by rw [← hA', zup_n (by omega), zup_n (by omega), zup_n (by omega), zup_n (by omega)]
  have s1 : A' 5 (A 0 3) = p0 := by rw [← hA', zup_n (by omega), zup_n (by omega), zup_n (by omega), zup_s]
  have s2 : A' 6 (A 0 3) = q := by rw [← hA', zup_n (by omega), zup_n (by omega), zup_s]
  have s3 : A' 7 (A 0 3) = y := by rw [← hA', zup_n (by omega), zup_s]
  refine ⟨⟨RW_w g1 (fun x k q => zup_n (by omega)), SC_x g2 (fun k => zup_n (by omega)), ⟨fun k q1 q2 => ?_, fun i q1 q2 => ?_, fun i q1 q2 => ?_, fun i q1 q2 => ?_⟩, fun x k a b c d => by rw [zup_n (by omega)]; exact g4 x k a b c d⟩, ?_⟩
  · by_cases e : k = 3
    · rw [e, zup_s, r01]
    · rw [zup_n (by omega), r0 k e]; exact a k q1 q2
  · rw [r0 1 (by omega)] at q2
    rw [zup_n (by omega), zup_n (by omega), zup_n (by omega), zup_n (by omega), rx 1 i (by omega), rx 2 i (by omega), rx 3 i (by omega), rx 4 i (by omega)]; exact b i q1 q2
  · rw [r01] at q2
    rw [zup_n (by omega), zup_n (by omega), zup_n (by omega)]
    by_cases e : i = A 0 3
    · rw [e, s1, s2, s3]; exact ⟨f1, f2, f3⟩
    · rw [rx 5 i (by omega), rx 6 i (by omega), rx 7 i (by omega)]; exact c i q1 (by omega)
  · rw [zup_n (by omega), rx 12 i (by omega)]; exact d i q1 q2
  · refine ⟨by rw [r0 0 (by omega)]; exact a0, by rw [r0 1 (by omega)]; exact a1, by rw [r0 2 (by omega)]; exact a2, by rw [r01]; omega, by rw [r0 4 (by omega)]; exact a4, fun i q1 q2 => ?_, fun i q1 q2 => ?_, fun i q1 q2 => by rw [rx 12 i (by omega)]; exact a7 i q1 q2⟩
    · rw [r0 1 (by omega)] at q2
      rw [rx 1 i (by omega), rx 2 i (by omega), rx 3 i (by omega), rx 4 i (by omega)]; exact a5 i q1 q2
    · rw [r01] at q2
      rw [r0 1 (by omega)]
      by_cases e : i = A 0 3
      · rw [e, s1, s2, s3]; exact ⟨hk, hq, hy⟩
      · rw [rx 5 i (by omega), rx 6 i (by omega), rx 7 i (by omega)]; exact a6 i q1 (by omega)
theorem st_ral {σ0 σ : zv_H} {T : Int → Int} {n w p f t v : Int} {A : zv_H} (h : stN σ0 σ T n w A p) (hA : AI T A) (hf : 0 ≤ f ∧ f < 7) (ht : 0 ≤ t ∧ t < 7) (hv : 1 ≤ v ∧ v ≤ 9) (hc : A 0 2 < 12) : stN σ0 (zup (zup (zup σ (w + 12) (f * 7 + t) v) (w + 12) (t * 7 + f) v) w 2 (A 0 2 + 1)) T n w (zup (zup (zup A 12 (f * 7 + t) v) 12 (t * 7 + f) v) 0 2 (A 0 2 + 1)) p ∧ AI T (zup (zup (zup A 12 (f * 7 + t) v) 12 (t * 7 + f) v) 0 2 (A 0 2 + 1)) := by
  have hwf := wr_far h.1.2.2.2.2.1
  obtain ⟨g1, g2, ⟨a, b, c, d⟩, g4⟩ := h
  obtain ⟨a0, a1, a2, a3, a4, a5, a6, a7⟩ := hA
  generalize hA' : zup (zup (zup A 12 (f * 7 + t) v) 12 (t * 7 + f) v) 0 2 (A 0 2 + 1) = A'
  have r0 : ∀ k, k ≠ 2 → A' 0 k = A 0 k := fun k hk => by rw [← hA', zup_n (by omega), zup_n (by omega), zup_n (by omega)]
  have r01 : A' 0 2 = A 0 2 + 1 := by rw [← hA', zup_s]
  have rx : ∀ x k, (1 ≤ x ∧ x ≠ 12) → A' x k = A x k := fun x k hk => by rw [← hA', zup_n (by omega), zup_n (by omega), zup_n (by omega)]
  have r12 : ∀ i, A' 12 i = if i = t * 7 + f ∨ i = f * 7 + t then v else A 12 i := fun i => by
    rw [← hA', zup_n (by omega)]
    by_cases e1 : i = t * 7 + f
    · rw [e1, zup_s, if_pos (Or.inl rfl)]
    · rw [zup_n (by omega)]
      by_cases e2 : i = f * 7 + t
      · rw [e2, zup_s, if_pos (Or.inr rfl)]
      · rw [zup_n (by omega), if_neg (by omega)]
  refine ⟨⟨RW_w g1 (fun x k q => by rw [zup_n (by omega), zup_n (by omega), zup_n (by omega)]), SC_x g2 (fun k => by rw [zup_n (by omega), zup_n (by omega), zup_n (by omega)]), ⟨fun k q1 q2 => ?_, fun i q1 q2 => ?_, fun i q1 q2 => ?_, fun i q1 q2 => ?_⟩, fun x k a b c d => by rw [zup_n (by omega), zup_n (by omega), zup_n (by omega)]; exact g4 x k a b c d⟩, ?_⟩
  · by_cases e : k = 2
    · rw [e, zup_s, r01]
    · rw [zup_n (by omega), zup_n (by omega), zup_n (by omega), r0 k e]; exact a k q1 q2
  · rw [r0 1 (by omega)] at q2
    have e : ∀ x, (w < x ∧ x < w + 12) → ∀ j, zup (zup (zup σ (w + 12) (f * 7 + t) v) (w + 12) (t * 7 + f) v) w 2 (A 0 2 + 1) x j = σ x j := fun x hx j => by rw [zup_n (by omega), zup_n (by omega), zup_n (by omega)]
    rw [e _ (by omega), e _ (by omega), e _ (by omega), e _ (by omega), rx 1 i (by omega), rx 2 i (by omega), rx 3 i (by omega), rx 4 i (by omega)]; exact b i q1 q2
  · rw [r0 3 (by omega)] at q2
    have e : ∀ x, (w < x ∧ x < w + 12) → ∀ j, zup (zup (zup σ (w + 12) (f * 7 + t) v) (w + 12) (t * 7 + f) v) w 2 (A 0 2 + 1) x j = σ x j := fun x hx j => by rw [zup_n (by omega), zup_n (by omega), zup_n (by omega)]
    rw [e _ (by omega), e _ (by omega), e _ (by omega), rx 5 i (by omega), rx 6 i (by omega), rx 7 i (by omega)]; exact c i q1 q2
  · rw [r12, zup_n (by omega)]
    by_cases e1 : i = t * 7 + f
    · rw [e1, zup_s, if_pos (Or.inl rfl), if_neg (by omega)]
    · rw [zup_n (by omega)]
      by_cases e2 : i = f * 7 + t
      · rw [e2, zup_s, if_pos (Or.inr rfl), if_neg (by omega)]
      · rw [zup_n (by omega), if_neg (show ¬ (i = t * 7 + f ∨ i = f * 7 + t) by omega)]; exact d i q1 q2
  · refine ⟨by rw [r0 0 (by omega)]; exact a0, by rw [r0 1 (by omega)]; exact a1, by rw [r01]; omega, by rw [r0 3 (by omega)]; exact a3, by rw [r0 4 (by omega)]; exact a4, fun i q1 q2 => ?_, fun i q1 q2 => ?_, fun i q1 q2 => ?_⟩
    · rw [r0 1 (by omega)] at q2
      rw [rx 1 i (by omega), rx 2 i (by omega), rx 3 i (by omega), rx 4 i (by omega)]; exact a5 i q1 q2
    · rw [r0 3 (by omega)] at q2
      rw [rx 5 i (by omega), rx 6 i (by omega), rx 7 i (by omega), r0 1 (by omega)]; exact a6 i q1 q2
    · rw [r12]
      have := a7 i q1 q2
      split <;> omega
theorem st_pst {σ0 σ : zv_H} {T : Int → Int} {n w p v : Int} {A : zv_H} (h : stN σ0 σ T n w A p) (hA : AI T A) (hv : 0 ≤ v ∧ v ≤ 9) : stN σ0 (zup σ w 4 v) T n w (zup A 0 4 v) p ∧ AI T (zup A 0 4 v) := by
  have hwf := wr_far h.1.2.2.2.2.1
  obtain ⟨g1, g2, ⟨a, b, c, d⟩, g4⟩ := h
  obtain ⟨a0, a1, a2, a3, a4, a5, a6, a7⟩ := hA
  have r0 : ∀ k, k ≠ 4 → zup A 0 4 v 0 k = A 0 k := fun k hk => zup_n (by omega)
  have rx : ∀ x k, x ≠ 0 → zup A 0 4 v x k = A x k := fun x k hk => zup_n (by omega)
  refine ⟨⟨RW_w g1 (fun x k q => zup_n (by omega)), SC_x g2 (fun k => zup_n (by omega)), ⟨fun k q1 q2 => ?_, fun i q1 q2 => ?_, fun i q1 q2 => ?_, fun i q1 q2 => ?_⟩, fun x k a b c d => by rw [zup_n (by omega)]; exact g4 x k a b c d⟩, ?_⟩
  · by_cases e : k = 4
    · rw [e, zup_s, zup_s]
    · rw [zup_n (by omega), r0 k e]; exact a k q1 q2
  · rw [r0 1 (by omega)] at q2
    rw [rx 1 i (by omega), rx 2 i (by omega), rx 3 i (by omega), rx 4 i (by omega), zup_n (by omega), zup_n (by omega), zup_n (by omega), zup_n (by omega)]; exact b i q1 q2
  · rw [r0 3 (by omega)] at q2
    rw [rx 5 i (by omega), rx 6 i (by omega), rx 7 i (by omega), zup_n (by omega), zup_n (by omega), zup_n (by omega)]; exact c i q1 q2
  · rw [zup_n (by omega), rx 12 i (by omega)]; exact d i q1 q2
  · refine ⟨by rw [r0 0 (by omega)]; exact a0, by rw [r0 1 (by omega)]; exact a1, by rw [r0 2 (by omega)]; exact a2, by rw [r0 3 (by omega)]; exact a3, by rw [zup_s]; exact hv, fun i q1 q2 => ?_, fun i q1 q2 => ?_, fun i q1 q2 => by rw [rx 12 i (by omega)]; exact a7 i q1 q2⟩
    · rw [r0 1 (by omega)] at q2
      rw [rx 1 i (by omega), rx 2 i (by omega), rx 3 i (by omega), rx 4 i (by omega)]; exact a5 i q1 q2
    · rw [r0 3 (by omega)] at q2
      rw [rx 5 i (by omega), rx 6 i (by omega), rx 7 i (by omega), r0 1 (by omega)]; exact a6 i q1 q2
