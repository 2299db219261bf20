/-! a configuration of the machine, as the model keeps it -/
def inF (i x k : Int) : Prop := (308 ≤ x ∧ x ≤ 313) ∨ ((x = 304 ∨ x = 305) ∧ 1600 * i ≤ k ∧ k < 1600 * i + 1600) ∨ (x = 289 ∧ (k = 31 ∨ k = 33 ∨ (39 ≤ k ∧ k ≤ 43)))
theorem rdR_k {s : zSpan} {σ : zv_H} {T : Int → Int} {n i x k v : Int} {A : zv_H} {r : zX Int} (h : rdR s σ T n i A r) (hF : ∀ x k, inF i x k → s.2 x k) (hx : inF i x k) : rdR s (zup σ x k v) T n i A r := by
  have hq : (304 ≤ x ∧ x ≤ 305) ∨ (308 ≤ x ∧ x ≤ 313) ∨ (x = 289 ∧ (k = 31 ∨ k = 33 ∨ (39 ≤ k ∧ k ≤ 43))) := by
    rcases hx with q | q | q
    · exact Or.inr (Or.inl q)
    · exact Or.inl (by omega)
    · exact Or.inr (Or.inr q)
  have hs := hF x k hx
  obtain ⟨f, t, b, ⟨w1_q, w2_q, w3_q, w4_q⟩, g⟩ := h
  refine ⟨fun y j q1_q q2_q => ?_, ⟨by rw [zup_n (by omega)]; exact t.1, t.2.1, fun j q1_q q2_q => by rw [zup_n (by omega)]; exact t.2.2 j q1_q q2_q⟩, by rw [zup_n (by omega)]; exact b, ⟨by rw [zup_n (by omega), zup_n (by omega), zup_n (by omega), zup_n (by omega)]; exact w1_q, fun c q1_q q2_q => ?_, fun c q1_q q2_q => ?_, fun c q1_q q2_q => by rw [zup_n (by omega)]; exact w4_q c q1_q q2_q⟩, stR'_x g (fun j q => zup_n (by omega))⟩
  · rw [zup_n (fun q => q1_q (by rw [q.1, q.2]; exact hs))]; exact f y j q1_q q2_q
  · rw [zup_n (by omega), zup_n (by omega), zup_n (by omega), zup_n (by omega)]; exact w2_q c q1_q q2_q
  · rw [zup_n (by omega), zup_n (by omega), zup_n (by omega)]; exact w3_q c q1_q q2_q
def cfM (s : zSpan) (σ : zv_H) (T : Int → Int) (n i : Int) (A : zv_H) (lk : Bool) (p : Int) (F : List zFr) (out : List (Int × Int)) (o : Int) : Prop := rdR s σ T n i A (Sum.inl p) ∧ frM σ F (σ 289 42) ∧ σ 289 39 = (F.length : Int) ∧ ouM σ i out ∧ σ 289 31 = (out.length : Int) ∧ σ 289 40 = o ∧ σ 289 33 = zB lk
theorem cfM_s {s : zSpan} {σ : zv_H} {T : Int → Int} {n i p o : Int} {A : zv_H} {lk : Bool} {F : List zFr} {out : List (Int × Int)} {σ' : zv_H} {p' : Int} (hc : cfM s σ T n i A lk p F out o) (e : sfe σ σ') (h : rdR s σ' T n i A (Sum.inl p')) : cfM s σ' T n i A lk p' F out o := by
  obtain ⟨_, f, d, u, c, g, l⟩ := hc
  exact ⟨h, by rw [e 289 42 (by omega)]; exact frM_x f (fun x k hx _ _ => e x k (by omega)) (fun k _ _ => e 313 k (by omega)), by rw [e 289 39 (by omega)]; exact d, ouM_x u (fun x k q _ _ => e x k (by omega)), by rw [e 289 31 (by omega)]; exact c, by rw [e 289 40 (by omega)]; exact g, by rw [e 289 33 (by omega)]; exact l⟩
theorem cfM_a {s : zSpan} {σ : zv_H} {T : Int → Int} {n i p o : Int} {A : zv_H} {lk : Bool} {F : List zFr} {out : List (Int × Int)} {a v : Int} (hF : ∀ x k, inF i x k → s.2 x k) (hc : cfM s σ T n i A lk p F out o) (hn : out.length < 1600) : cfM s (zup (zup (zup σ 304 (1600 * i + (out.length : Int)) a) 305 (1600 * i + (out.length : Int)) v) 289 31 ((out.length : Int) + 1)) T n i A lk p F ((a, v) :: out) o := by
  obtain ⟨h, f, d, u, c, g, l⟩ := hc
  have e : ∀ x k, ¬ (x = 304 ∨ x = 305) → ¬ (x = 289 ∧ k = 31) → zup (zup (zup σ 304 (1600 * i + (out.length : Int)) a) 305 (1600 * i + (out.length : Int)) v) 289 31 ((out.length : Int) + 1) x k = σ x k := fun x k q1_q q2_q => by rw [zup_n (by omega), zup_n (by omega), zup_n (by omega)]
  exact ⟨rdR_k (rdR_k (rdR_k h hF (Or.inr (Or.inl ⟨Or.inl rfl, by omega, by omega⟩))) hF (Or.inr (Or.inl ⟨Or.inr rfl, by omega, by omega⟩))) hF (Or.inr (Or.inr ⟨rfl, Or.inl rfl⟩)), by rw [e 289 42 (by omega) (by omega)]; exact frM_x f (fun x k hx _ _ => e x k (by omega) (by omega)) (fun k _ _ => e 313 k (by omega) (by omega)), by rw [e 289 39 (by omega) (by omega)]; exact d, ouM_c u, by rw [zup_s, List.length_cons]; omega, by rw [e 289 40 (by omega) (by omega)]; exact g, by rw [e 289 33 (by omega) (by omega)]; exact l⟩
/-- the frame on top changes -/
theorem cfM_t {s : zSpan} {σ : zv_H} {T : Int → Int} {n i p o kd ph pr : Int} {A : zv_H} {lk bg : Bool} {ops : List Int} {R : List zFr} {out : List (Int × Int)} {x v kd' ph' pr' : Int} {b' : Bool} (hF : ∀ x k, inF i x k → s.2 x k) (hc : cfM s σ T n i A lk p ((kd, ph, bg, pr, ops) :: R) out o) (hx : 308 ≤ x ∧ x ≤ 311) (h1_q : zup σ x (R.length : Int) v 308 (R.length : Int) = kd') (h2_q : zup σ x (R.length : Int) v 309 (R.length : Int) = ph') (h3_q : zup σ x (R.length : Int) v 310 (R.length : Int) = zB b') (h4_q : (kd' = 3 ∨ kd' = 4 ∨ kd' = 6) → zup σ x (R.length : Int) v 311 (R.length : Int) = pr') : cfM s (zup σ x (R.length : Int) v) T n i A lk p ((kd', ph', b', pr', ops) :: R) out o := by
  obtain ⟨h, ⟨⟨f1_q, f2_q, f3_q, f4_q, f5_q⟩, f6_q, f7_q⟩, d, u, c, g, l⟩ := hc
  exact ⟨rdR_k h hF (Or.inl (by omega)), by rw [zup_n (by omega)]; exact ⟨⟨h1_q, h2_q, h3_q, h4_q, by rw [zup_n (by omega)]; exact f5_q⟩, opM_x f6_q (fun k _ _ => zup_n (by omega)), frM_x f7_q (fun y k hy k1_q k2_q => zup_n (by omega)) (fun k _ _ => zup_n (by omega))⟩, by rw [zup_n (by omega)]; exact d, ouM_x u (fun y k q _ _ => zup_n (by omega)), by rw [zup_n (by omega)]; exact c, by rw [zup_n (by omega)]; exact g, by rw [zup_n (by omega)]; exact l⟩
theorem cfM_b {s : zSpan} {σ : zv_H} {T : Int → Int} {n i p o kd ph pr : Int} {A : zv_H} {lk bg : Bool} {ops : List Int} {R : List zFr} {out : List (Int × Int)} {v : Int} {b' : Bool} (hF : ∀ x k, inF i x k → s.2 x k) (hc : cfM s σ T n i A lk p ((kd, ph, bg, pr, ops) :: R) out o) (hv : v = zB b') : cfM s (zup σ 310 (R.length : Int) v) T n i A lk p ((kd, ph, b', pr, ops) :: R) out o := by
  have f := hc.2.1.1
  exact cfM_t hF hc (by omega) (by rw [zup_n (by omega)]; exact f.1) (by rw [zup_n (by omega)]; exact f.2.1) (by rw [zup_s]; exact hv) (fun q => by rw [zup_n (by omega)]; exact f.2.2.2.1 q)
theorem cfM_ph {s : zSpan} {σ : zv_H} {T : Int → Int} {n i p o kd ph pr : Int} {A : zv_H} {lk bg : Bool} {ops : List Int} {R : List zFr} {out : List (Int × Int)} {v : Int} (hF : ∀ x k, inF i x k → s.2 x k) (hc : cfM s σ T n i A lk p ((kd, ph, bg, pr, ops) :: R) out o) : cfM s (zup σ 309 (R.length : Int) v) T n i A lk p ((kd, v, bg, pr, ops) :: R) out o := by
  have f := hc.2.1.1
  exact cfM_t hF hc (by omega) (by rw [zup_n (by omega)]; exact f.1) (by rw [zup_s]) (by rw [zup_n (by omega)]; exact f.2.2.1) (fun q => by rw [zup_n (by omega)]; exact f.2.2.2.1 q)
theorem cfM_pr {s : zSpan} {σ : zv_H} {T : Int → Int} {n i p o kd ph pr : Int} {A : zv_H} {lk bg : Bool} {ops : List Int} {R : List zFr} {out : List (Int × Int)} {v : Int} (hF : ∀ x k, inF i x k → s.2 x k) (hc : cfM s σ T n i A lk p ((kd, ph, bg, pr, ops) :: R) out o) : cfM s (zup σ 311 (R.length : Int) v) T n i A lk p ((kd, ph, bg, v, ops) :: R) out o := by
  have f := hc.2.1.1
  exact cfM_t hF hc (by omega) (by rw [zup_n (by omega)]; exact f.1) (by rw [zup_n (by omega)]; exact f.2.1) (by rw [zup_n (by omega)]; exact f.2.2.1) (fun q => by rw [zup_s])
theorem cfM_kd {s : zSpan} {σ : zv_H} {T : Int → Int} {n i p o kd ph pr : Int} {A : zv_H} {lk bg : Bool} {ops : List Int} {R : List zFr} {out : List (Int × Int)} {v : Int} (hF : ∀ x k, inF i x k → s.2 x k) (hc : cfM s σ T n i A lk p ((kd, ph, bg, pr, ops) :: R) out o) (hv : (v = 3 ∨ v = 4 ∨ v = 6) → (kd = 3 ∨ kd = 4 ∨ kd = 6)) : cfM s (zup σ 308 (R.length : Int) v) T n i A lk p ((v, ph, bg, pr, ops) :: R) out o := by
  have f := hc.2.1.1
  exact cfM_t hF hc (by omega) (by rw [zup_s]) (by rw [zup_n (by omega)]; exact f.2.1) (by rw [zup_n (by omega)]; exact f.2.2.1) (fun q => by rw [zup_n (by omega)]; exact f.2.2.2.1 (hv q))
theorem cfM_o {s : zSpan} {σ : zv_H} {T : Int → Int} {n i p o : Int} {A : zv_H} {lk : Bool} {F : List zFr} {out : List (Int × Int)} {v : Int} (hF : ∀ x k, inF i x k → s.2 x k) (hc : cfM s σ T n i A lk p F out o) : cfM s (zup σ 289 40 v) T n i A lk p F out v := by
  obtain ⟨h, f, d, u, c, g, l⟩ := hc
  exact ⟨rdR_k h hF (Or.inr (Or.inr ⟨rfl, by omega⟩)), by rw [zup_n (by omega)]; exact frM_x f (fun x k hx _ _ => zup_n (by omega)) (fun k _ _ => zup_n (by omega)), by rw [zup_n (by omega)]; exact d, ouM_x u (fun x k q _ _ => zup_n (by omega)), by rw [zup_n (by omega)]; exact c, by rw [zup_s], by rw [zup_n (by omega)]; exact l⟩
theorem cfM_43 {s : zSpan} {σ : zv_H} {T : Int → Int} {n i p o : Int} {A : zv_H} {lk : Bool} {F : List zFr} {out : List (Int × Int)} {v : Int} (hF : ∀ x k, inF i x k → s.2 x k) (hc : cfM s σ T n i A lk p F out o) : cfM s (zup σ 289 43 v) T n i A lk p F out o := by
  obtain ⟨h, f, d, u, c, g, l⟩ := hc
  exact ⟨rdR_k h hF (Or.inr (Or.inr ⟨rfl, by omega⟩)), by rw [zup_n (by omega)]; exact frM_x f (fun x k hx _ _ => zup_n (by omega)) (fun k _ _ => zup_n (by omega)), by rw [zup_n (by omega)]; exact d, ouM_x u (fun x k q _ _ => zup_n (by omega)), by rw [zup_n (by omega)]; exact c, by rw [zup_n (by omega)]; exact g, by rw [zup_n (by omega)]; exact l⟩
theorem cfM_h {s : zSpan} {σ : zv_H} {T : Int → Int} {n i p o kd ph pr : Int} {A : zv_H} {lk bg : Bool} {ops : List Int} {R : List zFr} {out : List (Int × Int)} {x m : Int} (hF : ∀ x k, inF i x k → s.2 x k) (hc : cfM s σ T n i A lk p ((kd, ph, bg, pr, ops) :: R) out o) (hm : σ 289 42 = m) : cfM s (zup (zup σ 313 m x) 289 42 (m + 1)) T n i A lk p ((kd, ph, bg, pr, x :: ops) :: R) out o := by
  obtain ⟨h, ⟨⟨f1_q, f2_q, f3_q, f4_q, f5_q⟩, f6_q, f7_q⟩, d, u, c, g, l⟩ := hc
  rw [hm] at f5_q f6_q f7_q
  have e : ∀ y k, ¬ (y = 313 ∧ k = m) → ¬ (y = 289 ∧ k = 42) → zup (zup σ 313 m x) 289 42 (m + 1) y k = σ y k := fun y k q1_q q2_q => by rw [zup_n (by omega), zup_n (by omega)]
  refine ⟨rdR_k (rdR_k h hF (Or.inl (by omega))) hF (Or.inr (Or.inr ⟨rfl, by omega⟩)), ?_, by rw [e 289 39 (by omega) (by omega)]; exact d, ouM_x u (fun y k q _ _ => e y k (by omega) (by omega)), by rw [e 289 31 (by omega) (by omega)]; exact c, by rw [e 289 40 (by omega) (by omega)]; exact g, by rw [e 289 33 (by omega) (by omega)]; exact l⟩
  rw [zup_s]
  have hl : ((x :: ops).length : Int) = (ops.length : Int) + 1 := by rw [List.length_cons]; omega
  refine ⟨⟨by rw [e _ _ (by omega) (by omega)]; exact f1_q, by rw [e _ _ (by omega) (by omega)]; exact f2_q, by rw [e _ _ (by omega) (by omega)]; exact f3_q, fun q => by rw [e _ _ (by omega) (by omega)]; exact f4_q q, by rw [e _ _ (by omega) (by omega), hl, f5_q]; omega⟩, ⟨by rw [zup_n (by omega), show m + 1 - 1 = m by omega, zup_s], ?_⟩, ?_⟩
  · rw [show m + 1 - 1 = m by omega]
    exact opM_x f6_q (fun k k1_q k2_q => e 313 k (by omega) (by omega))
  · rw [hl, show m + 1 - ((ops.length : Int) + 1) = m - (ops.length : Int) by omega]
    exact frM_x f7_q (fun y k hy k1_q k2_q => e y k (by omega) (by omega)) (fun k k1_q k2_q => e 313 k (by omega) (by omega))
theorem cfM_p {s : zSpan} {σ : zv_H} {T : Int → Int} {n i p o : Int} {A : zv_H} {lk : Bool} {F : List zFr} {out : List (Int × Int)} {pr : Int} {x : Int} (hF : ∀ x k, inF i x k → s.2 x k) (hc : cfM s σ T n i A lk p F out o) (hpr : (x = 3 ∨ x = 4 ∨ x = 6) → pr = σ 311 (F.length : Int)) : cfM s (zup (zup (zup (zup (zup σ 308 (F.length : Int) x) 309 (F.length : Int) 0) 310 (F.length : Int) 1) 312 (F.length : Int) (σ 289 42)) 289 39 ((F.length : Int) + 1)) T n i A lk p ((x, 0, true, pr, []) :: F) out o := by
  obtain ⟨h, f, d, u, c, g, l⟩ := hc
  have e : ∀ y k, ¬ ((308 ≤ y ∧ y ≤ 312 ∧ y ≠ 311) ∧ k = (F.length : Int)) → ¬ (y = 289 ∧ k = 39) → zup (zup (zup (zup (zup σ 308 (F.length : Int) x) 309 (F.length : Int) 0) 310 (F.length : Int) 1) 312 (F.length : Int) (σ 289 42)) 289 39 ((F.length : Int) + 1) y k = σ y k := fun y k q1_q q2_q => by rw [zup_n (by omega), zup_n (by omega), zup_n (by omega), zup_n (by omega), zup_n (by omega)]
  refine ⟨rdR_k (rdR_k (rdR_k (rdR_k (rdR_k h hF (Or.inl (by omega))) hF (Or.inl (by omega))) hF (Or.inl (by omega))) hF (Or.inl (by omega))) hF (Or.inr (Or.inr ⟨rfl, by omega⟩)), ?_, by rw [zup_s, List.length_cons]; omega, ouM_x u (fun y k q _ _ => e y k (by omega) (by omega)), by rw [e 289 31 (by omega) (by omega)]; exact c, by rw [e 289 40 (by omega) (by omega)]; exact g, by rw [e 289 33 (by omega) (by omega)]; exact l⟩
  rw [e 289 42 (by omega) (by omega)]
  refine ⟨⟨by rw [zup_n (by omega), zup_n (by omega), zup_n (by omega), zup_n (by omega), zup_s], by rw [zup_n (by omega), zup_n (by omega), zup_n (by omega), zup_s], by rw [zup_n (by omega), zup_n (by omega), zup_s]; rfl, fun q => by rw [e 311 _ (by omega) (by omega)]; exact (hpr q).symm, by rw [zup_n (by omega), zup_s, List.length_nil]; omega⟩, trivial, ?_⟩
  rw [List.length_nil, show σ 289 42 - ((0 : Nat) : Int) = σ 289 42 by omega]
  exact frM_x f (fun y k hy k1_q k2_q => e y k (by omega) (by omega)) (fun k k1_q k2_q => e 313 k (by omega) (by omega))
theorem cfM_pop {s : zSpan} {σ : zv_H} {T : Int → Int} {n i p o kd ph pr : Int} {A : zv_H} {lk bg : Bool} {R : List zFr} {out : List (Int × Int)} (hF : ∀ x k, inF i x k → s.2 x k) (hc : cfM s σ T n i A lk p ((kd, ph, bg, pr, []) :: R) out o) : cfM s (zup σ 289 39 (R.length : Int)) T n i A lk p R out o := by
  obtain ⟨h, ⟨⟨f1_q, f2_q, f3_q, f4_q, f5_q⟩, f6_q, f7_q⟩, d, u, c, g, l⟩ := hc
  rw [List.length_nil, show σ 289 42 - ((0 : Nat) : Int) = σ 289 42 by omega] at f7_q
  exact ⟨rdR_k h hF (Or.inr (Or.inr ⟨rfl, by omega⟩)), by rw [zup_n (by omega)]; exact frM_x f7_q (fun y k hy k1_q k2_q => zup_n (by omega)) (fun k k1_q k2_q => zup_n (by omega)), by rw [zup_s], ouM_x u (fun y k q _ _ => zup_n (by omega)), by rw [zup_n (by omega)]; exact c, by rw [zup_n (by omega)]; exact g, by rw [zup_n (by omega)]; exact l⟩
/-- what is joined -/
theorem cfM_j {s : zSpan} {σ : zv_H} {T : Int → Int} {n i p o kd ph pr : Int} {A : zv_H} {lk bg : Bool} {ops : List Int} {R : List zFr} {out : List (Int × Int)} {σ' : zv_H} {r : List Int} {u : List (Int × Int)} {o' m' base : Int} (hF : ∀ x k, inF i x k → s.2 x k) (hc : cfM s σ T n i A lk p ((kd, ph, bg, pr, ops) :: R) out o) (hN : out.length + ops.length ≤ 1600) (hb : base = σ 289 42 - (ops.length : Int)) (h2_q : jnM σ σ' i base out.length (out.length + ops.length) r u o' m') : cfM s σ' T n i A lk p ((kd, ph, bg, pr, r) :: R) u o' := by
  obtain ⟨h, ⟨⟨f1_q, f2_q, f3_q, f4_q, f5_q⟩, f6_q, f7_q⟩, d, w, c, g, l⟩ := hc
  obtain ⟨j, a, b, c5_q, d5_q, e5_q, g5_q, n5_q, k5_q⟩ := h2_q
  have e : ∀ y k, ¬ (y = 304 ∨ y = 305) → ¬ (y = 289 ∧ (k = 31 ∨ k = 40 ∨ k = 42)) → σ' y k = σ y k := fun y k q1_q q2_q => j y k q2_q (by omega)
  refine ⟨?_, ?_, by rw [e 289 39 (by omega) (by omega)]; exact d, d5_q, e5_q, g5_q, by rw [e 289 33 (by omega) (by omega)]; exact l⟩
  · obtain ⟨q1_q, q2_q, q3_q, ⟨w1_q, w2_q, w3_q, w4_q⟩, q5_q⟩ := h
    refine ⟨fun y k z1_q z2_q => ?_, ⟨by rw [e _ _ (by omega) (by omega)]; exact q2_q.1, q2_q.2.1, fun k k1_q k2_q => by rw [e _ _ (by omega) (by omega)]; exact q2_q.2.2 k k1_q k2_q⟩, by rw [e _ _ (by omega) (by omega)]; exact q3_q, ⟨by rw [e _ _ (by omega) (by omega), e _ _ (by omega) (by omega), e _ _ (by omega) (by omega), e _ _ (by omega) (by omega)]; exact w1_q, fun c k1_q k2_q => by rw [e _ _ (by omega) (by omega), e _ _ (by omega) (by omega), e _ _ (by omega) (by omega), e _ _ (by omega) (by omega)]; exact w2_q c k1_q k2_q, fun c k1_q k2_q => by rw [e _ _ (by omega) (by omega), e _ _ (by omega) (by omega), e _ _ (by omega) (by omega)]; exact w3_q c k1_q k2_q, fun c k1_q k2_q => by rw [e _ _ (by omega) (by omega)]; exact w4_q c k1_q k2_q⟩, stR'_x q5_q (fun k q => e _ _ (by omega) (by omega))⟩
    have z3_q : ¬ inF i y k := fun q => z1_q (hF y k q)
    have z4_q : ¬ (y = 289 ∧ (k = 31 ∨ k = 40 ∨ k = 42)) := fun q => z3_q (Or.inr (Or.inr ⟨q.1, by omega⟩))
    have z5_q : ¬ ((y = 304 ∨ y = 305) ∧ 1600 * i + (out.length : Int) ≤ k ∧ k < 1600 * i + 1600) := fun q => z3_q (Or.inr (Or.inl ⟨q.1, by omega, q.2.2⟩))
    rw [j y k z4_q z5_q]
    exact q1_q y k z1_q z2_q
  · rw [a]
    refine ⟨⟨by rw [e _ _ (by omega) (by omega)]; exact f1_q, by rw [e _ _ (by omega) (by omega)]; exact f2_q, by rw [e _ _ (by omega) (by omega)]; exact f3_q, fun q => by rw [e _ _ (by omega) (by omega)]; exact f4_q q, by rw [e _ _ (by omega) (by omega), f5_q]; omega⟩, c5_q, ?_⟩
    rw [b, hb]
    exact frM_x f7_q (fun y k hy k1_q k2_q => e y k (by omega) (by omega)) (fun k k1_q k2_q => e 313 k (by omega) (by omega))
