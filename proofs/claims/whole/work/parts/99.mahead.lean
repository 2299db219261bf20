set_option maxHeartbeats 4000000 in
set_option maxRecDepth 20000 in
theorem c_M_isAh {Γ : zv_M} {L : Int} {σ : zv_H} {w n lo hi : Int} (hw : σ 315 0 = w) (hwb : 0 ≤ w ∧ w ≤ 999) (hn : lo ≤ n → n ≤ hi → 0 ≤ n ∧ n ≤ 1000)  : zC Γ m_M_isAhead 1 0 0 (GM L) [zR 289, zI n, zI lo, zI hi] σ (zFn (some (zI (if (lo ≤ n ∧ n ≤ hi) ∧ n ≤ 999 - w then 1 else 0))) (GM L) σ) := by
  refine zC_of (ls0 := [_, _, _, _]) zm_M_isAhead (by decide) rfl (Nat.le_of_ble_eq_true rfl) ?_
  generalize hQ : (zFn (some (zI (if (lo ≤ n ∧ n ≤ hi) ∧ n ≤ 999 - w then 1 else 0))) (GM L) σ) = Q
  refine ziload_n (k := 0) rfl rfl ?_
  refine ziload_n (k := 1) rfl rfl ?_
  refine ziload_n (k := 2) rfl rfl ?_
  refine zfS1 (k := 3) rfl c_M_is fm_M_is lk_12_315 rfl rfl (Nat.le_of_ble_eq_true rfl) (by decide) ⟨by decide, by decide⟩ ?_
  refine zif_eq (k := 4) rfl rfl (fun c1 => ?_) (fun c1 => ?_)
  · skip
    refine ziconst (k := 15) rfl (by decide) ?_
    refine zzreturn (k := 16) rfl rfl (by first | exact Or.inl rfl | exact Or.inr rfl | omega) rfl ?_
    rw [← hQ]
    refine ⟨?_, rfl, rfl⟩
    first
    | (rw [if_pos (by omega)]; done)
    | (rw [if_neg (by omega)]; done)
  · skip
    have hl : lo ≤ n ∧ n ≤ hi := by split at c1 <;> first | assumption | (exfalso; omega)
    have hn2 := hn hl.1 hl.2
    refine zaload_n (k := 5) rfl rfl ?_
    refine zgF 45 (k := 6) rfl ob_289 fl_12_150 rfl fx_289_45 ?_
    refine ziconst (k := 7) rfl (by decide) ?_
    refine ziaload (k := 8) rfl ar_315 ⟨by omega, by omega⟩ ?_
    rw [hw]
    refine zsipush (k := 9) rfl rfl ?_
    refine ziload_n (k := 10) rfl rfl ?_
    refine zisubB (k := 11) rfl (by omega) ?_
    refine zicmp_gt (k := 12) rfl rfl (fun c2 => ?_) (fun c2 => ?_)
    · skip
      refine ziconst (k := 15) rfl (by decide) ?_
      refine zzreturn (k := 16) rfl rfl (by first | exact Or.inl rfl | exact Or.inr rfl | omega) rfl ?_
      rw [← hQ]
      refine ⟨?_, rfl, rfl⟩
      first
      | (rw [if_pos (by omega)]; done)
      | (rw [if_neg (by omega)]; done)
    · skip
      refine ziconst (k := 13) rfl (by decide) ?_
      refine zgoto (k := 14) rfl rfl ?_
      refine zzreturn (k := 16) rfl rfl (by first | exact Or.inl rfl | exact Or.inr rfl | omega) rfl ?_
      rw [← hQ]
      refine ⟨?_, rfl, rfl⟩
      first
      | (rw [if_pos (by omega)]; done)
      | (rw [if_neg (by omega)]; done)
theorem pas_00 {Wm S : zv_H} : (pasF Wm S).1 0 0 = min 999 (S 0 0 + 1) := by
  show zup (menF Wm S (Wm 0 3).toNat).1 0 0 (min 999 ((menF Wm S (Wm 0 3).toNat).1 0 0 + 1)) 0 0 = _
  rw [zup_s, men_00]
theorem goo_00 {Wm S : zv_H} (h : S 0 0 ≤ 999) : ∀ n : Nat, (gooF Wm S n).1 0 0 = min 999 (S 0 0 + n)
  | 0 => by show S 0 0 = _; omega
  | n + 1 => by
    show (pasF Wm (gooF Wm S n).1).1 0 0 = _
    rw [pas_00, goo_00 h n]
    omega
theorem pas_1 {Wm S : zv_H} (h : S 0 0 ≤ 998) : (pasF Wm S).1 = zup (menF Wm S (Wm 0 3).toNat).1 0 0 (S 0 0 + 1) := by
  show zup (menF Wm S (Wm 0 3).toNat).1 0 0 (min 999 ((menF Wm S (Wm 0 3).toNat).1 0 0 + 1)) = _
  rw [men_00, show min 999 (S 0 0 + 1) = S 0 0 + 1 by omega]
/-- what the model's questions about times ahead may change -/
def scrM (σ σ' : zv_H) : Prop := ∀ x k, ¬ inV 1 x k → ¬ (327 ≤ x ∧ x ≤ 331) → ¬ (x = 289 ∧ (k = 62 ∨ k = 66)) → σ' x k = σ x k
theorem scrM_rf (σ : zv_H) : scrM σ σ := fun _ _ _ _ _ => rfl
theorem scrM_st {σ σ' Wm S : zv_H} {b e : Int} (h : stM (zup σ 289 62 e) σ' b 1 Wm S) : scrM σ σ' := fun x k a c d => by rw [h.2.2.2 x k a (by omega) (by omega), zup_n (by omega)]
theorem scrM_s0 {σ σ' Wm S : zv_H} {b : Int} (h : stM σ σ' b 1 Wm S) : scrM σ σ' := fun x k a c d => by rw [h.2.2.2 x k a (by omega) (by omega)]
theorem scrM_15 {σ σ' : zv_H} (h : scrM σ σ') : σ' 315 0 = σ 315 0 := h 315 0 (by unfold inV; omega) (by omega) (by omega)
theorem wM_fr {σ σ' Wm : zv_H} {b : Int} (h : wM σ b Wm) (he : ∀ x k, 291 ≤ x → x ≤ 307 → σ' x k = σ x k) : wM σ' b Wm := by
  have yf : ∀ x, 291 ≤ x → x ≤ 307 → σ' x = σ x := fun x h1 h2 => funext (fun k => he x k h1 h2)
  unfold wM fmM at h ⊢
  rw [yf 291 (by omega) (by omega), yf 292 (by omega) (by omega), yf 293 (by omega) (by omega), yf 294 (by omega) (by omega), yf 295 (by omega) (by omega), yf 297 (by omega) (by omega), yf 298 (by omega) (by omega), yf 299 (by omega) (by omega), yf 300 (by omega) (by omega), yf 301 (by omega) (by omega), yf 302 (by omega) (by omega), yf 303 (by omega) (by omega), yf 304 (by omega) (by omega), yf 305 (by omega) (by omega), yf 306 (by omega) (by omega), yf 307 (by omega) (by omega)]
  exact h
theorem rM_v {σ σ' S : zv_H} {nc nm v : Int} (h : rM σ nc nm v S) (hnc : nc ≤ 7) (hnm : nm ≤ 6) (h12 : S 0 12 ≤ 60) (he : ∀ x k, inV v x k → σ' x k = σ x k) : rM σ' nc nm v S := by
  obtain ⟨⟨a1, a2⟩, b, c, d, e⟩ := h
  refine ⟨⟨by rw [he 315 v (by unfold inV; omega)]; exact a1, by rw [he 325 v (by unfold inV; omega)]; exact a2⟩, fun k h1 h2 => ?_, fun k h1 h2 => ?_, fun m k h1 h2 h3 h4 => ?_, fun k h1 h2 => ?_⟩
  · rw [he 316 _ (by unfold inV; omega), he 317 _ (by unfold inV; omega), he 318 _ (by unfold inV; omega)]; exact b k h1 h2
  · rw [he 319 _ (by unfold inV; omega), he 320 _ (by unfold inV; omega), he 321 _ (by unfold inV; omega), he 322 _ (by unfold inV; omega), he 323 _ (by unfold inV; omega)]; exact c k h1 h2
  · rw [he 324 _ (by unfold inV; omega)]; exact d m k h1 h2 h3 h4
  · rw [he 326 _ (by unfold inV; omega), he 326 _ (by unfold inV; omega), he 326 _ (by unfold inV; omega), he 326 _ (by unfold inV; omega)]; exact e k h1 h2
theorem inV_d {v t x k : Int} (h : inV v x k) (hne : v ≠ t) : ¬ inV t x k := by
  unfold inV at h ⊢
  omega
theorem k_mcopy {Γ : zv_M} {L : Int} {σ Wm S : zv_H} {b t f : Int} (ht : 0 ≤ t ∧ t < 22) (hf : 0 ≤ f ∧ f < 22) (hne : t ≠ f) (hr : rM σ (Wm 0 1) (Wm 0 3) f S) (hw : wM σ b Wm) (hb : σ 289 13 = b) (hWI : WI Wm) (h12 : 0 ≤ S 0 12 ∧ S 0 12 ≤ 60) : zC Γ m_M_copies 0 0 0 (GM L) [zR 289, zI t, zI f] σ (zP0 (GM L) (fun σ' => stM σ σ' b t Wm S)) := by
  refine zC_mono (fun q G' σ' hq => ?_) (c_M_copies ht hf hne (by rw [hr.1.2]; exact h12))
  obtain ⟨g1, g2, h1, h2, h3⟩ := hq
  refine ⟨g1, g2, cpd_rM h1 h2 h3 hr hWI.1.2 hWI.2.2.1.2, wM_fr hw (fun x k q1 q2 => h1.1 x k (by unfold inV; omega)), by rw [h1.1 289 13 (by unfold inV; omega)]; exact hb, fun x k a _ _ => h1.1 x k a⟩
