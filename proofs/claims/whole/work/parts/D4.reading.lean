/-! STATEMENTS: the model reads; out is all that is written in bank i, latest first -/
def fmT (σ : zv_H) (i g : Int) (cs out : List (Int × Int)) : Prop := (cs = [] ∧ σ 302 (2 * i + g) = -1) ∨ (cs ≠ [] ∧ ∃ pre post : List (Int × Int), out = post ++ (cs.reverse ++ pre) ∧ σ 302 (2 * i + g) = (pre.length : Int) ∧ σ 303 (2 * i + g) = (pre.length : Int) + (cs.length : Int))
def inZt (i x k : Int) : Prop := inW i x k ∨ inF i x k ∨ ((x = 302 ∨ x = 303) ∧ 2 * i ≤ k ∧ k < 2 * i + 2)
def stS (s : zSpan) (σ : zv_H) (T : Int → Int) (n i : Int) (A : zv_H) (J K out : List (Int × Int)) (p : Int) : Prop := rdR s σ T n i A (Sum.inl p) ∧ AI T A ∧ ouM σ i out ∧ σ 289 31 = (out.length : Int) ∧ (out.length : Int) ≤ p ∧ fmT σ i 0 J out ∧ fmT σ i 1 K out ∧ ckO out ∧ rlA A
theorem fmT_x {σ σ' : zv_H} {i g : Int} {cs out post : List (Int × Int)} (h : fmT σ i g cs out) (h2_q : σ' 302 (2 * i + g) = σ 302 (2 * i + g)) (h3_q : σ' 303 (2 * i + g) = σ 303 (2 * i + g)) : fmT σ' i g cs (post ++ out) := by
  rcases h with ⟨a, b⟩ | ⟨a, pre, q, b, c, d⟩
  · exact Or.inl ⟨a, by rw [h2_q]; exact b⟩
  · exact Or.inr ⟨a, pre, post ++ q, by rw [b, List.append_assoc], by rw [h2_q]; exact c, by rw [h3_q]; exact d⟩
theorem fmT_0 {σ : zv_H} {i g : Int} {cs out : List (Int × Int)} (h : fmT σ i g cs out) : (σ 302 (2 * i + g) = -1 ↔ cs = []) := by
  rcases h with ⟨a, b⟩ | ⟨a, pre, q, b, c, d⟩
  · exact ⟨fun _ => a, fun _ => b⟩
  · constructor
    · intro e; exfalso; omega
    · intro e; exact absurd e a
/-- the frame of one step within that of more -/
theorem rdR_in {s : zSpan} {σ σ' : zv_H} {T : Int → Int} {n i : Int} {A A' : zv_H} {P : Int → Int → Prop} {r r' : zX Int} (h : rdR s σ T n i A r) (hP : ∀ x k, P x k → s.2 x k) (h2_q : rdR (σ, P) σ' T n i A' r') : rdR s σ' T n i A' r' := ⟨fun x k a b => by
  rw [h2_q.1 x k (fun q => a (hP x k q)) b]
  exact h.1 x k a b, h2_q.2⟩
theorem rdR_sf {s : zSpan} {σ : zv_H} {T : Int → Int} {n i : Int} {A : zv_H} {r : zX Int} (h : rdR s σ T n i A r) (P : Int → Int → Prop) : rdR (σ, P) σ T n i A r := ⟨frR_rf σ P, h.2⟩
theorem rdR_302 {s : zSpan} {σ : zv_H} {T : Int → Int} {n i x k v : Int} {A : zv_H} {r : zX Int} (h : rdR s σ T n i A r) (hs : s.2 x k) (hx : x = 302 ∨ x = 303) : rdR s (zup σ x k v) T n i A r := by
  obtain ⟨f, t, b, ⟨w1_q, w2_q, w3_q, w4_q⟩, g⟩ := h
  refine ⟨fun y j q1_q q2_q => ?_, ⟨by rw [zup_n (by omega)]; exact t.1, t.2.1, fun j q1_q q2_q => by rw [zup_n (by omega)]; exact t.2.2 j q1_q q2_q⟩, by rw [zup_n (by omega)]; exact b, ⟨by rw [zup_n (by omega), zup_n (by omega), zup_n (by omega), zup_n (by omega)]; exact w1_q, fun c q1_q q2_q => ?_, fun c q1_q q2_q => ?_, fun c q1_q q2_q => by rw [zup_n (by omega)]; exact w4_q c q1_q q2_q⟩, stR'_x g (fun j q => zup_n (by omega))⟩
  · rw [zup_n (fun q => q1_q (by rw [q.1, q.2]; exact hs))]; exact f y j q1_q q2_q
  · rw [zup_n (by omega), zup_n (by omega), zup_n (by omega), zup_n (by omega)]; exact w2_q c q1_q q2_q
  · rw [zup_n (by omega), zup_n (by omega), zup_n (by omega)]; exact w3_q c q1_q q2_q
/-- where reading() ends: r is what the machine comes to -/
def rdE (s : zSpan) (σ σ' : zv_H) (T : Int → Int) (n i u : Int) (A : zv_H) (out : List (Int × Int)) (r : zRs) : Prop := match r with
  | Sum.inl _ => False
  | Sum.inr (Sum.inl (p, _, out', _, _)) => rdR s σ' T n i A (Sum.inl p) ∧ ouM σ' i out' ∧ σ' 289 31 = (out'.length : Int) ∧ σ' 302 (2 * i + u) = (out.length : Int) ∧ σ' 303 (2 * i + u) = (out'.length : Int) ∧ ∀ x, x = 302 ∨ x = 303 → σ' x (2 * i + (1 - u)) = σ x (2 * i + (1 - u))
  | Sum.inr (Sum.inr (k, pl)) => rdR s σ' T n i A (Sum.inr (k, pl))
set_option maxHeartbeats 4000000 in
set_option maxRecDepth 20000 in
theorem g_reading1 {Γ : zv_M} {L : Int} {s : zSpan} {σ : zv_H} {T : Int → Int} {n i p u : Int} {A : zv_H} {lk : Bool} {out : List (Int × Int)} {k0_q : Nat} {Y : zCf} {r : zRs} (hi1_q : i = 0 ∨ i = 1) (hs : ∀ x k, inZt i x k → s.2 x k) (h : rdR s σ T n i A (Sum.inl p)) (hu : u = 0 ∨ u = 1) (hou : ouM σ i out) (hcn : σ 289 31 = (out.length : Int)) (hop : (out.length : Int) ≤ p) (k1_q : tK T p = 1) (hfull : σ 302 (2 * i + u) ≠ -1)  : zC Γ m_M_reading 5 0 0 (GM L) [zR 289, zI u] σ (zP0 (GM L) (fun σ' => rdR s σ' T n i A (Sum.inr (6, tQ T p)))) := by
  refine zC_of (ls0 := [_, _, _]) zm_M_reading (by decide) rfl (Nat.le_of_ble_eq_true rfl) ?_
  generalize hQ : (zP0 (GM L) (fun σ' => rdR s σ' T n i A (Sum.inr (6, tQ T p)))) = Q
  have f0_q := h.2.2.2.2.1
  have t0_q := tN_c h.2.1.2.1 h.2.2.2.2.2.1 (Or.inl k1_q)
  have hin := h.2.2.1
  refine ziconst (k := 0) rfl (by decide) ?_
  refine zaload_n (k := 1) rfl rfl ?_
  refine zgI 32 (k := 2) rfl ob_289 fl_12_109 rfl fx_289_32 ?_
  rw [hin]
  refine zimulB (k := 3) rfl (by omega) ?_
  refine ziload_n (k := 4) rfl rfl ?_
  refine ziaddB (k := 5) rfl (by omega) ?_
  refine zistore_n (k := 6) (ls' := [_, _, _]) rfl (Nat.le_of_ble_eq_true rfl) rfl ?_
  refine zaload_n (k := 7) rfl rfl ?_
  refine zaload_n (k := 8) rfl rfl ?_
  refine zgF 25 (k := 9) rfl ob_289 fl_12_87 rfl fx_289_25 ?_
  refine ziload_n (k := 10) rfl rfl ?_
  refine ziaload (k := 11) rfl ar_302 ⟨by omega, by omega⟩ ?_
  refine ziconst (k := 12) rfl (by decide) ?_
  refine zicmp_eq (k := 13) rfl rfl (fun c1_q => ?_) (fun c1_q => ?_)
  · exfalso; omega
  refine ziconst (k := 14) rfl (by decide) ?_
  refine zgoto (k := 15) rfl rfl ?_
  refine zpVI (k := 17) rfl (q_counts h (by omega) k1_q) fm_M_counts lk_12_361 rfl rfl ob_289 ⟨_, rfl, rfl⟩ (Nat.le_of_ble_eq_true rfl) (by decide) ⟨by decide, by decide⟩ (fun z0_q σ0 l0_q => ?_)
  -- FULL
  refine zif_ne (k := 18) rfl rfl (fun c2_q => ?_) (fun c2_q => ?_)
  · exfalso; rcases l0_q with ⟨q1_q, q2_q, _⟩ | ⟨q1_q, q2_q, _⟩ <;> omega
  refine zreturn (k := 19) rfl rfl rfl ?_
  rw [← hQ]
  refine ⟨rfl, rfl, ?_⟩
  rcases l0_q with q | q
  · exact q.2.2.1
  · exfalso; have q1_q := q.1; omega
set_option maxHeartbeats 4000000 in
set_option maxRecDepth 20000 in
theorem g_reading0 {Γ : zv_M} {L : Int} {s : zSpan} {σ : zv_H} {T : Int → Int} {n i p u : Int} {A : zv_H} {lk : Bool} {out : List (Int × Int)} {k0_q : Nat} {Y : zCf} {r : zRs} (hi1_q : i = 0 ∨ i = 1) (hs : ∀ x k, inZt i x k → s.2 x k) (h : rdR s σ T n i A (Sum.inl p)) (hu : u = 0 ∨ u = 1) (hou : ouM σ i out) (hcn : σ 289 31 = (out.length : Int)) (hop : (out.length : Int) ≤ p) (k1_q : tK T p = 1) (hlk : zB lk = u) (hr0_q : rch T lk k0_q (tN T p, [(1 - u, 0, true, 0, [])], out, 0, false) Y) (hY : stpF T lk Y = r) (hn : ∀ Z, r ≠ Sum.inl Z) (hfull : σ 302 (2 * i + u) = -1)  : zC Γ m_M_reading 5 0 0 (GM L) [zR 289, zI u] σ (zP0 (GM L) (fun σ' => rdE s σ σ' T n i u A out r)) := by
  refine zC_of (ls0 := [_, _, _]) zm_M_reading (by decide) rfl (Nat.le_of_ble_eq_true rfl) ?_
  generalize hQ : (zP0 (GM L) (fun σ' => rdE s σ σ' T n i u A out r)) = Q
  have f0_q := h.2.2.2.2.1
  have t0_q := tN_c h.2.1.2.1 h.2.2.2.2.2.1 (Or.inl k1_q)
  have hin := h.2.2.1
  have cut66_q : ∀ (v : Int) (σ0 : zv_H), (v = 1 - u) → (rdR s σ0 T n i A (Sum.inl (tN T p))) → (sfe σ σ0) → zV Γ m_M_reading 5 0 0 Q (GM L) (0, 0) 66 [some (zR 289), some (zI u), some (zI (2 * i + u))] [zI v, zR 289] (zup (zup σ0 289 33 u) 302 (2 * i + u) (out.length : Int)) := by
    intro v σ0 hv h1_q en
    have h2_q : rdR s (zup (zup σ0 289 33 u) 302 (2 * i + u) (out.length : Int)) T n i A (Sum.inl (tN T p)) := rdR_302 (rdR_k h1_q (fun x k q => hs x k (Or.inr (Or.inl q))) (Or.inr (Or.inr ⟨rfl, by omega⟩))) (hs _ _ (Or.inr (Or.inr ⟨Or.inl rfl, by omega, by omega⟩))) (Or.inl rfl)
    have ou2_q : ouM (zup (zup σ0 289 33 u) 302 (2 * i + u) (out.length : Int)) i out := ouM_x hou (fun x k q _ _ => by rw [zup_n (by omega), zup_n (by omega)]; exact en x k (by omega))
    have cn2_q : (zup (zup σ0 289 33 u) 302 (2 * i + u) (out.length : Int)) 289 31 = (out.length : Int) := by rw [zup_n (by omega), zup_n (by omega), en 289 31 (by omega)]; exact hcn
    have lk2_q : (zup (zup σ0 289 33 u) 302 (2 * i + u) (out.length : Int)) 289 33 = zB lk := by rw [zup_n (by omega), zup_s]; exact hlk.symm
    refine zpV0 (k := 40) rfl (c_M_reads (s := ((zup (zup σ0 289 33 u) 302 (2 * i + u) (out.length : Int)), inF i)) (lk := lk) (out := out) hi1_q (fun x k q => q) (rdR_sf h2_q (inF i)) (by omega) ou2_q cn2_q lk2_q (by omega) (by rw [hv]; exact hr0_q) hY hn) fm_M_reads lk_12_383 rfl rfl ob_289 ⟨_, rfl, rfl⟩ (Nat.le_of_ble_eq_true rfl) (by decide) ⟨by decide, by decide⟩ (fun σ5 l5_q => ?_)
    skip
    refine zaload_n (k := 41) rfl rfl ?_
    refine zgF 26 (k := 42) rfl ob_289 fl_12_90 rfl fx_289_26 ?_
    refine ziload_n (k := 43) rfl rfl ?_
    refine zaload_n (k := 44) rfl rfl ?_
    refine zgI 31 (k := 45) rfl ob_289 fl_12_106 rfl fx_289_31 ?_
    refine ziastore (k := 46) rfl ar_303 ⟨by omega, by omega⟩ (by omega) ?_
    refine zreturn (k := 47) rfl rfl rfl ?_
    rw [← hQ]
    refine ⟨rfl, rfl, ?_⟩
    rcases r with Z | (⟨p', F', out', o', d'⟩ | ⟨k, pl⟩)
    · exact absurd rfl (hn Z)
    · have b5_q : cfM ((zup (zup σ0 289 33 u) 302 (2 * i + u) (out.length : Int)), inF i) σ5 T n i A lk p' F' out' o' := l5_q
      have e5_q : ∀ x k, ¬ inF i x k → ¬ (x = 289 ∧ ((3 ≤ k ∧ k ≤ 9) ∨ k = 12)) → σ5 x k = (zup (zup σ0 289 33 u) 302 (2 * i + u) (out.length : Int)) x k := b5_q.1.1
      have hr := rdR_in h2_q (fun x k q => hs x k (Or.inr (Or.inl q))) b5_q.1
      have g2_q : ∀ x k, x = 302 ∨ x = 303 → σ5 x k = (zup (zup σ0 289 33 u) 302 (2 * i + u) (out.length : Int)) x k := fun x k q => e5_q x k (fun w => by rcases w with w | w | w; omega; omega; omega) (by omega)
      rw [b5_q.2.2.2.2.1]
      refine ⟨rdR_302 hr (hs _ _ (Or.inr (Or.inr ⟨Or.inr rfl, by omega, by omega⟩))) (Or.inr rfl), ouM_x b5_q.2.2.2.1 (fun x k q _ _ => zup_n (by omega)), by rw [zup_n (by omega)]; exact b5_q.2.2.2.2.1, ?_, by rw [zup_s], fun x q => ?_⟩
      · rw [zup_n (by omega), g2_q _ _ (Or.inl rfl), zup_s]
      · rw [zup_n (by omega), g2_q _ _ q, zup_n (by omega), zup_n (by omega)]
        exact en x (2 * i + (1 - u)) (by omega)
    · have b5_q : rdR ((zup (zup σ0 289 33 u) 302 (2 * i + u) (out.length : Int)), inF i) σ5 T n i A (Sum.inr (k, pl)) := l5_q
      exact rdR_302 (rdR_in h2_q (fun x k q => hs x k (Or.inr (Or.inl q))) b5_q) (hs _ _ (Or.inr (Or.inr ⟨Or.inr rfl, by omega, by omega⟩))) (Or.inr rfl)
  have cut43_q : ∀ (v : Int) (σ0 : zv_H), (v = u) → (rdR s σ0 T n i A (Sum.inl (tN T p))) → (sfe σ σ0) → zV Γ m_M_reading 5 0 0 Q (GM L) (0, 0) 43 [some (zR 289), some (zI u), some (zI (2 * i + u))] [zI v, zR 289] σ0 := by
    intro v σ0 hv h1_q en
    subst hv
    refine zpZ 33 (k := 27) rfl ob_289 fl_12_112 ⟨_, rfl, rfl⟩ rfl (by first | exact Or.inl rfl | exact Or.inr rfl | omega) (by omega) rfl fx_289_33 ?_
    refine zaload_n (k := 28) rfl rfl ?_
    refine zgF 25 (k := 29) rfl ob_289 fl_12_87 rfl fx_289_25 ?_
    refine ziload_n (k := 30) rfl rfl ?_
    refine zaload_n (k := 31) rfl rfl ?_
    refine zgI 31 (k := 32) rfl ob_289 fl_12_106 rfl fx_289_31 ?_
    rw [zup_n (by omega), en 289 31 (by omega), hcn]
    refine ziastore (k := 33) rfl ar_302 ⟨by omega, by omega⟩ (by omega) ?_
    refine zaload_n (k := 34) rfl rfl ?_
    refine ziload_n (k := 35) rfl rfl ?_
    refine zif_ne (k := 36) rfl rfl (fun c1_q => ?_) (fun c1_q => ?_)
    · skip
      refine ziconst (k := 39) rfl (by decide) ?_
      exact cut66_q _ _ (by omega) h1_q en
    · skip
      refine ziconst (k := 37) rfl (by decide) ?_
      refine zgoto (k := 38) rfl rfl ?_
      exact cut66_q _ _ (by omega) h1_q en
  refine ziconst (k := 0) rfl (by decide) ?_
  refine zaload_n (k := 1) rfl rfl ?_
  refine zgI 32 (k := 2) rfl ob_289 fl_12_109 rfl fx_289_32 ?_
  rw [hin]
  refine zimulB (k := 3) rfl (by omega) ?_
  refine ziload_n (k := 4) rfl rfl ?_
  refine ziaddB (k := 5) rfl (by omega) ?_
  refine zistore_n (k := 6) (ls' := [_, _, _]) rfl (Nat.le_of_ble_eq_true rfl) rfl ?_
  refine zaload_n (k := 7) rfl rfl ?_
  refine zaload_n (k := 8) rfl rfl ?_
  refine zgF 25 (k := 9) rfl ob_289 fl_12_87 rfl fx_289_25 ?_
  refine ziload_n (k := 10) rfl rfl ?_
  refine ziaload (k := 11) rfl ar_302 ⟨by omega, by omega⟩ ?_
  refine ziconst (k := 12) rfl (by decide) ?_
  refine zicmp_eq (k := 13) rfl rfl (fun c2_q => ?_) (fun c2_q => ?_)
  · skip
    refine ziconst (k := 16) rfl (by decide) ?_
    refine zpVI (k := 17) rfl (q_counts h (by omega) k1_q) fm_M_counts lk_12_361 rfl rfl ob_289 ⟨_, rfl, rfl⟩ (Nat.le_of_ble_eq_true rfl) (by decide) ⟨by decide, by decide⟩ (fun z0_q σ0 l0_q => ?_)
    skip
    refine zif_ne (k := 18) rfl rfl (fun c3_q => ?_) (fun c3_q => ?_)
    · skip
      refine zaload_n (k := 20) rfl rfl ?_
      -- GOES
      have hn0_q : rdR s σ0 T n i A (Sum.inl (tN T p)) ∧ sfe σ σ0 := by
        rcases l0_q with q | q
        · exact absurd q.2.1 (by assumption)
        · exact ⟨q.2.2.1, q.2.2.2⟩
      clear l0_q
      have en := hn0_q.2
      have h1_q := hn0_q.1
      refine ziload_n (k := 21) rfl rfl ?_
      refine ziconst (k := 22) rfl (by decide) ?_
      refine zicmp_ne (k := 23) rfl rfl (fun c4_q => ?_) (fun c4_q => ?_)
      · skip
        refine ziconst (k := 26) rfl (by decide) ?_
        exact cut43_q _ _ (by omega) h1_q en
      · skip
        refine ziconst (k := 24) rfl (by decide) ?_
        refine zgoto (k := 25) rfl rfl ?_
        exact cut43_q _ _ (by omega) h1_q en
    · exfalso; rcases l0_q with ⟨q1_q, q2_q, _⟩ | ⟨q1_q, q2_q, _⟩ <;> omega
  · exfalso; omega
