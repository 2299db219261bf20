/-! THE MODEL READS: what is told so far -/
def inB (i x k : Int) : Prop := ((x = 291 ∨ x = 295 ∨ x = 298 ∨ x = 301) ∧ k = i) ∨ (((292 ≤ x ∧ x ≤ 294) ∨ x = 306) ∧ 7 * i ≤ k ∧ k < 7 * i + 7) ∨ ((x = 299 ∨ x = 300 ∨ x = 307) ∧ 6 * i ≤ k ∧ k < 6 * i + 6) ∨ ((x = 296 ∨ x = 297) ∧ 49 * i ≤ k ∧ k < 49 * i + 49) ∨ ((x = 302 ∨ x = 303) ∧ 2 * i ≤ k ∧ k < 2 * i + 2) ∨ ((x = 304 ∨ x = 305) ∧ 1600 * i ≤ k ∧ k < 1600 * i + 1600)
/-- reading changes the bank i, what is noted of the text and of formulas -/
abbrev zSpan : Type := zv_H × (Int → Int → Prop)
/-- what is noted of the text may change, and the cells of s.2 -/
def frR (s : zSpan) (σ' : zv_H) : Prop := ∀ x k, ¬ s.2 x k → ¬ (x = 289 ∧ ((3 ≤ k ∧ k ≤ 9) ∨ k = 12)) → σ' x k = s.1 x k
theorem frR_rf (σ : zv_H) (P : Int → Int → Prop) : frR (σ, P) σ := fun _ _ _ _ => rfl
def sfe (σ σ' : zv_H) : Prop := ∀ x k, ¬ (x = 289 ∧ ((3 ≤ k ∧ k ≤ 9) ∨ k = 12)) → σ' x k = σ x k
theorem sfe_tr {σ σ1 σ2 : zv_H} (h1_q : sfe σ σ1) (h2_q : sfe σ1 σ2) : sfe σ σ2 := fun x k a => by rw [h2_q x k a]; exact h1_q x k a
theorem frR_tr {s : zSpan} {σ1 σ2 : zv_H} (h1_q : frR s σ1) (h2_q : sfe σ1 σ2) : frR s σ2 := fun x k a b => by rw [h2_q x k b]; exact h1_q x k a b
def wnM (σ : zv_H) (i : Int) (T : Int → Int) (A : zv_H) : Prop := (σ 291 i = A 0 1 ∧ σ 295 i = A 0 2 ∧ σ 298 i = A 0 3 ∧ σ 301 i = A 0 4) ∧ (∀ c, 0 ≤ c → c < A 0 1 → σ 292 (7 * i + c) = A 2 c ∧ σ 293 (7 * i + c) = A 3 c ∧ σ 294 (7 * i + c) = A 4 c ∧ σ 306 (7 * i + c) = tNw T (A 1 c)) ∧ (∀ m, 0 ≤ m → m < A 0 3 → σ 299 (6 * i + m) = A 6 m ∧ σ 300 (6 * i + m) = A 7 m ∧ σ 307 (6 * i + m) = tNw T (A 5 m)) ∧ ∀ k, 0 ≤ k → k < 49 → σ 296 (49 * i + k) = A 12 k
/-- as MSc, and no place of a fault is noted -/
def MSd (σ : zv_H) (T : Int → Int) (p : Int) : Prop := σ 289 4 = tQ T p ∧ (tK T p = 4 → σ 289 12 = tP T p ∧ σ 289 3 ≠ 0) ∧ (tK T p ≠ 4 → σ 289 12 = -1 ∧ σ 289 3 = tK T p ∧ σ 289 5 = tN T p) ∧ (tK T p = 3 → σ 289 6 = T (tQ T p)) ∧ (tK T p = 2 → σ 289 6 = tNv T p) ∧ (tK T p = 1 → σ 289 6 = 0 ∧ σ 289 7 = tNw T p) ∧ σ 289 9 = -1
theorem MSd_of {σ : zv_H} {T : Int → Int} {p : Int} (h : MSc σ T p) (h9_q : σ 289 9 = -1) : MSd σ T p := ⟨h.1, h.2.1, h.2.2.1, h.2.2.2.1, h.2.2.2.2.1, h.2.2.2.2.2, h9_q⟩
/-- where reading stands: behind a token, or at a fault -/
def stR' (σ : zv_H) (T : Int → Int) (n : Int) (r : zX Int) : Prop := match r with
  | Sum.inl p => σ 289 8 = 0 ∧ (0 ≤ p ∧ p ≤ n) ∧ MSd σ T p
  | Sum.inr (k, pl) => 0 < k ∧ σ 289 8 = k ∧ σ 289 9 = pl
def rdR (σ0 : zSpan) (σ : zv_H) (T : Int → Int) (n i : Int) (A : zv_H) (r : zX Int) : Prop := frR σ0 σ ∧ TR σ T n ∧ σ 289 32 = i ∧ wnM σ i T A ∧ stR' σ T n r
theorem rdR_f {σ0 : zSpan} {σ : zv_H} {T : Int → Int} {n i : Int} {A : zv_H} {r : zX Int} (h : rdR σ0 σ T n i A r) : 0 ≤ σ 289 8 := by
  obtain ⟨_, _, _, _, h⟩ := h
  rcases r with p | ⟨k, pl⟩
  · rw [h.1]; exact Int.le_refl _
  · rw [h.2.1]; exact Int.le_of_lt h.1
/-- what is noted of the text may change -/
theorem wnM_x {σ σ' : zv_H} {i : Int} {T : Int → Int} {A : zv_H} (h : wnM σ i T A) (he : ∀ x k, 291 ≤ x → x ≤ 307 → σ' x k = σ x k) : wnM σ' i T A := by
  obtain ⟨a, b, c, d⟩ := h
  refine ⟨?_, fun k q1_q q2_q => ?_, fun k q1_q q2_q => ?_, fun k q1_q q2_q => ?_⟩
  · rw [he 291 _ (by omega) (by omega), he 295 _ (by omega) (by omega), he 298 _ (by omega) (by omega), he 301 _ (by omega) (by omega)]; exact a
  · rw [he 292 _ (by omega) (by omega), he 293 _ (by omega) (by omega), he 294 _ (by omega) (by omega), he 306 _ (by omega) (by omega)]; exact b k q1_q q2_q
  · rw [he 299 _ (by omega) (by omega), he 300 _ (by omega) (by omega), he 307 _ (by omega) (by omega)]; exact c k q1_q q2_q
  · rw [he 296 _ (by omega) (by omega)]; exact d k q1_q q2_q
theorem sfr_R {σ σ' : zv_H} (h : sfr σ σ') : sfe σ σ' := fun x k a => h x k (by omega)
theorem rdR_9 {σ0 : zSpan} {σ : zv_H} {T : Int → Int} {n i : Int} {A : zv_H} {r : zX Int} (h : rdR σ0 σ T n i A r) (h0_q : σ 289 8 = 0) : σ 289 9 = -1 := by
  obtain ⟨_, _, _, _, g⟩ := h
  rcases r with p | ⟨k, pl⟩
  · exact g.2.2.2.2.2.2.2.2
  · have a := g.1
    have b := g.2.1
    exfalso; omega
theorem rdR_s {σ0 : zSpan} {σ σ' : zv_H} {T : Int → Int} {n i p' : Int} {A : zv_H} {r : zX Int} (h : rdR σ0 σ T n i A r) (h0_q : σ 289 8 = 0) (hs : sfr σ σ') (hm : MSc σ' T p') (hp : 0 ≤ p' ∧ p' ≤ n) : rdR σ0 σ' T n i A (Sum.inl p') := ⟨frR_tr h.1 (sfr_R hs), TR_s h.2.1 hs, by rw [hs 289 32 (by omega)]; exact h.2.2.1, wnM_x h.2.2.2.1 (fun x k q1_q q2_q => hs x k (by omega)), by rw [hs 289 8 (by omega)]; exact h0_q, hp, MSd_of hm (by rw [hs 289 9 (by omega)]; exact rdR_9 h h0_q)⟩
/-- a fault -/
theorem rdR_b {σ0 : zSpan} {σ : zv_H} {T : Int → Int} {n i k pl : Int} {A : zv_H} {r : zX Int} (h : rdR σ0 σ T n i A r) (hk : 0 < k) : rdR σ0 (zup (zup σ 289 8 k) 289 9 pl) T n i A (Sum.inr (k, pl)) := ⟨fun x j a b => by rw [zup_n (by omega), zup_n (by omega)]; exact h.1 x j a b, ⟨by rw [zup_n (by omega), zup_n (by omega)]; exact h.2.1.1, h.2.1.2.1, fun j q1_q q2_q => by rw [zup_n (by omega), zup_n (by omega)]; exact h.2.1.2.2 j q1_q q2_q⟩, by rw [zup_n (by omega), zup_n (by omega)]; exact h.2.2.1, wnM_x h.2.2.2.1 (fun x j q1_q q2_q => by rw [zup_n (by omega), zup_n (by omega)]), hk, by rw [zup_n (by omega), zup_s], by rw [zup_s]⟩
set_option maxHeartbeats 4000000 in
set_option maxRecDepth 20000 in
theorem c_M_blame {Γ : zv_M} {L : Int} {σ : zv_H} {k pl : Int} (h : 0 ≤ σ 289 8)  : zC Γ m_M_blame 0 0 0 (GM L) [zR 289, zI k, zI pl] σ (zP0 (GM L) (fun σ' => (0 < σ 289 8 ∧ σ' = σ) ∨ (σ 289 8 = 0 ∧ σ' = zup (zup σ 289 8 k) 289 9 pl))) := by
  refine zC_of (ls0 := [_, _, _]) zm_M_blame (by decide) rfl (Nat.le_of_ble_eq_true rfl) ?_
  generalize hQ : (zP0 (GM L) (fun σ' => (0 < σ 289 8 ∧ σ' = σ) ∨ (σ 289 8 = 0 ∧ σ' = zup (zup σ 289 8 k) 289 9 pl))) = Q
  refine zaload_n (k := 0) rfl rfl ?_
  refine zgI 8 (k := 1) rfl ob_289 fl_12_36 rfl fx_289_8 ?_
  refine zif_le (k := 2) rfl rfl (fun c1_q => ?_) (fun c1_q => ?_)
  · skip
    refine zaload_n (k := 4) rfl rfl ?_
    refine ziload_n (k := 5) rfl rfl ?_
    refine zpI 8 (k := 6) rfl ob_289 fl_12_36 ⟨_, rfl, rfl⟩ rfl (by omega) rfl fx_289_8 ?_
    refine zaload_n (k := 7) rfl rfl ?_
    refine ziload_n (k := 8) rfl rfl ?_
    refine zpI 9 (k := 9) rfl ob_289 fl_12_39 ⟨_, rfl, rfl⟩ rfl (by omega) rfl fx_289_9 ?_
    refine zreturn (k := 10) rfl rfl rfl ?_
    rw [← hQ]
    first | exact ⟨rfl, rfl, Or.inl ⟨by omega, rfl⟩⟩ | exact ⟨rfl, rfl, Or.inr ⟨by omega, rfl⟩⟩
  · skip
    refine zreturn (k := 3) rfl rfl rfl ?_
    rw [← hQ]
    first | exact ⟨rfl, rfl, Or.inl ⟨by omega, rfl⟩⟩ | exact ⟨rfl, rfl, Or.inr ⟨by omega, rfl⟩⟩
set_option maxHeartbeats 4000000 in
set_option maxRecDepth 20000 in
theorem c_M_isSign {Γ : zv_M} {L : Int} {σ : zv_H} {c : Int}  : zC Γ m_M_isSign 0 0 0 (GM L) [zR 289, zI c] σ (zFn (some (zI (if σ 289 3 = 3 ∧ σ 289 6 = c then 1 else 0))) (GM L) σ) := by
  refine zC_of (ls0 := [_, _]) zm_M_isSign (by decide) rfl (Nat.le_of_ble_eq_true rfl) ?_
  generalize hQ : (zFn (some (zI (if σ 289 3 = 3 ∧ σ 289 6 = c then 1 else 0))) (GM L) σ) = Q
  refine zaload_n (k := 0) rfl rfl ?_
  refine zgI 3 (k := 1) rfl ob_289 fl_12_20 rfl fx_289_3 ?_
  refine ziconst (k := 2) rfl (by decide) ?_
  refine zicmp_ne (k := 3) rfl rfl (fun c1_q => ?_) (fun c1_q => ?_)
  · skip
    refine ziconst (k := 10) rfl (by decide) ?_
    refine zzreturn (k := 11) rfl rfl (by first | exact Or.inl rfl | exact Or.inr rfl | omega) rfl ?_
    rw [← hQ]
    exact ⟨by first | (rw [if_pos (by omega)]; done) | (rw [if_neg (by omega)]; done) | (exfalso; omega), rfl, rfl⟩
  · skip
    refine zaload_n (k := 4) rfl rfl ?_
    refine zgI 6 (k := 5) rfl ob_289 fl_12_29 rfl fx_289_6 ?_
    refine ziload_n (k := 6) rfl rfl ?_
    refine zicmp_ne (k := 7) rfl rfl (fun c2_q => ?_) (fun c2_q => ?_)
    · skip
      refine ziconst (k := 10) rfl (by decide) ?_
      refine zzreturn (k := 11) rfl rfl (by first | exact Or.inl rfl | exact Or.inr rfl | omega) rfl ?_
      rw [← hQ]
      exact ⟨by first | (rw [if_pos (by omega)]; done) | (rw [if_neg (by omega)]; done) | (exfalso; omega), rfl, rfl⟩
    · skip
      refine ziconst (k := 8) rfl (by decide) ?_
      refine zgoto (k := 9) rfl rfl ?_
      refine zzreturn (k := 11) rfl rfl (by first | exact Or.inl rfl | exact Or.inr rfl | omega) rfl ?_
      rw [← hQ]
      exact ⟨by first | (rw [if_pos (by omega)]; done) | (rw [if_neg (by omega)]; done) | (exfalso; omega), rfl, rfl⟩
set_option maxHeartbeats 4000000 in
set_option maxRecDepth 20000 in
theorem c_M_isWord {Γ : zv_M} {L : Int} {σ : zv_H} {c : Int}  : zC Γ m_M_isWord 0 0 0 (GM L) [zR 289, zL c] σ (zFn (some (zI (if σ 289 3 = 1 ∧ σ 289 7 = c then 1 else 0))) (GM L) σ) := by
  refine zC_of (ls0 := [_, _, _]) zm_M_isWord (by decide) rfl (Nat.le_of_ble_eq_true rfl) ?_
  generalize hQ : (zFn (some (zI (if σ 289 3 = 1 ∧ σ 289 7 = c then 1 else 0))) (GM L) σ) = Q
  refine zaload_n (k := 0) rfl rfl ?_
  refine zgI 3 (k := 1) rfl ob_289 fl_12_20 rfl fx_289_3 ?_
  refine ziconst (k := 2) rfl (by decide) ?_
  refine zicmp_ne (k := 3) rfl rfl (fun c1_q => ?_) (fun c1_q => ?_)
  · skip
    refine ziconst (k := 11) rfl (by decide) ?_
    refine zzreturn (k := 12) rfl rfl (by first | exact Or.inl rfl | exact Or.inr rfl | omega) rfl ?_
    (try simp only [zcc2, ne_eq] at *)
    rw [← hQ]
    exact ⟨by first | (rw [if_pos (by omega)]; done) | (rw [if_neg (by omega)]; done) | (exfalso; omega), rfl, rfl⟩
  · skip
    refine zaload_n (k := 4) rfl rfl ?_
    refine zgL 7 (k := 5) rfl ob_289 fl_12_32 rfl fx_289_7 ?_
    refine zlload_n (k := 6) rfl rfl ?_
    refine zlcmp (k := 7) rfl ?_
    refine zif_ne (k := 8) rfl rfl (fun c2_q => ?_) (fun c2_q => ?_)
    · skip
      refine ziconst (k := 11) rfl (by decide) ?_
      refine zzreturn (k := 12) rfl rfl (by first | exact Or.inl rfl | exact Or.inr rfl | omega) rfl ?_
      (try simp only [zcc2, ne_eq] at *)
      rw [← hQ]
      exact ⟨by first | (rw [if_pos (by omega)]; done) | (rw [if_neg (by omega)]; done) | (exfalso; omega), rfl, rfl⟩
    · skip
      refine ziconst (k := 9) rfl (by decide) ?_
      refine zgoto (k := 10) rfl rfl ?_
      refine zzreturn (k := 12) rfl rfl (by first | exact Or.inl rfl | exact Or.inr rfl | omega) rfl ?_
      (try simp only [zcc2, ne_eq] at *)
      rw [← hQ]
      exact ⟨by first | (rw [if_pos (by omega)]; done) | (rw [if_neg (by omega)]; done) | (exfalso; omega), rfl, rfl⟩
set_option maxHeartbeats 4000000 in
set_option maxRecDepth 20000 in
theorem c_M_lex {Γ : zv_M} {L : Int} {σ : zv_H} (h : 0 ≤ σ 289 8)  : zC Γ m_M_lex 1 0 0 (GM L) [zR 289] σ (zP0 (GM L) (fun σ' => ((σ 289 12 = -1 ∨ 0 < σ 289 8) ∧ σ' = σ) ∨ (σ 289 12 ≠ -1 ∧ σ 289 8 = 0 ∧ σ' = zup (zup σ 289 8 1) 289 9 (σ 289 12)))) := by
  refine zC_of (ls0 := [_]) zm_M_lex (by decide) rfl (Nat.le_of_ble_eq_true rfl) ?_
  generalize hQ : (zP0 (GM L) (fun σ' => ((σ 289 12 = -1 ∨ 0 < σ 289 8) ∧ σ' = σ) ∨ (σ 289 12 ≠ -1 ∧ σ 289 8 = 0 ∧ σ' = zup (zup σ 289 8 1) 289 9 (σ 289 12)))) = Q
  refine zaload_n (k := 0) rfl rfl ?_
  refine zgI 12 (k := 1) rfl ob_289 fl_12_48 rfl fx_289_12 ?_
  refine ziconst (k := 2) rfl (by decide) ?_
  refine zicmp_eq (k := 3) rfl rfl (fun c1_q => ?_) (fun c1_q => ?_)
  · skip
    refine zreturn (k := 9) rfl rfl rfl ?_
    rw [← hQ]
    refine ⟨rfl, rfl, ?_⟩
    first
    | exact Or.inl ⟨Or.inl (by assumption), rfl⟩
    | (rcases h2_q with q | q
       · exact Or.inl ⟨Or.inr q.1, q.2⟩
       · exact Or.inr ⟨by assumption, q.1, q.2⟩)
  · skip
    refine zaload_n (k := 4) rfl rfl ?_
    refine ziconst (k := 5) rfl (by decide) ?_
    refine zaload_n (k := 6) rfl rfl ?_
    refine zgI 12 (k := 7) rfl ob_289 fl_12_48 rfl fx_289_12 ?_
    refine zpV0 (k := 8) rfl (c_M_blame h) fm_M_blame lk_12_239 rfl rfl ob_289 ⟨_, rfl, rfl⟩ (Nat.le_of_ble_eq_true rfl) (by decide) ⟨by decide, by decide⟩ (fun σ2 h2_q => ?_)
    refine zreturn (k := 9) rfl rfl rfl ?_
    rw [← hQ]
    refine ⟨rfl, rfl, ?_⟩
    first
    | exact Or.inl ⟨Or.inl (by assumption), rfl⟩
    | (rcases h2_q with q | q
       · exact Or.inl ⟨Or.inr q.1, q.2⟩
       · exact Or.inr ⟨by assumption, q.1, q.2⟩)
set_option maxHeartbeats 4000000 in
set_option maxRecDepth 20000 in
theorem c_M_isOwn {Γ : zv_M} {L : Int} {σ : zv_H} {w : Int}  : zC Γ m_M_isOwn 0 0 0 (GM L) [zR 289, zL w] σ (zPI (GM L) (fun z σ' => σ' = σ ∧ ((z = 1 ∧ w ∈ OWNW) ∨ (z = 0 ∧ ¬ w ∈ OWNW)))) := by
  refine zC_of (ls0 := [_, _, _]) zm_M_isOwn (by decide) rfl (Nat.le_of_ble_eq_true rfl) ?_
  generalize hQ : (zPI (GM L) (fun z σ' => σ' = σ ∧ ((z = 1 ∧ w ∈ OWNW) ∨ (z = 0 ∧ ¬ w ∈ OWNW)))) = Q
  refine zlload_n (k := 0) rfl rfl ?_
  refine zldc2 (k := 1) (z := 109330362692729) rfl kc_12_259 rfl ?_
  refine zlcmp (k := 2) rfl ?_
  refine zif_eq (k := 3) rfl rfl (fun c1_q => ?_) (fun c1_q => ?_)
  · skip
    refine ziconst (k := 20) rfl (by decide) ?_
    refine zzreturn (k := 21) rfl rfl (by first | exact Or.inl rfl | exact Or.inr rfl | omega) rfl ?_
    rw [← hQ]
    have e := (zcc2 w _).mp (by assumption)
    refine ⟨rfl, _, rfl, rfl, Or.inl ⟨rfl, ?_⟩⟩
    rw [e]
    decide
  · skip
    refine zlload_n (k := 4) rfl rfl ?_
    refine zldc2 (k := 5) (z := 487301543009) rfl kc_12_261 rfl ?_
    refine zlcmp (k := 6) rfl ?_
    refine zif_eq (k := 7) rfl rfl (fun c2_q => ?_) (fun c2_q => ?_)
    · skip
      refine ziconst (k := 20) rfl (by decide) ?_
      refine zzreturn (k := 21) rfl rfl (by first | exact Or.inl rfl | exact Or.inr rfl | omega) rfl ?_
      rw [← hQ]
      have e := (zcc2 w _).mp (by assumption)
      refine ⟨rfl, _, rfl, rfl, Or.inl ⟨rfl, ?_⟩⟩
      rw [e]
      decide
    · skip
      refine zlload_n (k := 8) rfl rfl ?_
      refine zldc2 (k := 9) (z := 1885436275) rfl kc_12_263 rfl ?_
      refine zlcmp (k := 10) rfl ?_
      refine zif_eq (k := 11) rfl rfl (fun c3_q => ?_) (fun c3_q => ?_)
      · skip
        refine ziconst (k := 20) rfl (by decide) ?_
        refine zzreturn (k := 21) rfl rfl (by first | exact Or.inl rfl | exact Or.inr rfl | omega) rfl ?_
        rw [← hQ]
        have e := (zcc2 w _).mp (by assumption)
        refine ⟨rfl, _, rfl, rfl, Or.inl ⟨rfl, ?_⟩⟩
        rw [e]
        decide
      · skip
        refine zlload_n (k := 12) rfl rfl ?_
        refine zldc2 (k := 13) (z := 444350952036) rfl kc_12_265 rfl ?_
        refine zlcmp (k := 14) rfl ?_
        refine zif_eq (k := 15) rfl rfl (fun c4_q => ?_) (fun c4_q => ?_)
        · skip
          refine ziconst (k := 20) rfl (by decide) ?_
          refine zzreturn (k := 21) rfl rfl (by first | exact Or.inl rfl | exact Or.inr rfl | omega) rfl ?_
          rw [← hQ]
          have e := (zcc2 w _).mp (by assumption)
          refine ⟨rfl, _, rfl, rfl, Or.inl ⟨rfl, ?_⟩⟩
          rw [e]
          decide
        · skip
          refine zlload_n (k := 16) rfl rfl ?_
          refine zldc2 (k := 17) (z := 1918986604) rfl kc_12_267 rfl ?_
          refine zlcmp (k := 18) rfl ?_
          refine zif_ne (k := 19) rfl rfl (fun c5_q => ?_) (fun c5_q => ?_)
          · skip
            refine zlload_n (k := 22) rfl rfl ?_
            refine zldc2 (k := 23) (z := 29807) rfl kc_12_269 rfl ?_
            refine zlcmp (k := 24) rfl ?_
            refine zif_eq (k := 25) rfl rfl (fun c6_q => ?_) (fun c6_q => ?_)
            · skip
              refine ziconst (k := 42) rfl (by decide) ?_
              refine zzreturn (k := 43) rfl rfl (by first | exact Or.inl rfl | exact Or.inr rfl | omega) rfl ?_
              rw [← hQ]
              have e := (zcc2 w _).mp (by assumption)
              refine ⟨rfl, _, rfl, rfl, Or.inl ⟨rfl, ?_⟩⟩
              rw [e]
              decide
            · skip
              refine zlload_n (k := 26) rfl rfl ?_
              refine zldc2 (k := 27) (z := 512802253683) rfl kc_12_271 rfl ?_
              refine zlcmp (k := 28) rfl ?_
              refine zif_eq (k := 29) rfl rfl (fun c7_q => ?_) (fun c7_q => ?_)
              · skip
                refine ziconst (k := 42) rfl (by decide) ?_
                refine zzreturn (k := 43) rfl rfl (by first | exact Or.inl rfl | exact Or.inr rfl | omega) rfl ?_
                rw [← hQ]
                have e := (zcc2 w _).mp (by assumption)
                refine ⟨rfl, _, rfl, rfl, Or.inl ⟨rfl, ?_⟩⟩
                rw [e]
                decide
              · skip
                refine zlload_n (k := 30) rfl rfl ?_
                refine zldc2 (k := 31) (z := 7168366) rfl kc_12_273 rfl ?_
                refine zlcmp (k := 32) rfl ?_
                refine zif_eq (k := 33) rfl rfl (fun c8_q => ?_) (fun c8_q => ?_)
                · skip
                  refine ziconst (k := 42) rfl (by decide) ?_
                  refine zzreturn (k := 43) rfl rfl (by first | exact Or.inl rfl | exact Or.inr rfl | omega) rfl ?_
                  rw [← hQ]
                  have e := (zcc2 w _).mp (by assumption)
                  refine ⟨rfl, _, rfl, rfl, Or.inl ⟨rfl, ?_⟩⟩
                  rw [e]
                  decide
                · skip
                  refine zlload_n (k := 34) rfl rfl ?_
                  refine zldc2 (k := 35) (z := 24948) rfl kc_12_275 rfl ?_
                  refine zlcmp (k := 36) rfl ?_
                  refine zif_eq (k := 37) rfl rfl (fun c9_q => ?_) (fun c9_q => ?_)
                  · skip
                    refine ziconst (k := 42) rfl (by decide) ?_
                    refine zzreturn (k := 43) rfl rfl (by first | exact Or.inl rfl | exact Or.inr rfl | omega) rfl ?_
                    rw [← hQ]
                    have e := (zcc2 w _).mp (by assumption)
                    refine ⟨rfl, _, rfl, rfl, Or.inl ⟨rfl, ?_⟩⟩
                    rw [e]
                    decide
                  · skip
                    refine zlload_n (k := 38) rfl rfl ?_
                    refine zldc2 (k := 39) (z := 495689625203) rfl kc_12_277 rfl ?_
                    refine zlcmp (k := 40) rfl ?_
                    refine zif_ne (k := 41) rfl rfl (fun c10_q => ?_) (fun c10_q => ?_)
                    · skip
                      refine zlload_n (k := 44) rfl rfl ?_
                      refine zldc2 (k := 45) (z := 457236639859) rfl kc_12_279 rfl ?_
                      refine zlcmp (k := 46) rfl ?_
                      refine zif_eq (k := 47) rfl rfl (fun c11_q => ?_) (fun c11_q => ?_)
                      · skip
                        refine ziconst (k := 64) rfl (by decide) ?_
                        refine zzreturn (k := 65) rfl rfl (by first | exact Or.inl rfl | exact Or.inr rfl | omega) rfl ?_
                        rw [← hQ]
                        have e := (zcc2 w _).mp (by assumption)
                        refine ⟨rfl, _, rfl, rfl, Or.inl ⟨rfl, ?_⟩⟩
                        rw [e]
                        decide
                      · skip
                        refine zlload_n (k := 48) rfl rfl ?_
                        refine zldc2 (k := 49) (z := 465625113971) rfl kc_12_281 rfl ?_
                        refine zlcmp (k := 50) rfl ?_
                        refine zif_eq (k := 51) rfl rfl (fun c12_q => ?_) (fun c12_q => ?_)
                        · skip
                          refine ziconst (k := 64) rfl (by decide) ?_
                          refine zzreturn (k := 65) rfl rfl (by first | exact Or.inl rfl | exact Or.inr rfl | omega) rfl ?_
                          rw [← hQ]
                          have e := (zcc2 w _).mp (by assumption)
                          refine ⟨rfl, _, rfl, rfl, Or.inl ⟨rfl, ?_⟩⟩
                          rw [e]
                          decide
                        · skip
                          refine zlload_n (k := 52) rfl rfl ?_
                          refine zldc2 (k := 53) (z := 1886352244) rfl kc_12_283 rfl ?_
                          refine zlcmp (k := 54) rfl ?_
                          refine zif_eq (k := 55) rfl rfl (fun c13_q => ?_) (fun c13_q => ?_)
                          · skip
                            refine ziconst (k := 64) rfl (by decide) ?_
                            refine zzreturn (k := 65) rfl rfl (by first | exact Or.inl rfl | exact Or.inr rfl | omega) rfl ?_
                            rw [← hQ]
                            have e := (zcc2 w _).mp (by assumption)
                            refine ⟨rfl, _, rfl, rfl, Or.inl ⟨rfl, ?_⟩⟩
                            rw [e]
                            decide
                          · skip
                            refine zlload_n (k := 56) rfl rfl ?_
                            refine zldc2 (k := 57) (z := 474080961907) rfl kc_12_285 rfl ?_
                            refine zlcmp (k := 58) rfl ?_
                            refine zif_eq (k := 59) rfl rfl (fun c14_q => ?_) (fun c14_q => ?_)
                            · skip
                              refine ziconst (k := 64) rfl (by decide) ?_
                              refine zzreturn (k := 65) rfl rfl (by first | exact Or.inl rfl | exact Or.inr rfl | omega) rfl ?_
                              rw [← hQ]
                              have e := (zcc2 w _).mp (by assumption)
                              refine ⟨rfl, _, rfl, rfl, Or.inl ⟨rfl, ?_⟩⟩
                              rw [e]
                              decide
                            · skip
                              refine zlload_n (k := 60) rfl rfl ?_
                              refine zldc2 (k := 61) (z := 483006772069) rfl kc_12_287 rfl ?_
                              refine zlcmp (k := 62) rfl ?_
                              refine zif_ne (k := 63) rfl rfl (fun c15_q => ?_) (fun c15_q => ?_)
                              · skip
                                refine zlload_n (k := 66) rfl rfl ?_
                                refine zldc2 (k := 67) (z := 2003133803) rfl kc_12_289 rfl ?_
                                refine zlcmp (k := 68) rfl ?_
                                refine zif_eq (k := 69) rfl rfl (fun c16_q => ?_) (fun c16_q => ?_)
                                · skip
                                  refine ziconst (k := 86) rfl (by decide) ?_
                                  refine zzreturn (k := 87) rfl rfl (by first | exact Or.inl rfl | exact Or.inr rfl | omega) rfl ?_
                                  rw [← hQ]
                                  have e := (zcc2 w _).mp (by assumption)
                                  refine ⟨rfl, _, rfl, rfl, Or.inl ⟨rfl, ?_⟩⟩
                                  rw [e]
                                  decide
                                · skip
                                  refine zlload_n (k := 70) rfl rfl ?_
                                  refine zldc2 (k := 71) (z := 6709618) rfl kc_12_291 rfl ?_
                                  refine zlcmp (k := 72) rfl ?_
                                  refine zif_eq (k := 73) rfl rfl (fun c17_q => ?_) (fun c17_q => ?_)
                                  · skip
                                    refine ziconst (k := 86) rfl (by decide) ?_
                                    refine zzreturn (k := 87) rfl rfl (by first | exact Or.inl rfl | exact Or.inr rfl | omega) rfl ?_
                                    rw [← hQ]
                                    have e := (zcc2 w _).mp (by assumption)
                                    refine ⟨rfl, _, rfl, rfl, Or.inl ⟨rfl, ?_⟩⟩
                                    rw [e]
                                    decide
                                  · skip
                                    refine zlload_n (k := 74) rfl rfl ?_
                                    refine zldc2 (k := 75) (z := 26982) rfl kc_12_293 rfl ?_
                                    refine zlcmp (k := 76) rfl ?_
                                    refine zif_eq (k := 77) rfl rfl (fun c18_q => ?_) (fun c18_q => ?_)
                                    · skip
                                      refine ziconst (k := 86) rfl (by decide) ?_
                                      refine zzreturn (k := 87) rfl rfl (by first | exact Or.inl rfl | exact Or.inr rfl | omega) rfl ?_
                                      rw [← hQ]
                                      have e := (zcc2 w _).mp (by assumption)
                                      refine ⟨rfl, _, rfl, rfl, Or.inl ⟨rfl, ?_⟩⟩
                                      rw [e]
                                      decide
                                    · skip
                                      refine zlload_n (k := 78) rfl rfl ?_
                                      refine zldc2 (k := 79) (z := 28530) rfl kc_12_295 rfl ?_
                                      refine zlcmp (k := 80) rfl ?_
                                      refine zif_eq (k := 81) rfl rfl (fun c19_q => ?_) (fun c19_q => ?_)
                                      · skip
                                        refine ziconst (k := 86) rfl (by decide) ?_
                                        refine zzreturn (k := 87) rfl rfl (by first | exact Or.inl rfl | exact Or.inr rfl | omega) rfl ?_
                                        rw [← hQ]
                                        have e := (zcc2 w _).mp (by assumption)
                                        refine ⟨rfl, _, rfl, rfl, Or.inl ⟨rfl, ?_⟩⟩
                                        rw [e]
                                        decide
                                      · skip
                                        refine zlload_n (k := 82) rfl rfl ?_
                                        refine zldc2 (k := 83) (z := 6385252) rfl kc_12_297 rfl ?_
                                        refine zlcmp (k := 84) rfl ?_
                                        refine zif_ne (k := 85) rfl rfl (fun c20_q => ?_) (fun c20_q => ?_)
                                        · skip
                                          refine zlload_n (k := 88) rfl rfl ?_
                                          refine zldc2 (k := 89) (z := 7237492) rfl kc_12_299 rfl ?_
                                          refine zlcmp (k := 90) rfl ?_
                                          refine zif_eq (k := 91) rfl rfl (fun c21_q => ?_) (fun c21_q => ?_)
                                          · skip
                                            refine ziconst (k := 104) rfl (by decide) ?_
                                            refine zzreturn (k := 105) rfl rfl (by first | exact Or.inl rfl | exact Or.inr rfl | omega) rfl ?_
                                            rw [← hQ]
                                            have e := (zcc2 w _).mp (by assumption)
                                            refine ⟨rfl, _, rfl, rfl, Or.inl ⟨rfl, ?_⟩⟩
                                            rw [e]
                                            decide
                                          · skip
                                            refine zlload_n (k := 92) rfl rfl ?_
                                            refine zldc2 (k := 93) (z := 6384748) rfl kc_12_301 rfl ?_
                                            refine zlcmp (k := 94) rfl ?_
                                            refine zif_eq (k := 95) rfl rfl (fun c22_q => ?_) (fun c22_q => ?_)
                                            · skip
                                              refine ziconst (k := 104) rfl (by decide) ?_
                                              refine zzreturn (k := 105) rfl rfl (by first | exact Or.inl rfl | exact Or.inr rfl | omega) rfl ?_
                                              rw [← hQ]
                                              have e := (zcc2 w _).mp (by assumption)
                                              refine ⟨rfl, _, rfl, rfl, Or.inl ⟨rfl, ?_⟩⟩
                                              rw [e]
                                              decide
                                            · skip
                                              refine zlload_n (k := 96) rfl rfl ?_
                                              refine zldc2 (k := 97) (z := 7170414) rfl kc_12_303 rfl ?_
                                              refine zlcmp (k := 98) rfl ?_
                                              refine zif_eq (k := 99) rfl rfl (fun c23_q => ?_) (fun c23_q => ?_)
                                              · skip
                                                refine ziconst (k := 104) rfl (by decide) ?_
                                                refine zzreturn (k := 105) rfl rfl (by first | exact Or.inl rfl | exact Or.inr rfl | omega) rfl ?_
                                                rw [← hQ]
                                                have e := (zcc2 w _).mp (by assumption)
                                                refine ⟨rfl, _, rfl, rfl, Or.inl ⟨rfl, ?_⟩⟩
                                                rw [e]
                                                decide
                                              · skip
                                                refine zlload_n (k := 100) rfl rfl ?_
                                                refine zldc2 (k := 101) (z := 7168376) rfl kc_12_305 rfl ?_
                                                refine zlcmp (k := 102) rfl ?_
                                                refine zif_ne (k := 103) rfl rfl (fun c24_q => ?_) (fun c24_q => ?_)
                                                · skip
                                                  refine ziconst (k := 106) rfl (by decide) ?_
                                                  refine zzreturn (k := 107) rfl rfl (by first | exact Or.inl rfl | exact Or.inr rfl | omega) rfl ?_
                                                  rw [← hQ]
                                                  refine ⟨rfl, _, rfl, rfl, Or.inr ⟨rfl, fun h => ?_⟩⟩
                                                  simp only [OWNW, List.mem_cons, List.not_mem_nil, or_false] at h
                                                  simp only [zcc2, ne_eq] at *
                                                  omega
                                                · skip
                                                  refine ziconst (k := 104) rfl (by decide) ?_
                                                  refine zzreturn (k := 105) rfl rfl (by first | exact Or.inl rfl | exact Or.inr rfl | omega) rfl ?_
                                                  rw [← hQ]
                                                  have e := (zcc2 w _).mp (by assumption)
                                                  refine ⟨rfl, _, rfl, rfl, Or.inl ⟨rfl, ?_⟩⟩
                                                  rw [e]
                                                  decide
                                        · skip
                                          refine ziconst (k := 86) rfl (by decide) ?_
                                          refine zzreturn (k := 87) rfl rfl (by first | exact Or.inl rfl | exact Or.inr rfl | omega) rfl ?_
                                          rw [← hQ]
                                          have e := (zcc2 w _).mp (by assumption)
                                          refine ⟨rfl, _, rfl, rfl, Or.inl ⟨rfl, ?_⟩⟩
                                          rw [e]
                                          decide
                              · skip
                                refine ziconst (k := 64) rfl (by decide) ?_
                                refine zzreturn (k := 65) rfl rfl (by first | exact Or.inl rfl | exact Or.inr rfl | omega) rfl ?_
                                rw [← hQ]
                                have e := (zcc2 w _).mp (by assumption)
                                refine ⟨rfl, _, rfl, rfl, Or.inl ⟨rfl, ?_⟩⟩
                                rw [e]
                                decide
                    · skip
                      refine ziconst (k := 42) rfl (by decide) ?_
                      refine zzreturn (k := 43) rfl rfl (by first | exact Or.inl rfl | exact Or.inr rfl | omega) rfl ?_
                      rw [← hQ]
                      have e := (zcc2 w _).mp (by assumption)
                      refine ⟨rfl, _, rfl, rfl, Or.inl ⟨rfl, ?_⟩⟩
                      rw [e]
                      decide
          · skip
            refine ziconst (k := 20) rfl (by decide) ?_
            refine zzreturn (k := 21) rfl rfl (by first | exact Or.inl rfl | exact Or.inr rfl | omega) rfl ?_
            rw [← hQ]
            have e := (zcc2 w _).mp (by assumption)
            refine ⟨rfl, _, rfl, rfl, Or.inl ⟨rfl, ?_⟩⟩
            rw [e]
            decide
theorem own_mem {w : Int} : w ∈ OWNW ↔ ∃ k, 0 ≤ k ∧ k < 24 ∧ w = ownW k := by
  constructor
  · intro h
    obtain ⟨i, hi, e⟩ := List.getElem_of_mem h
    have hl : i < 24 := hi
    refine ⟨(i : Int), by omega, by omega, ?_⟩
    unfold ownW
    rw [Int.toNat_natCast, List.getD_eq_getElem?_getD, List.getElem?_eq_getElem hi, ← e]
    rfl
  · rintro ⟨k, h1_q, h2_q, rfl⟩
    unfold ownW
    have hl : k.toNat < OWNW.length := by show k.toNat < 24; omega
    rw [List.getD_eq_getElem?_getD, List.getElem?_eq_getElem hl]
    exact List.getElem_mem hl
set_option maxHeartbeats 4000000 in
set_option maxRecDepth 20000 in
theorem c_M_named {Γ : zv_M} {L : Int} {σ : zv_H} {t w i : Int} (hi : σ 289 32 = i) (hi1_q : i = 0 ∨ i = 1) (hc : (0 ≤ σ 291 i ∧ σ 291 i ≤ 7) ∧ (0 ≤ σ 298 i ∧ σ 298 i ≤ 6))  : zC Γ m_M_named 1 0 0 (GM L) [zR 289, zI t, zL w] σ (zFn (some (zI (ixF (fun k => if t = 0 then σ 306 (7 * i + k) else σ 307 (6 * i + k)) w (if t = 0 then σ 291 i else σ 298 i).toNat 0))) (GM L) σ) := by
  refine zC_of (ls0 := [_, _, _, _, _]) zm_M_named (by decide) rfl (Nat.le_of_ble_eq_true rfl) ?_
  generalize hQ : (zFn (some (zI (ixF (fun k => if t = 0 then σ 306 (7 * i + k) else σ 307 (6 * i + k)) w (if t = 0 then σ 291 i else σ 298 i).toNat 0))) (GM L) σ) = Q
  generalize hf : (fun k => if t = 0 then σ 306 (7 * i + k) else σ 307 (6 * i + k)) = f at hQ
  obtain ⟨u, hu⟩ : ∃ u : Nat, (if t = 0 then σ 291 i else σ 298 i) = (u : Int) := ⟨(if t = 0 then σ 291 i else σ 298 i).toNat, by omega⟩
  rw [show (if t = 0 then σ 291 i else σ 298 i).toNat = u by omega] at hQ
  refine ziconst (k := 0) rfl (by decide) ?_
  refine zistore (k := 1) (ls' := [_, _, _, _, _]) rfl (Nat.le_of_ble_eq_true rfl) rfl ?_
  have lp3_q : ∀ (g : Nat) (k : Nat), (u - k) < g → (k ≤ u) → (ixF f w u 0 = ixF f w (u - k) k) → zV Γ m_M_named 1 0 0 Q (GM L) (0, 0) 3 [some (zR 289), some (zI t), some (zL w), none, some (zI k)] [] σ := by
    intro g
    induction g with
    | zero => intro k hg; exact absurd hg (Nat.not_lt_zero _)
    | succ g ih3_q =>
      intro k hg hk hx
      refine ziload (k := 2) rfl rfl ?_
      refine zaload_n (k := 3) rfl rfl ?_
      refine zaload_n (k := 4) rfl rfl ?_
      refine zgI 32 (k := 5) rfl ob_289 fl_12_109 rfl fx_289_32 ?_
      rw [hi]
      refine ziload_n (k := 6) rfl rfl ?_
      refine zfV1 (k := 7) rfl (c_M_manyOf hi1_q) fm_M_manyOf lk_12_307 rfl rfl ob_289 ⟨_, rfl, rfl⟩ (Nat.le_of_ble_eq_true rfl) (by decide) ⟨by decide, by decide⟩ ?_
      rw [hu]
      refine zicmp_ge (k := 8) rfl rfl (fun c1_q => ?_) (fun c1_q => ?_)
      · skip
        refine ziconst (k := 22) rfl (by decide) ?_
        refine zireturn (k := 23) rfl rfl rfl ?_
        rw [← hQ]
        exact ⟨szI (by rw [hx, show u - k = 0 by omega]; rfl), rfl, rfl⟩
      · skip
        refine zaload_n (k := 9) rfl rfl ?_
        refine zaload_n (k := 10) rfl rfl ?_
        refine zgI 32 (k := 11) rfl ob_289 fl_12_109 rfl fx_289_32 ?_
        rw [hi]
        refine ziload_n (k := 12) rfl rfl ?_
        refine ziload (k := 13) rfl rfl ?_
        refine zfV1 (k := 14) rfl (c_M_nameOf hi1_q ⟨by omega, fun e => by rw [if_pos e] at hu; omega, fun e => by rw [if_neg e] at hu; omega⟩) fm_M_nameOf lk_12_311 rfl rfl ob_289 ⟨_, rfl, rfl⟩ (Nat.le_of_ble_eq_true rfl) (by decide) ⟨by decide, by decide⟩ ?_
        rw [show (if t = 0 then σ 306 (7 * i + (k : Int)) else σ 307 (6 * i + (k : Int))) = f k by rw [← hf]]
        refine zlload_n (k := 15) rfl rfl ?_
        refine zlcmp (k := 16) rfl ?_
        refine zif_ne (k := 17) rfl rfl (fun c2_q => ?_) (fun c2_q => ?_)
        · skip
          refine ziincB (k := 20) (ls' := [_, _, _, _, _]) rfl rfl (by decide) (by omega) rfl ?_
          refine zgoto (k := 21) rfl rfl ?_
          simp only [zcc2, ne_eq] at *
          refine ih3_q (k + 1) (by omega) (by omega) ?_
          rw [hx, show u - k = (u - (k + 1)) + 1 by omega, ixF_s, if_neg (by assumption)]
          rfl
        · skip
          refine ziload (k := 18) rfl rfl ?_
          refine zireturn (k := 19) rfl rfl rfl ?_
          rw [← hQ]
          simp only [zcc2, ne_eq] at *
          exact ⟨szI (by rw [hx, show u - k = (u - (k + 1)) + 1 by omega, ixF_s, if_pos (by assumption)]), rfl, rfl⟩
  exact lp3_q _ 0 (Nat.lt_succ_self _) (by omega) rfl
