/-! war(): the model -/
def rz (σ : zv_H) (i c : Int) : zv_H := fun x k => if x = 296 ∧ 49 * i ≤ k ∧ k < 49 * i + c then 0 else σ x k
theorem rz_n {σ : zv_H} {i c x k : Int} (h : ¬ (x = 296 ∧ 49 * i ≤ k ∧ k < 49 * i + c)) : rz σ i c x k = σ x k := if_neg h
theorem rz_0 (σ : zv_H) (i : Int) : σ = rz σ i (7 * ((0 : Nat) : Int)) := by
  funext x k
  exact (if_neg (by omega)).symm
theorem rz_s {σ : zv_H} {i a c : Int} (ha : 0 ≤ a ∧ a < 7) (hc : 0 ≤ c ∧ c < 7) : zup (rz σ i (7 * a + c)) 296 (49 * i + 7 * a + c) 0 = rz σ i (7 * a + (c + 1)) := by
  funext x k
  by_cases e : x = 296 ∧ k = 49 * i + 7 * a + c
  · rw [e.1, e.2, zup_s]
    exact (if_pos (by omega)).symm
  · rw [zup_n e]
    unfold rz
    by_cases q : x = 296 ∧ 49 * i ≤ k ∧ k < 49 * i + (7 * a + c)
    · rw [if_pos q, if_pos (by omega)]
    · rw [if_neg q, if_neg (by omega)]
/-- what war() clears ahead of the text -/
def mcl (σ : zv_H) (i n : Int) : zv_H := zup (rz (zup (zup (zup (zup (zup (zup (zup (zup (zup (zup (zup (zup σ 289 2 n) 289 1 0) 289 5 0) 289 8 0) 289 9 (-1)) 289 32 i) 291 i 0) 295 i 0) 298 i 0) 301 i 2) 302 (2 * i) (-1)) 302 (2 * i + 1) (-1)) i 49) 289 31 0
theorem mcl_f2 {σ : zv_H} {i n : Int} (hi1_q : i = 0 ∨ i = 1) : mcl σ i n 289 2 = n := by
  unfold mcl
  rw [zup_n (by omega), rz_n (by omega), zup_n (by omega), zup_n (by omega), zup_n (by omega), zup_n (by omega), zup_n (by omega), zup_n (by omega), zup_n (by omega), zup_n (by omega), zup_n (by omega), zup_n (by omega), zup_n (by omega), zup_s]
theorem mcl_f1 {σ : zv_H} {i n : Int} (hi1_q : i = 0 ∨ i = 1) : mcl σ i n 289 1 = 0 := by
  unfold mcl
  rw [zup_n (by omega), rz_n (by omega), zup_n (by omega), zup_n (by omega), zup_n (by omega), zup_n (by omega), zup_n (by omega), zup_n (by omega), zup_n (by omega), zup_n (by omega), zup_n (by omega), zup_n (by omega), zup_s]
theorem mcl_f5 {σ : zv_H} {i n : Int} (hi1_q : i = 0 ∨ i = 1) : mcl σ i n 289 5 = 0 := by
  unfold mcl
  rw [zup_n (by omega), rz_n (by omega), zup_n (by omega), zup_n (by omega), zup_n (by omega), zup_n (by omega), zup_n (by omega), zup_n (by omega), zup_n (by omega), zup_n (by omega), zup_n (by omega), zup_s]
theorem mcl_f8 {σ : zv_H} {i n : Int} (hi1_q : i = 0 ∨ i = 1) : mcl σ i n 289 8 = 0 := by
  unfold mcl
  rw [zup_n (by omega), rz_n (by omega), zup_n (by omega), zup_n (by omega), zup_n (by omega), zup_n (by omega), zup_n (by omega), zup_n (by omega), zup_n (by omega), zup_n (by omega), zup_s]
theorem mcl_f9 {σ : zv_H} {i n : Int} (hi1_q : i = 0 ∨ i = 1) : mcl σ i n 289 9 = (-1) := by
  unfold mcl
  rw [zup_n (by omega), rz_n (by omega), zup_n (by omega), zup_n (by omega), zup_n (by omega), zup_n (by omega), zup_n (by omega), zup_n (by omega), zup_n (by omega), zup_s]
theorem mcl_f32 {σ : zv_H} {i n : Int} (hi1_q : i = 0 ∨ i = 1) : mcl σ i n 289 32 = i := by
  unfold mcl
  rw [zup_n (by omega), rz_n (by omega), zup_n (by omega), zup_n (by omega), zup_n (by omega), zup_n (by omega), zup_n (by omega), zup_n (by omega), zup_s]
theorem mcl_291 {σ : zv_H} {i n : Int} (hi1_q : i = 0 ∨ i = 1) : mcl σ i n 291 i = 0 := by
  unfold mcl
  rw [zup_n (by omega), rz_n (by omega), zup_n (by omega), zup_n (by omega), zup_n (by omega), zup_n (by omega), zup_n (by omega), zup_s]
theorem mcl_295 {σ : zv_H} {i n : Int} (hi1_q : i = 0 ∨ i = 1) : mcl σ i n 295 i = 0 := by
  unfold mcl
  rw [zup_n (by omega), rz_n (by omega), zup_n (by omega), zup_n (by omega), zup_n (by omega), zup_n (by omega), zup_s]
theorem mcl_298 {σ : zv_H} {i n : Int} (hi1_q : i = 0 ∨ i = 1) : mcl σ i n 298 i = 0 := by
  unfold mcl
  rw [zup_n (by omega), rz_n (by omega), zup_n (by omega), zup_n (by omega), zup_n (by omega), zup_s]
theorem mcl_301 {σ : zv_H} {i n : Int} (hi1_q : i = 0 ∨ i = 1) : mcl σ i n 301 i = 2 := by
  unfold mcl
  rw [zup_n (by omega), rz_n (by omega), zup_n (by omega), zup_n (by omega), zup_s]
theorem mcl_302a {σ : zv_H} {i n : Int} (hi1_q : i = 0 ∨ i = 1) : mcl σ i n 302 (2 * i) = (-1) := by
  unfold mcl
  rw [zup_n (by omega), rz_n (by omega), zup_n (by omega), zup_s]
theorem mcl_302b {σ : zv_H} {i n : Int} (hi1_q : i = 0 ∨ i = 1) : mcl σ i n 302 (2 * i + 1) = (-1) := by
  unfold mcl
  rw [zup_n (by omega), rz_n (by omega), zup_s]
theorem mcl_f31 {σ : zv_H} {i n : Int} (hi1_q : i = 0 ∨ i = 1) : mcl σ i n 289 31 = 0 := by
  unfold mcl
  rw [zup_s]
theorem mcl_296 {σ : zv_H} {i n k : Int} (h1_q : 0 ≤ k) (h2_q : k < 49) : mcl σ i n 296 (49 * i + k) = 0 := by
  unfold mcl
  rw [zup_n (by omega)]
  exact if_pos (by omega)
theorem mcl_o {σ : zv_H} {i n x k : Int} (h1_q : ¬ inZt i x k) (h2_q : ¬ (x = 289 ∧ (k = 1 ∨ k = 2 ∨ k = 5 ∨ k = 8 ∨ k = 9 ∨ k = 31 ∨ k = 32))) : mcl σ i n x k = σ x k := by
  have a : ¬ ((x = 291 ∨ x = 295 ∨ x = 298 ∨ x = 301) ∧ k = i) := fun q => h1_q (Or.inl (Or.inl q))
  have b : ¬ (x = 296 ∧ 49 * i ≤ k ∧ k < 49 * i + 49) := fun q => h1_q (Or.inl (Or.inr (Or.inr (Or.inr q))))
  have c : ¬ ((x = 302 ∨ x = 303) ∧ 2 * i ≤ k ∧ k < 2 * i + 2) := fun q => h1_q (Or.inr (Or.inr q))
  unfold mcl
  rw [zup_n (by omega), rz_n b, zup_n (by omega), zup_n (by omega), zup_n (by omega), zup_n (by omega), zup_n (by omega), zup_n (by omega), zup_n (by omega), zup_n (by omega), zup_n (by omega), zup_n (by omega), zup_n (by omega), zup_n (by omega)]
theorem mcl_st {σ σ2 : zv_H} {T : Int → Int} {i n : Int} (hi1_q : i = 0 ∨ i = 1) (hT : TT T n) (h290_q : ∀ k, 0 ≤ k → k < n → σ 290 k = T k) (h : MSc σ2 T 0 ∧ sfr (mcl σ i n) σ2) : stS (mcl σ i n, inZt i) σ2 T n i AZ [] [] [] 0 := by
  obtain ⟨hm, hs⟩ := h
  have z12_q : ∀ k, AZ 12 k = 0 := fun k => if_neg (by omega)
  refine ⟨⟨fun x k q1_q q2_q => hs x k (by omega), ⟨by rw [hs 289 2 (by omega), mcl_f2 hi1_q], hT, fun k k1_q k2_q => ?_⟩, by rw [hs 289 32 (by omega), mcl_f32 hi1_q], ⟨⟨?_, ?_, ?_, ?_⟩, fun c q1_q q2_q => absurd q2_q (by show ¬ c < 0; omega), fun m q1_q q2_q => absurd q2_q (by show ¬ m < 0; omega), fun k k1_q k2_q => ?_⟩, ⟨by rw [hs 289 8 (by omega), mcl_f8 hi1_q], ⟨Int.le_refl 0, hT.1.1⟩, MSd_of hm (by rw [hs 289 9 (by omega), mcl_f9 hi1_q])⟩⟩, AZ_I T, trivial, by rw [hs 289 31 (by omega), mcl_f31 hi1_q]; rfl, Int.le_refl 0, Or.inl ⟨rfl, ?_⟩, Or.inl ⟨rfl, ?_⟩, fun c hc => (by cases hc), fun f t _ _ _ _ _ => z12_q _⟩
  · rw [hs 290 k (by omega), mcl_o (fun q => by rcases q with (q | q | q | q) | (q | q | q) | q <;> omega) (by omega)]
    exact h290_q k k1_q k2_q
  · rw [hs 291 i (by omega), mcl_291 hi1_q]; rfl
  · rw [hs 295 i (by omega), mcl_295 hi1_q]; rfl
  · rw [hs 298 i (by omega), mcl_298 hi1_q]; rfl
  · rw [hs 301 i (by omega), mcl_301 hi1_q]; rfl
  · rw [hs 296 _ (by omega), mcl_296 k1_q k2_q, z12_q]
  · rw [show 2 * i + 0 = 2 * i by omega, hs 302 _ (by omega), mcl_302a hi1_q]
  · rw [hs 302 _ (by omega), mcl_302b hi1_q]
theorem lpI_bad {s : zSpan} {σ : zv_H} {T : Int → Int} {n i k : Int} {R : zRw} (h : lpI s σ T n i R k) (h8_q : σ 289 8 ≠ 0) : ∃ (kf pl : Int) (A : zv_H), R = Sum.inr (kf, pl) ∧ 0 < kf ∧ rdR s σ T n i A (Sum.inr (kf, pl)) := by
  rcases lpI_e h with q | q
  · exact q
  · exact absurd q.1 h8_q
theorem lpI_end {s : zSpan} {σ : zv_H} {T : Int → Int} {n i k : Int} {R : zRw} (h : lpI s σ T n i R k) (h8_q : σ 289 8 = 0) (h3_q : σ 289 3 = 0) : ∃ (p : Int) (A : zv_H) (J K out : List (Int × Int)), R = Sum.inl (A, J, K) ∧ A 0 0 = k ∧ stS s σ T n i A J K out p := by
  rcases lpI_e h with ⟨kf, pl, A, q1_q, q2_q, q3_q⟩ | q
  · have := q3_q.2.2.2.2.2.1
    exfalso; omega
  · exact q.2.2 h3_q
/-- behind the text -/
def mwY (σ : zv_H) : zv_H := zup (zup σ 289 10 0) 289 11 (-1)
def mwX (σ : zv_H) (i : Int) : zv_H := zup (mrw (mwY σ) i (fwB (msI (r296 (mwY σ) i)) 7 7)) 289 13 i
def mwE (σ : zv_H) (i : Int) : zv_H := zup (zup (zup (bg3 (bg2 (bg1 (mwX σ i) i 7) i 6) 42) 325 0 0) 289 58 0) 289 67 0
theorem st_296 {s : zSpan} {σ : zv_H} {T : Int → Int} {n i p : Int} {A : zv_H} {J K out : List (Int × Int)} (h : stS s σ T n i A J K out p) {k : Int} (h1_q : 0 ≤ k) (h2_q : k < 49) : r296 (mwY σ) i k = A 12 k ∧ 0 ≤ A 12 k ∧ A 12 k ≤ 9 := by
  have a := h.2.1.2.2.2.2.2.2.2 k h1_q h2_q
  refine ⟨?_, a⟩
  unfold r296 mwY
  rw [zup_n (by omega), zup_n (by omega)]
  exact h.1.2.2.2.1.2.2.2 k h1_q h2_q
set_option maxHeartbeats 4000000 in
set_option maxRecDepth 20000 in
theorem c_M_war {Γ : zv_M} {L : Int} {σ : zv_H} {T : Int → Int} {n b i : Int} {R : zRw} (hb : σ 289 13 = b) (hb1_q : b = 0 ∨ b = 1) (hi : i = 1 - b) (hn : σ 289 1 = n) (hT : TT T n) (h290_q : ∀ k, 0 ≤ k → k < n → σ 290 k = T k) (hR : warR T n 82 0 AZ [] [] R)  : zC Γ m_M_war 7 0 0 (GM L) [zR 289] σ (zPI (GM L) (fun z σ' => (∃ (kf pl : Int) (A σ5 : zv_H), R = Sum.inr (kf, pl) ∧ 0 < kf ∧ z = -1 ∧ rdR (mcl σ i n, inZt i) σ5 T n i A (Sum.inr (kf, pl)) ∧ σ' = rfM (zup (zup σ5 289 10 kf) 289 11 pl) 1) ∨ (∃ (p : Int) (A : zv_H) (J K out : List (Int × Int)) (σ5 : zv_H), R = Sum.inl (A, J, K) ∧ z = A 0 0 ∧ stS (mcl σ i n, inZt i) σ5 T n i A J K out p ∧ σ' = mwE σ5 i))) := by
  refine zC_of (ls0 := [_, _, _]) zm_M_war (by decide) rfl (Nat.le_of_ble_eq_true rfl) ?_
  generalize hQ : (zPI (GM L) (fun z σ' => (∃ (kf pl : Int) (A σ5 : zv_H), R = Sum.inr (kf, pl) ∧ 0 < kf ∧ z = -1 ∧ rdR (mcl σ i n, inZt i) σ5 T n i A (Sum.inr (kf, pl)) ∧ σ' = rfM (zup (zup σ5 289 10 kf) 289 11 pl) 1) ∨ (∃ (p : Int) (A : zv_H) (J K out : List (Int × Int)) (σ5 : zv_H), R = Sum.inl (A, J, K) ∧ z = A 0 0 ∧ stS (mcl σ i n, inZt i) σ5 T n i A J K out p ∧ σ' = mwE σ5 i))) = Q
  have hi1_q : i = 0 ∨ i = 1 := by omega
  have hn0_q := hT.1
  refine zaload_n (k := 0) rfl rfl ?_
  refine zaload_n (k := 1) rfl rfl ?_
  refine zgI 1 (k := 2) rfl ob_289 fl_12_13 rfl fx_289_1 ?_
  rw [hn]
  refine zpI 2 (k := 3) rfl ob_289 fl_12_17 ⟨_, rfl, rfl⟩ rfl (by omega) rfl fx_289_2 ?_
  refine zaload_n (k := 4) rfl rfl ?_
  refine ziconst (k := 5) rfl (by decide) ?_
  refine zpI 1 (k := 6) rfl ob_289 fl_12_13 ⟨_, rfl, rfl⟩ rfl (by omega) rfl fx_289_1 ?_
  refine zaload_n (k := 7) rfl rfl ?_
  refine ziconst (k := 8) rfl (by decide) ?_
  refine zpI 5 (k := 9) rfl ob_289 fl_12_26 ⟨_, rfl, rfl⟩ rfl (by omega) rfl fx_289_5 ?_
  refine zaload_n (k := 10) rfl rfl ?_
  refine ziconst (k := 11) rfl (by decide) ?_
  refine zpI 8 (k := 12) rfl ob_289 fl_12_36 ⟨_, rfl, rfl⟩ rfl (by omega) rfl fx_289_8 ?_
  refine zaload_n (k := 13) rfl rfl ?_
  refine ziconst (k := 14) rfl (by decide) ?_
  refine zpI 9 (k := 15) rfl ob_289 fl_12_39 ⟨_, rfl, rfl⟩ rfl (by omega) rfl fx_289_9 ?_
  refine zaload_n (k := 16) rfl rfl ?_
  refine ziconst (k := 17) rfl (by decide) ?_
  refine zaload_n (k := 18) rfl rfl ?_
  refine zgI 13 (k := 19) rfl ob_289 fl_12_51 rfl fx_289_13 ?_
  rw [zup_n (by omega), zup_n (by omega), zup_n (by omega), zup_n (by omega), zup_n (by omega), hb]
  refine zisubB (k := 20) rfl (by omega) ?_
  rw [show 1 - b = i by omega]
  refine zpI 32 (k := 21) rfl ob_289 fl_12_109 ⟨_, rfl, rfl⟩ rfl (by omega) rfl fx_289_32 ?_
  refine zaload_n (k := 22) rfl rfl ?_
  refine zgF 14 (k := 23) rfl ob_289 fl_12_54 rfl fx_289_14 ?_
  refine zaload_n (k := 24) rfl rfl ?_
  refine zgI 32 (k := 25) rfl ob_289 fl_12_109 rfl fx_289_32 ?_
  rw [zup_s]
  refine ziconst (k := 26) rfl (by decide) ?_
  refine ziastore (k := 27) rfl ar_291 ⟨by omega, by omega⟩ (by omega) ?_
  refine zaload_n (k := 28) rfl rfl ?_
  refine zgF 18 (k := 29) rfl ob_289 fl_12_66 rfl fx_289_18 ?_
  refine zaload_n (k := 30) rfl rfl ?_
  refine zgI 32 (k := 31) rfl ob_289 fl_12_109 rfl fx_289_32 ?_
  rw [zup_n (by omega), zup_s]
  refine ziconst (k := 32) rfl (by decide) ?_
  refine ziastore (k := 33) rfl ar_295 ⟨by omega, by omega⟩ (by omega) ?_
  refine zaload_n (k := 34) rfl rfl ?_
  refine zgF 21 (k := 35) rfl ob_289 fl_12_75 rfl fx_289_21 ?_
  refine zaload_n (k := 36) rfl rfl ?_
  refine zgI 32 (k := 37) rfl ob_289 fl_12_109 rfl fx_289_32 ?_
  rw [zup_n (by omega), zup_n (by omega), zup_s]
  refine ziconst (k := 38) rfl (by decide) ?_
  refine ziastore (k := 39) rfl ar_298 ⟨by omega, by omega⟩ (by omega) ?_
  refine zaload_n (k := 40) rfl rfl ?_
  refine zgF 24 (k := 41) rfl ob_289 fl_12_84 rfl fx_289_24 ?_
  refine zaload_n (k := 42) rfl rfl ?_
  refine zgI 32 (k := 43) rfl ob_289 fl_12_109 rfl fx_289_32 ?_
  rw [zup_n (by omega), zup_n (by omega), zup_n (by omega), zup_s]
  refine ziconst (k := 44) rfl (by decide) ?_
  refine ziastore (k := 45) rfl ar_301 ⟨by omega, by omega⟩ (by omega) ?_
  refine zaload_n (k := 46) rfl rfl ?_
  refine zgF 25 (k := 47) rfl ob_289 fl_12_87 rfl fx_289_25 ?_
  refine ziconst (k := 48) rfl (by decide) ?_
  refine zaload_n (k := 49) rfl rfl ?_
  refine zgI 32 (k := 50) rfl ob_289 fl_12_109 rfl fx_289_32 ?_
  rw [zup_n (by omega), zup_n (by omega), zup_n (by omega), zup_n (by omega), zup_s]
  refine zimulB (k := 51) rfl (by omega) ?_
  refine ziconst (k := 52) rfl (by decide) ?_
  refine ziastore (k := 53) rfl ar_302 ⟨by omega, by omega⟩ (by omega) ?_
  refine zaload_n (k := 54) rfl rfl ?_
  refine zgF 25 (k := 55) rfl ob_289 fl_12_87 rfl fx_289_25 ?_
  refine ziconst (k := 56) rfl (by decide) ?_
  refine zaload_n (k := 57) rfl rfl ?_
  refine zgI 32 (k := 58) rfl ob_289 fl_12_109 rfl fx_289_32 ?_
  rw [zup_n (by omega), zup_n (by omega), zup_n (by omega), zup_n (by omega), zup_n (by omega), zup_s]
  refine zimulB (k := 59) rfl (by omega) ?_
  refine ziconst (k := 60) rfl (by decide) ?_
  refine ziaddB (k := 61) rfl (by omega) ?_
  refine ziconst (k := 62) rfl (by decide) ?_
  refine ziastore (k := 63) rfl ar_302 ⟨by omega, by omega⟩ (by omega) ?_
  refine ziconst (k := 64) rfl (by decide) ?_
  refine zistore_n (k := 65) (ls' := [_, _, _]) rfl (Nat.le_of_ble_eq_true rfl) rfl ?_
  have lp106_q : ∀ (g : Nat) (a : Nat), (7 - a) < g → (a ≤ 7) → zV Γ m_M_war 7 0 0 Q (GM L) (0, 0) 106 [some (zR 289), some (zI a), none] [] (rz (zup (zup (zup (zup (zup (zup (zup (zup (zup (zup (zup (zup σ 289 2 n) 289 1 0) 289 5 0) 289 8 0) 289 9 (-1)) 289 32 i) 291 i 0) 295 i 0) 298 i 0) 301 i 2) 302 (2 * i) (-1)) 302 (2 * i + 1) (-1)) i (7 * a)) := by
    intro g
    induction g with
    | zero => intro a hg; exact absurd hg (Nat.not_lt_zero _)
    | succ g ih106_q =>
      intro a hg ha
      refine ziload_n (k := 66) rfl rfl ?_
      refine zbipush (k := 67) rfl rfl ?_
      refine zicmp_ge (k := 68) rfl rfl (fun c1_q => ?_) (fun c1_q => ?_)
      · skip
        rw [show 7 * (a : Int) = 49 by omega]
        refine zaload_n (k := 88) rfl rfl ?_
        refine ziconst (k := 89) rfl (by decide) ?_
        refine zpI 31 (k := 90) rfl ob_289 fl_12_106 ⟨_, rfl, rfl⟩ rfl (by omega) rfl fx_289_31 ?_
        refine ziconst (k := 91) rfl (by decide) ?_
        refine zistore_n (k := 92) (ls' := [_, _, _]) rfl (Nat.le_of_ble_eq_true rfl) rfl ?_
        rw [show zup (rz (zup (zup (zup (zup (zup (zup (zup (zup (zup (zup (zup (zup σ 289 2 n) 289 1 0) 289 5 0) 289 8 0) 289 9 (-1)) 289 32 i) 291 i 0) 295 i 0) 298 i 0) 301 i 2) 302 (2 * i) (-1)) 302 (2 * i + 1) (-1)) i 49) 289 31 0 = mcl σ i n from rfl]
        refine zaload_n (k := 93) rfl rfl ?_
        refine zpV0 (k := 94) rfl (c_M_ahead (n := n) (p := 0) ⟨mcl_f2 hi1_q, hT, fun k k1_q k2_q => by rw [mcl_o (fun q => by rcases q with (q | q | q | q) | (q | q | q) | q <;> omega) (by omega)]; exact h290_q k k1_q k2_q⟩ ⟨Int.le_refl 0, hn0_q.1⟩ (mcl_f5 hi1_q)) fm_M_ahead lk_12_256 rfl rfl ob_289 ⟨_, rfl, rfl⟩ (Nat.le_of_ble_eq_true rfl) (by decide) ⟨by decide, by decide⟩ (fun σ2 h2_q => ?_)
        have h0_q := mcl_st hi1_q hT h290_q h2_q
        have lp159_q : ∀ (g : Nat) (k : Nat) (σ5 : zv_H), (81 - k) < g → (lpI (mcl σ i n, inZt i) σ5 T n i R k) → (k ≤ 80) → zV Γ m_M_war 7 0 0 Q (GM L) (0, 0) 159 [some (zR 289), some (zI k), none] [] σ5 := by
          intro g
          induction g with
          | zero => intro k σ5 hg; exact absurd hg (Nat.not_lt_zero _)
          | succ g ih159_q =>
            intro k σ5 hg hL hk
            refine zaload_n (k := 95) rfl rfl ?_
            refine zgI 8 (k := 96) rfl ob_289 fl_12_36 rfl fx_289_8 ?_
            refine zif_ne (k := 97) rfl rfl (fun c2_q => ?_) (fun c2_q => ?_)
            · skip
              -- BAD
              obtain ⟨kf, pl, A, g1_q, g2_q, g3_q⟩ := lpI_bad hL (by assumption)
              have e8_q : σ5 289 8 = kf := g3_q.2.2.2.2.2.1
              have e9_q : σ5 289 9 = pl := g3_q.2.2.2.2.2.2
              refine zaload_n (k := 108) rfl rfl ?_
              refine zaload_n (k := 109) rfl rfl ?_
              refine zgI 8 (k := 110) rfl ob_289 fl_12_36 rfl fx_289_8 ?_
              rw [e8_q]
              refine zpI 10 (k := 111) rfl ob_289 fl_12_42 ⟨_, rfl, rfl⟩ rfl (by omega) rfl fx_289_10 ?_
              refine zaload_n (k := 112) rfl rfl ?_
              refine zaload_n (k := 113) rfl rfl ?_
              refine zgI 9 (k := 114) rfl ob_289 fl_12_39 rfl fx_289_9 ?_
              rw [zup_n (by omega), e9_q]
              refine zpI 11 (k := 115) rfl ob_289 fl_12_45 ⟨_, rfl, rfl⟩ rfl (by omega) rfl fx_289_11 ?_
              refine zaload_n (k := 116) rfl rfl ?_
              refine zgI 8 (k := 117) rfl ob_289 fl_12_36 rfl fx_289_8 ?_
              rw [zup_n (by omega), zup_n (by omega), e8_q]
              refine zif_le (k := 118) rfl rfl (fun c3_q => ?_) (fun c3_q => ?_)
              · exfalso; omega
              refine zaload_n (k := 119) rfl rfl ?_
              refine ziconst (k := 120) rfl (by decide) ?_
              refine zfV1 (k := 121) rfl (c_M_refuses (by omega)) fm_M_refuses lk_12_231 rfl rfl ob_289 ⟨_, rfl, rfl⟩ (Nat.le_of_ble_eq_true rfl) (by decide) ⟨by decide, by decide⟩ ?_
              refine zireturn (k := 122) rfl rfl rfl ?_
              rw [← hQ]
              exact ⟨rfl, _, rfl, Or.inl ⟨kf, pl, A, σ5, g1_q, g2_q, rfl, g3_q, rfl⟩⟩
            · skip
              refine zaload_n (k := 98) rfl rfl ?_
              refine zgI 3 (k := 99) rfl ob_289 fl_12_20 rfl fx_289_3 ?_
              refine zif_eq (k := 100) rfl rfl (fun c4_q => ?_) (fun c4_q => ?_)
              · skip
                -- END
                obtain ⟨p, A, J, K, out, g1_q, g2_q, g3_q⟩ := lpI_end hL (by assumption) (by assumption)
                have e8_q : σ5 289 8 = 0 := by assumption
                have e9_q : σ5 289 9 = -1 := rdR_9 g3_q.1 e8_q
                refine zaload_n (k := 108) rfl rfl ?_
                refine zaload_n (k := 109) rfl rfl ?_
                refine zgI 8 (k := 110) rfl ob_289 fl_12_36 rfl fx_289_8 ?_
                rw [e8_q]
                refine zpI 10 (k := 111) rfl ob_289 fl_12_42 ⟨_, rfl, rfl⟩ rfl (by omega) rfl fx_289_10 ?_
                refine zaload_n (k := 112) rfl rfl ?_
                refine zaload_n (k := 113) rfl rfl ?_
                refine zgI 9 (k := 114) rfl ob_289 fl_12_39 rfl fx_289_9 ?_
                rw [zup_n (by omega), e9_q]
                refine zpI 11 (k := 115) rfl ob_289 fl_12_45 ⟨_, rfl, rfl⟩ rfl (by omega) rfl fx_289_11 ?_
                refine zaload_n (k := 116) rfl rfl ?_
                refine zgI 8 (k := 117) rfl ob_289 fl_12_36 rfl fx_289_8 ?_
                rw [zup_n (by omega), zup_n (by omega), e8_q]
                refine zif_le (k := 118) rfl rfl (fun c5_q => ?_) (fun c5_q => ?_)
                · skip
                  rw [show zup (zup σ5 289 10 0) 289 11 (-1) = mwY σ5 from rfl]
                  have hin5_q : mwY σ5 289 32 = i := by unfold mwY; rw [zup_n (by omega), zup_n (by omega)]; exact g3_q.1.2.2.1
                  refine zaload_n (k := 123) rfl rfl ?_
                  refine zfV0 (k := 124) rfl (c_M_measures (i := i) hin5_q hi1_q (fun k k1_q k2_q => by rw [(st_296 g3_q k1_q k2_q).1]; exact (st_296 g3_q k1_q k2_q).2)) fm_M_measures lk_12_411 rfl rfl ob_289 ⟨_, rfl, rfl⟩ (Nat.le_of_ble_eq_true rfl) (by decide) ⟨by decide, by decide⟩ ?_
                  refine zaload_n (k := 125) rfl rfl ?_
                  refine zaload_n (k := 126) rfl rfl ?_
                  refine zgI 32 (k := 127) rfl ob_289 fl_12_109 rfl fx_289_32 ?_
                  rw [mrw_n (by omega), hin5_q]
                  refine zpI 13 (k := 128) rfl ob_289 fl_12_51 ⟨_, rfl, rfl⟩ rfl (by omega) rfl fx_289_13 ?_
                  rw [show zup (mrw (mwY σ5) i (fwB (msI (r296 (mwY σ5) i)) 7 7)) 289 13 i = mwX σ5 i from rfl]
                  refine zaload_n (k := 129) rfl rfl ?_
                  refine zfV0 (k := 130) rfl (c_M_begin (b := i) (by unfold mwX; rw [zup_s]) hi1_q) fm_M_begin lk_12_414 rfl rfl ob_289 ⟨_, rfl, rfl⟩ (Nat.le_of_ble_eq_true rfl) (by decide) ⟨by decide, by decide⟩ ?_
                  refine ziload_n (k := 131) rfl rfl ?_
                  refine zireturn (k := 132) rfl rfl rfl ?_
                  rw [← hQ]
                  exact ⟨rfl, _, rfl, Or.inr ⟨p, A, J, K, out, σ5, g1_q, g2_q.symm, g3_q, rfl⟩⟩
                · exfalso; omega
              · skip
                obtain ⟨p, A, J, K, out, g2_q, res, w1_q, w2_q, w3_q, w4_q, w5_q⟩ := lpI_s hL (by assumption) (by assumption)
                refine zaload_n (k := 101) rfl rfl ?_
                refine zpV0 (k := 102) rfl (c_M_statement (s := (mcl σ i n, inZt i)) hi1_q (fun x k q => q) w1_q w2_q) fm_M_statement lk_12_405 rfl rfl ob_289 ⟨_, rfl, rfl⟩ (Nat.le_of_ble_eq_true rfl) (by decide) ⟨by decide, by decide⟩ (fun σ6 h6_q => ?_)
                refine ziincB (k := 103) (ls' := [_, _, _]) rfl rfl (by decide) (by omega) rfl ?_
                refine zaload_n (k := 104) rfl rfl ?_
                refine ziload_n (k := 105) rfl rfl ?_
                refine zpV0 (k := 106) rfl (q_fin h6_q w3_q w4_q w5_q) fm_M_finishes lk_12_408 rfl rfl ob_289 ⟨_, rfl, rfl⟩ (Nat.le_of_ble_eq_true rfl) (by decide) ⟨by decide, by decide⟩ (fun σ7 h7_q => ?_)
                refine zgoto (k := 107) rfl rfl ?_
                exact ih159_q (k + 1) σ7 (by omega) h7_q (by omega)
        exact lp159_q _ 0 σ2 (Nat.lt_succ_self _) (Or.inl ⟨0, AZ, [], [], [], 82, h0_q, rfl, by omega, fun q => by omega, by omega, hR⟩) (by omega)
      · skip
        refine ziconst (k := 69) rfl (by decide) ?_
        refine zistore_n (k := 70) (ls' := [_, _, _]) rfl (Nat.le_of_ble_eq_true rfl) rfl ?_
        have lp114_q : ∀ (g : Nat) (c : Nat), (7 - c) < g → (c ≤ 7) → zV Γ m_M_war 7 0 0 Q (GM L) (0, 0) 114 [some (zR 289), some (zI a), some (zI c)] [] (rz (zup (zup (zup (zup (zup (zup (zup (zup (zup (zup (zup (zup σ 289 2 n) 289 1 0) 289 5 0) 289 8 0) 289 9 (-1)) 289 32 i) 291 i 0) 295 i 0) 298 i 0) 301 i 2) 302 (2 * i) (-1)) 302 (2 * i + 1) (-1)) i (7 * a + c)) := by
          intro g
          induction g with
          | zero => intro c hg; exact absurd hg (Nat.not_lt_zero _)
          | succ g ih114_q =>
            intro c hg hc
            refine ziload_n (k := 71) rfl rfl ?_
            refine zbipush (k := 72) rfl rfl ?_
            refine zicmp_ge (k := 73) rfl rfl (fun c6_q => ?_) (fun c6_q => ?_)
            · skip
              refine ziincB (k := 86) (ls' := [_, _, _]) rfl rfl (by decide) (by omega) rfl ?_
              refine zgoto (k := 87) rfl rfl ?_
              refine zforget (ls' := [_, _, _]) 2 rfl ?_
              have rr := ih106_q (a + 1) (by omega) (by omega)
              rw [show (7 : Int) * ((a + 1 : Nat) : Int) = 7 * (a : Int) + (c : Int) by omega] at rr
              exact rr
            · skip
              refine zaload_n (k := 74) rfl rfl ?_
              refine zgF 19 (k := 75) rfl ob_289 fl_12_69 rfl fx_289_19 ?_
              refine zaload_n (k := 76) rfl rfl ?_
              refine zaload_n (k := 77) rfl rfl ?_
              refine zgI 32 (k := 78) rfl ob_289 fl_12_109 rfl fx_289_32 ?_
              rw [rz_n (by omega), zup_n (by omega), zup_n (by omega), zup_n (by omega), zup_n (by omega), zup_n (by omega), zup_n (by omega), zup_s]
              refine ziload_n (k := 79) rfl rfl ?_
              refine ziload_n (k := 80) rfl rfl ?_
              refine zfV1 (k := 81) rfl (c_M_at (by omega) (by omega) (by omega)) fm_M_at lk_12_379 rfl rfl ob_289 ⟨_, rfl, rfl⟩ (Nat.le_of_ble_eq_true rfl) (by decide) ⟨by decide, by decide⟩ ?_
              refine ziconst (k := 82) rfl (by decide) ?_
              refine ziastore (k := 83) rfl ar_296 ⟨by omega, by omega⟩ (by omega) ?_
              rw [rz_s (by omega) (by omega)]
              refine ziincB (k := 84) (ls' := [_, _, _]) rfl rfl (by decide) (by omega) rfl ?_
              refine zgoto (k := 85) rfl rfl ?_
              exact ih114_q (c + 1) (by omega) (by omega)
        have rr := lp114_q _ 0 (Nat.lt_succ_self _) (by omega)
        rw [show (7 : Int) * (a : Int) + ((0 : Nat) : Int) = 7 * (a : Int) by omega] at rr
        exact rr
  rw [rz_0 (zup (zup (zup (zup (zup (zup (zup (zup (zup (zup (zup (zup σ 289 2 n) 289 1 0) 289 5 0) 289 8 0) 289 9 (-1)) 289 32 i) 291 i 0) 295 i 0) 298 i 0) 301 i 2) 302 (2 * i) (-1)) 302 (2 * i + 1) (-1)) i]
  exact lp106_q _ 0 (Nat.lt_succ_self _) (by omega)
