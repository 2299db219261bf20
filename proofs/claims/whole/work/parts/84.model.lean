/-! THE MODEL: its small methods; what it holds of a war (bank b) and of a state (version v) -/
def wayM (x : Int) : Int := if x = 1000000 then 100000000 else x
def dueM (x : Int) : Int := if x = 1000000 then -1 else x
def wv256 (T : Int → Int) (q : Int) : Nat → Int
  | 0 => 0
  | j + 1 => 256 * wv256 T q j + T (q + j)
/-- the same NAME, to the base 27 and to the base 256 -/
def nmR (v u : Int) : Prop := ∃ (U : Int → Int) (j : Nat), (1 ≤ j ∧ j ≤ 6) ∧ (∀ i : Nat, i < j → 97 ≤ U (0 + i) ∧ U (0 + i) ≤ 122) ∧ v = fil27 (wv27 U 0 j) (6 - j) ∧ u = wv256 U 0 j
def okC1 (c : Int × Int) : Prop := (c.1 = 0 ∧ 0 ≤ c.2 ∧ c.2 ≤ 9999) ∨ (1 ≤ c.1 ∧ c.1 ≤ 7) ∨ c.1 = 30 ∨ (31 ≤ c.1 ∧ c.1 ≤ 44)
/-- a formula (g: 0 jumps, 1 likes) of bank b, as steps s, len of them -/
def fmM (σ : zv_H) (b g : Int) (s : Int → Int) (len : Int) : Prop := (len ≤ 0 ∧ σ 302 (2 * b + g) = -1) ∨ (0 < len ∧ ∃ i0 : Int, (0 ≤ i0 ∧ i0 + len ≤ 1600) ∧ σ 302 (2 * b + g) = i0 ∧ σ 303 (2 * b + g) = i0 + len ∧ (∀ i, 0 ≤ i → i < len → okC1 (σ 304 (1600 * b + i0 + i), σ 305 (1600 * b + i0 + i)) ∧ enS (σ 304 (1600 * b + i0 + i), σ 305 (1600 * b + i0 + i)) = s i) ∧ ∀ E : Int → Int, EB E → (∀ j : Nat, (j : Int) < len → okS (s j) (crun E s j)) ∧ (crun E s len.toNat).length = 1)
def wM (σ : zv_H) (b : Int) (Wm : zv_H) : Prop := (σ 291 b = Wm 0 1 ∧ σ 295 b = Wm 0 2 ∧ σ 298 b = Wm 0 3 ∧ σ 301 b = Wm 0 4) ∧
  (∀ c, 0 ≤ c → c < Wm 0 1 → σ 292 (7 * b + c) = Wm 2 c ∧ σ 293 (7 * b + c) = Wm 3 c ∧ σ 294 (7 * b + c) = Wm 4 c ∧ nmR (Wm 1 c) (σ 306 (7 * b + c))) ∧
  (∀ m, 0 ≤ m → m < Wm 0 3 → σ 299 (6 * b + m) = Wm 6 m ∧ σ 300 (6 * b + m) = Wm 7 m ∧ nmR (Wm 5 m) (σ 307 (6 * b + m))) ∧
  (∀ f t, 0 ≤ f → f < Wm 0 1 → 0 ≤ t → t < Wm 0 1 → σ 297 (49 * b + 7 * f + t) = wayM (Wm 12 (f * 7 + t))) ∧ fmM σ b 0 (Wm 9) (Wm 8 1) ∧ fmM σ b 1 (Wm 11) (Wm 10 1)
def rM (σ : zv_H) (nc nm v : Int) (S : zv_H) : Prop := (σ 315 v = S 0 0 ∧ σ 325 v = S 0 12) ∧
  (∀ c, 0 ≤ c → c < nc → σ 316 (7 * v + c) = S 1 c ∧ σ 317 (7 * v + c) = S 2 c ∧ σ 318 (7 * v + c) = S 3 c) ∧
  (∀ m, 0 ≤ m → m < nm → σ 319 (6 * v + m) = S 4 m ∧ σ 320 (6 * v + m) = S 5 m ∧ σ 321 (6 * v + m) = S 6 m ∧ σ 322 (6 * v + m) = S 7 m ∧ σ 323 (6 * v + m) = S 8 m) ∧
  (∀ m c, 0 ≤ m → m < nm → 0 ≤ c → c < nc → σ 324 (42 * v + 7 * m + c) = dueM (S 9 (m * 7 + c))) ∧
  (∀ k, 0 ≤ k → k < S 0 12 → σ 326 (240 * v + 4 * k) = S 10 ((S 0 11 + k) % 60) / 1000 ∧ σ 326 (240 * v + 4 * k + 1) = S 10 ((S 0 11 + k) % 60) / 100 % 10 ∧ σ 326 (240 * v + 4 * k + 2) = S 10 ((S 0 11 + k) % 60) / 10 % 10 ∧ σ 326 (240 * v + 4 * k + 3) = S 10 ((S 0 11 + k) % 60) % 10)
/-- the cells of version v -/
def inV (v x k : Int) : Prop := ((x = 315 ∨ x = 325) ∧ k = v) ∨ (316 ≤ x ∧ x ≤ 318 ∧ 7 * v ≤ k ∧ k < 7 * v + 7) ∨ (319 ≤ x ∧ x ≤ 323 ∧ 6 * v ≤ k ∧ k < 6 * v + 6) ∨ (x = 324 ∧ 42 * v ≤ k ∧ k < 42 * v + 42) ∨ (x = 326 ∧ 240 * v ≤ k ∧ k < 240 * v + 240)
set_option maxHeartbeats 4000000 in
set_option maxRecDepth 20000 in
theorem c_M_is {Γ : zv_M} {L : Int} {σ : zv_H} {x lo hi : Int} : zC Γ m_M_is 0 0 0 (GM L) [zI x, zI lo, zI hi] σ (zFn (some (zI (if lo ≤ x ∧ x ≤ hi then 1 else 0))) (GM L) σ) := by
  refine zC_of (ls0 := [_, _, _]) zm_M_is (by decide) rfl (Nat.le_of_ble_eq_true rfl) ?_
  generalize hQ : (zFn (some (zI (if lo ≤ x ∧ x ≤ hi then 1 else 0))) (GM L) σ) = Q
  refine ziload_n (k := 0) rfl rfl ?_
  refine ziload_n (k := 1) rfl rfl ?_
  refine zicmp_lt (k := 2) rfl rfl (fun c1 => ?_) (fun c1 => ?_)
  · skip
    refine ziconst (k := 8) rfl (by decide) ?_
    refine zzreturn (k := 9) rfl rfl (by first | exact Or.inl rfl | exact Or.inr rfl | omega) rfl ?_
    rw [← hQ]
    exact ⟨by first | (rw [if_pos (by omega)]; done) | (rw [if_neg (by omega)]; done) | (exfalso; omega), rfl, rfl⟩
  · skip
    refine ziload_n (k := 3) rfl rfl ?_
    refine ziload_n (k := 4) rfl rfl ?_
    refine zicmp_gt (k := 5) rfl rfl (fun c2 => ?_) (fun c2 => ?_)
    · skip
      refine ziconst (k := 8) rfl (by decide) ?_
      refine zzreturn (k := 9) rfl rfl (by first | exact Or.inl rfl | exact Or.inr rfl | omega) rfl ?_
      rw [← hQ]
      exact ⟨by first | (rw [if_pos (by omega)]; done) | (rw [if_neg (by omega)]; done) | (exfalso; omega), rfl, rfl⟩
    · skip
      refine ziconst (k := 6) rfl (by decide) ?_
      refine zgoto (k := 7) rfl rfl ?_
      refine zzreturn (k := 9) rfl rfl (by first | exact Or.inl rfl | exact Or.inr rfl | omega) rfl ?_
      rw [← hQ]
      exact ⟨by first | (rw [if_pos (by omega)]; done) | (rw [if_neg (by omega)]; done) | (exfalso; omega), rfl, rfl⟩
set_option maxHeartbeats 4000000 in
set_option maxRecDepth 20000 in
theorem c_M_at {Γ : zv_M} {L : Int} {σ : zv_H} {b f t : Int} (hb1 : b = 0 ∨ b = 1) (hf : 0 ≤ f ∧ f < 7) (ht : 0 ≤ t ∧ t < 7) : zC Γ m_M_at 0 0 0 (GM L) [zR 289, zI b, zI f, zI t] σ (zFn (some (zI (49 * b + 7 * f + t))) (GM L) σ) := by
  refine zC_of (ls0 := [_, _, _, _]) zm_M_at (by decide) rfl (Nat.le_of_ble_eq_true rfl) ?_
  generalize hQ : (zFn (some (zI (49 * b + 7 * f + t))) (GM L) σ) = Q
  refine zbipush (k := 0) rfl rfl ?_
  refine ziload_n (k := 1) rfl rfl ?_
  refine zimulB (k := 2) rfl (by omega) ?_
  refine zbipush (k := 3) rfl rfl ?_
  refine ziload_n (k := 4) rfl rfl ?_
  refine zimulB (k := 5) rfl (by omega) ?_
  refine ziaddB (k := 6) rfl (by omega) ?_
  refine ziload_n (k := 7) rfl rfl ?_
  refine ziaddB (k := 8) rfl (by omega) ?_
  refine zireturn (k := 9) rfl rfl rfl ?_
  rw [← hQ]
  exact ⟨rfl, rfl, rfl⟩
set_option maxHeartbeats 4000000 in
set_option maxRecDepth 20000 in
theorem c_M_wayBy {Γ : zv_M} {L : Int} {σ : zv_H} {b f t : Int} (hb : σ 289 13 = b) (hb1 : b = 0 ∨ b = 1) (hf : 0 ≤ f ∧ f < 7) (ht : 0 ≤ t ∧ t < 7) : zC Γ m_M_wayBy 1 0 0 (GM L) [zR 289, zI f, zI t] σ (zFn (some (zI (σ 297 (49 * b + 7 * f + t)))) (GM L) σ) := by
  refine zC_of (ls0 := [_, _, _]) zm_M_wayBy (by decide) rfl (Nat.le_of_ble_eq_true rfl) ?_
  generalize hQ : (zFn (some (zI (σ 297 (49 * b + 7 * f + t)))) (GM L) σ) = Q
  refine zaload_n (k := 0) rfl rfl ?_
  refine zgF 20 (k := 1) rfl ob_289 fl_12_72 rfl fx_289_20 ?_
  refine zaload_n (k := 2) rfl rfl ?_
  refine zaload_n (k := 3) rfl rfl ?_
  refine zgI 13 (k := 4) rfl ob_289 fl_12_51 rfl fx_289_13 ?_
  rw [hb]
  refine ziload_n (k := 5) rfl rfl ?_
  refine ziload_n (k := 6) rfl rfl ?_
  refine zfV1 (k := 7) rfl (c_M_at (by omega) (by omega) (by omega)) fm_M_at lk_12_379 rfl rfl ob_289 ⟨_, rfl, rfl⟩ (Nat.le_of_ble_eq_true rfl) (by decide) ⟨by decide, by decide⟩ ?_
  refine ziaload (k := 8) rfl ar_297 ⟨by omega, by omega⟩ ?_
  refine zireturn (k := 9) rfl rfl rfl ?_
  rw [← hQ]
  exact ⟨rfl, rfl, rfl⟩
set_option maxHeartbeats 4000000 in
set_option maxRecDepth 20000 in
theorem c_M_signs {Γ : zv_M} {L : Int} {σ : zv_H} {b m : Int} (hb : σ 289 13 = b) (hb1 : b = 0 ∨ b = 1) (hm : 0 ≤ m ∧ m < 6) : zC Γ m_M_signs 0 0 0 (GM L) [zR 289, zI m] σ (zFn (some (zI (σ 300 (6 * b + m)))) (GM L) σ) := by
  refine zC_of (ls0 := [_, _]) zm_M_signs (by decide) rfl (Nat.le_of_ble_eq_true rfl) ?_
  generalize hQ : (zFn (some (zI (σ 300 (6 * b + m)))) (GM L) σ) = Q
  refine zaload_n (k := 0) rfl rfl ?_
  refine zgF 23 (k := 1) rfl ob_289 fl_12_81 rfl fx_289_23 ?_
  refine zbipush (k := 2) rfl rfl ?_
  refine zaload_n (k := 3) rfl rfl ?_
  refine zgI 13 (k := 4) rfl ob_289 fl_12_51 rfl fx_289_13 ?_
  rw [hb]
  refine zimulB (k := 5) rfl (by omega) ?_
  refine ziload_n (k := 6) rfl rfl ?_
  refine ziaddB (k := 7) rfl (by omega) ?_
  refine ziaload (k := 8) rfl ar_300 ⟨by omega, by omega⟩ ?_
  refine zireturn (k := 9) rfl rfl rfl ?_
  rw [← hQ]
  exact ⟨rfl, rfl, rfl⟩
set_option maxHeartbeats 4000000 in
set_option maxRecDepth 20000 in
theorem c_M_isTold {Γ : zv_M} {L : Int} {σ : zv_H} {b g : Int} (hb : σ 289 13 = b) (hb1 : b = 0 ∨ b = 1) (hg : g = 0 ∨ g = 1) : zC Γ m_M_isTold 0 0 0 (GM L) [zR 289, zI g] σ (zFn (some (zI (if σ 302 (2 * b + g) = -1 then 0 else 1))) (GM L) σ) := by
  refine zC_of (ls0 := [_, _]) zm_M_isTold (by decide) rfl (Nat.le_of_ble_eq_true rfl) ?_
  generalize hQ : (zFn (some (zI (if σ 302 (2 * b + g) = -1 then 0 else 1))) (GM L) σ) = Q
  refine zaload_n (k := 0) rfl rfl ?_
  refine zgF 25 (k := 1) rfl ob_289 fl_12_87 rfl fx_289_25 ?_
  refine ziconst (k := 2) rfl (by decide) ?_
  refine zaload_n (k := 3) rfl rfl ?_
  refine zgI 13 (k := 4) rfl ob_289 fl_12_51 rfl fx_289_13 ?_
  rw [hb]
  refine zimulB (k := 5) rfl (by omega) ?_
  refine ziload_n (k := 6) rfl rfl ?_
  refine ziaddB (k := 7) rfl (by omega) ?_
  refine ziaload (k := 8) rfl ar_302 ⟨by omega, by omega⟩ ?_
  refine ziconst (k := 9) rfl (by decide) ?_
  refine zicmp_eq (k := 10) rfl rfl (fun c1 => ?_) (fun c1 => ?_)
  · skip
    refine ziconst (k := 13) rfl (by decide) ?_
    refine zzreturn (k := 14) rfl rfl (by first | exact Or.inl rfl | exact Or.inr rfl | omega) rfl ?_
    rw [← hQ]
    exact ⟨by first | (rw [if_pos (by omega)]; done) | (rw [if_neg (by omega)]; done) | (exfalso; omega), rfl, rfl⟩
  · skip
    refine ziconst (k := 11) rfl (by decide) ?_
    refine zgoto (k := 12) rfl rfl ?_
    refine zzreturn (k := 14) rfl rfl (by first | exact Or.inl rfl | exact Or.inr rfl | omega) rfl ?_
    rw [← hQ]
    exact ⟨by first | (rw [if_pos (by omega)]; done) | (rw [if_neg (by omega)]; done) | (exfalso; omega), rfl, rfl⟩
set_option maxHeartbeats 4000000 in
set_option maxRecDepth 20000 in
theorem c_M_due {Γ : zv_M} {L : Int} {σ : zv_H} {v m c : Int} (hv : 0 ≤ v ∧ v < 22) (hm : 0 ≤ m ∧ m < 6) (hc : 0 ≤ c ∧ c < 7) : zC Γ m_M_due 0 0 0 (GM L) [zR 289, zI v, zI m, zI c] σ (zFn (some (zI (σ 324 (42 * v + 7 * m + c)))) (GM L) σ) := by
  refine zC_of (ls0 := [_, _, _, _]) zm_M_due (by decide) rfl (Nat.le_of_ble_eq_true rfl) ?_
  generalize hQ : (zFn (some (zI (σ 324 (42 * v + 7 * m + c)))) (GM L) σ) = Q
  refine zaload_n (k := 0) rfl rfl ?_
  refine zgF 54 (k := 1) rfl ob_289 fl_12_177 rfl fx_289_54 ?_
  refine zbipush (k := 2) rfl rfl ?_
  refine ziload_n (k := 3) rfl rfl ?_
  refine zimulB (k := 4) rfl (by omega) ?_
  refine zbipush (k := 5) rfl rfl ?_
  refine ziload_n (k := 6) rfl rfl ?_
  refine zimulB (k := 7) rfl (by omega) ?_
  refine ziaddB (k := 8) rfl (by omega) ?_
  refine ziload_n (k := 9) rfl rfl ?_
  refine ziaddB (k := 10) rfl (by omega) ?_
  refine ziaload (k := 11) rfl ar_324 ⟨by omega, by omega⟩ ?_
  refine zireturn (k := 12) rfl rfl rfl ?_
  rw [← hQ]
  exact ⟨rfl, rfl, rfl⟩
set_option maxHeartbeats 4000000 in
set_option maxRecDepth 20000 in
theorem c_M_isCounty {Γ : zv_M} {L : Int} {σ : zv_H} {b c : Int} (hb : σ 289 13 = b) (hb1 : b = 0 ∨ b = 1) : zC Γ m_M_isCounty 0 0 0 (GM L) [zR 289, zI c] σ (zFn (some (zI (if 0 ≤ c ∧ c < σ 291 b then 1 else 0))) (GM L) σ) := by
  refine zC_of (ls0 := [_, _]) zm_M_isCounty (by decide) rfl (Nat.le_of_ble_eq_true rfl) ?_
  generalize hQ : (zFn (some (zI (if 0 ≤ c ∧ c < σ 291 b then 1 else 0))) (GM L) σ) = Q
  refine ziload_n (k := 0) rfl rfl ?_
  refine zif_lt (k := 1) rfl rfl (fun c1 => ?_) (fun c1 => ?_)
  · skip
    refine ziconst (k := 11) rfl (by decide) ?_
    refine zzreturn (k := 12) rfl rfl (by first | exact Or.inl rfl | exact Or.inr rfl | omega) rfl ?_
    rw [← hQ]
    exact ⟨by first | (rw [if_pos (by omega)]; done) | (rw [if_neg (by omega)]; done) | (exfalso; omega), rfl, rfl⟩
  · skip
    refine ziload_n (k := 2) rfl rfl ?_
    refine zaload_n (k := 3) rfl rfl ?_
    refine zgF 14 (k := 4) rfl ob_289 fl_12_54 rfl fx_289_14 ?_
    refine zaload_n (k := 5) rfl rfl ?_
    refine zgI 13 (k := 6) rfl ob_289 fl_12_51 rfl fx_289_13 ?_
    rw [hb]
    refine ziaload (k := 7) rfl ar_291 ⟨by omega, by omega⟩ ?_
    refine zicmp_ge (k := 8) rfl rfl (fun c2 => ?_) (fun c2 => ?_)
    · skip
      refine ziconst (k := 11) rfl (by decide) ?_
      refine zzreturn (k := 12) rfl rfl (by first | exact Or.inl rfl | exact Or.inr rfl | omega) rfl ?_
      rw [← hQ]
      exact ⟨by first | (rw [if_pos (by omega)]; done) | (rw [if_neg (by omega)]; done) | (exfalso; omega), rfl, rfl⟩
    · skip
      refine ziconst (k := 9) rfl (by decide) ?_
      refine zgoto (k := 10) rfl rfl ?_
      refine zzreturn (k := 12) rfl rfl (by first | exact Or.inl rfl | exact Or.inr rfl | omega) rfl ?_
      rw [← hQ]
      exact ⟨by first | (rw [if_pos (by omega)]; done) | (rw [if_neg (by omega)]; done) | (exfalso; omega), rfl, rfl⟩
set_option maxHeartbeats 4000000 in
set_option maxRecDepth 20000 in
theorem c_M_isMan {Γ : zv_M} {L : Int} {σ : zv_H} {b c : Int} (hb : σ 289 13 = b) (hb1 : b = 0 ∨ b = 1) : zC Γ m_M_isMan 0 0 0 (GM L) [zR 289, zI c] σ (zFn (some (zI (if 0 ≤ c ∧ c < σ 298 b then 1 else 0))) (GM L) σ) := by
  refine zC_of (ls0 := [_, _]) zm_M_isMan (by decide) rfl (Nat.le_of_ble_eq_true rfl) ?_
  generalize hQ : (zFn (some (zI (if 0 ≤ c ∧ c < σ 298 b then 1 else 0))) (GM L) σ) = Q
  refine ziload_n (k := 0) rfl rfl ?_
  refine zif_lt (k := 1) rfl rfl (fun c1 => ?_) (fun c1 => ?_)
  · skip
    refine ziconst (k := 11) rfl (by decide) ?_
    refine zzreturn (k := 12) rfl rfl (by first | exact Or.inl rfl | exact Or.inr rfl | omega) rfl ?_
    rw [← hQ]
    exact ⟨by first | (rw [if_pos (by omega)]; done) | (rw [if_neg (by omega)]; done) | (exfalso; omega), rfl, rfl⟩
  · skip
    refine ziload_n (k := 2) rfl rfl ?_
    refine zaload_n (k := 3) rfl rfl ?_
    refine zgF 21 (k := 4) rfl ob_289 fl_12_75 rfl fx_289_21 ?_
    refine zaload_n (k := 5) rfl rfl ?_
    refine zgI 13 (k := 6) rfl ob_289 fl_12_51 rfl fx_289_13 ?_
    rw [hb]
    refine ziaload (k := 7) rfl ar_298 ⟨by omega, by omega⟩ ?_
    refine zicmp_ge (k := 8) rfl rfl (fun c2 => ?_) (fun c2 => ?_)
    · skip
      refine ziconst (k := 11) rfl (by decide) ?_
      refine zzreturn (k := 12) rfl rfl (by first | exact Or.inl rfl | exact Or.inr rfl | omega) rfl ?_
      rw [← hQ]
      exact ⟨by first | (rw [if_pos (by omega)]; done) | (rw [if_neg (by omega)]; done) | (exfalso; omega), rfl, rfl⟩
    · skip
      refine ziconst (k := 9) rfl (by decide) ?_
      refine zgoto (k := 10) rfl rfl ?_
      refine zzreturn (k := 12) rfl rfl (by first | exact Or.inl rfl | exact Or.inr rfl | omega) rfl ?_
      rw [← hQ]
      exact ⟨by first | (rw [if_pos (by omega)]; done) | (rw [if_neg (by omega)]; done) | (exfalso; omega), rfl, rfl⟩
set_option maxHeartbeats 4000000 in
set_option maxRecDepth 20000 in
theorem c_M_held {Γ : zv_M} {L : Int} {σ : zv_H} {x : Int} : zC Γ m_M_held 0 0 0 (GM L) [zL x] σ (zFn (some (zL (max (-1000000) (min 1000000 x)))) (GM L) σ) := by
  refine zC_of (ls0 := [_, _]) zm_M_held (by decide) rfl (Nat.le_of_ble_eq_true rfl) ?_
  generalize hQ : (zFn (some (zL (max (-1000000) (min 1000000 x)))) (GM L) σ) = Q
  refine zlload_n (k := 0) rfl rfl ?_
  refine zldc2 (k := 1) (z := 1000000) rfl kc_12_423 rfl ?_
  refine zlcmp (k := 2) rfl ?_
  refine zif_le (k := 3) rfl rfl (fun c1 => ?_) (fun c1 => ?_)
  · skip
    refine zlload_n (k := 6) rfl rfl ?_
    refine zldc2 (k := 7) (z := -1000000) rfl kc_12_425 rfl ?_
    refine zlcmp (k := 8) rfl ?_
    refine zif_ge (k := 9) rfl rfl (fun c2 => ?_) (fun c2 => ?_)
    · skip
      refine zlload_n (k := 12) rfl rfl ?_
      refine zlreturn (k := 13) rfl rfl rfl ?_
      rw [← hQ]
      simp only [zcc4, zcc5, zcc1, zcc3] at *
      exact ⟨by first | (rw [show max (-1000000) (min 1000000 x) = 1000000 by omega]; done) | (rw [show max (-1000000) (min 1000000 x) = -1000000 by omega]; done) | (rw [show max (-1000000) (min 1000000 x) = x by omega]; done), rfl, rfl⟩
    · skip
      refine zldc2 (k := 10) (z := -1000000) rfl kc_12_425 rfl ?_
      refine zgoto (k := 11) rfl rfl ?_
      refine zlreturn (k := 13) rfl rfl rfl ?_
      rw [← hQ]
      simp only [zcc4, zcc5, zcc1, zcc3] at *
      exact ⟨by first | (rw [show max (-1000000) (min 1000000 x) = 1000000 by omega]; done) | (rw [show max (-1000000) (min 1000000 x) = -1000000 by omega]; done) | (rw [show max (-1000000) (min 1000000 x) = x by omega]; done), rfl, rfl⟩
  · skip
    refine zldc2 (k := 4) (z := 1000000) rfl kc_12_423 rfl ?_
    refine zgoto (k := 5) rfl rfl ?_
    refine zlreturn (k := 13) rfl rfl rfl ?_
    rw [← hQ]
    simp only [zcc4, zcc5, zcc1, zcc3] at *
    exact ⟨by first | (rw [show max (-1000000) (min 1000000 x) = 1000000 by omega]; done) | (rw [show max (-1000000) (min 1000000 x) = -1000000 by omega]; done) | (rw [show max (-1000000) (min 1000000 x) = x by omega]; done), rfl, rfl⟩
