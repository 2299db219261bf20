/-! Reckoner: SUMS and TESTS as steps, over a list of values -/
def jn (s x y : Int) : Int := if s = -10 then x + y else if s = -11 then x - y else if s = -12 then x * y else if s = -13 then (if y = 0 then 0 else x.fdiv y) else if s = -14 then (if y = 0 then 0 else x.fmod y) else if s = -15 then min x y else if s = -16 then max x y else if s = -17 then (if x < y then 1 else 0) else if s = -18 then (if y < x then 1 else 0) else if s = -19 then (if x = y then 1 else 0) else if s = -20 then zandL x y else zorL x y
def evs (E : Int → Int) (s : Int) (st : List Int) : List Int :=
  if 0 ≤ s then s :: st else if -7 ≤ s then E s :: st
  else if s = -8 then (match st with
    | v :: r => (1 - v) :: r
    | [] => [])
  else if s = -9 then (match st with
    | w :: t :: v :: r => (if v ≠ 0 then t else w) :: r
    | r => r)
  else (match st with
    | y :: x :: r => max (-1000000) (min 1000000 (jn s x y)) :: r
    | r => r)
def crun (E s : Int → Int) : Nat → List Int
  | 0 => []
  | j + 1 => evs E (s j) (crun E s j)
theorem crun_s (E s : Int → Int) (j : Nat) : crun E s (j + 1) = evs E (s j) (crun E s j) := rfl
/-- how many values a step takes -/
def ned (s : Int) : Nat := if -7 ≤ s then 0 else if s = -8 then 1 else if s = -9 then 3 else 2
def gst (st : List Int) : Prop := ∀ v ∈ st, -1000000 ≤ v ∧ v ≤ 1000000
def crok (E s : Int → Int) (n : Nat) : Prop := (∀ j : Nat, j < n → ned (s j) ≤ (crun E s j).length ∧ s j ≤ 9999 ∧ -21 ≤ s j) ∧ (∀ j : Nat, j ≤ n → (crun E s j).length ≤ 64 ∧ gst (crun E s j)) ∧ 1 ≤ (crun E s n).length
/-- the values lie in row a, the lowest first -/
def srr (σ : zv_H) (a : Int) : List Int → Prop
  | [] => True
  | v :: r => σ a r.length = v ∧ srr σ a r
theorem srr_up {σ : zv_H} {a k v : Int} : ∀ {r : List Int}, (r.length : Int) ≤ k → srr σ a r → srr (zup σ a k v) a r
  | [], _, _ => trivial
  | w :: r, h, hs => by
    have h' : ((r.length : Nat) : Int) + 1 ≤ k := by simpa using h
    exact ⟨by rw [zup_n (by omega)]; exact hs.1, srr_up (by omega) hs.2⟩
theorem srr_of {σ σ' : zv_H} {a : Int} (h : ∀ k, σ' a k = σ a k) : ∀ {r : List Int}, srr σ a r → srr σ' a r
  | [], _ => trivial
  | w :: r, hs => ⟨by rw [h]; exact hs.1, srr_of h hs.2⟩
theorem zxorL_neg {x y : Int} (hx : -9223372036854775808 ≤ x ∧ x ≤ 9223372036854775807) (hy : -9223372036854775808 ≤ y ∧ y ≤ 9223372036854775807) : zxorL x y < 0 ↔ (x < 0 ∧ 0 ≤ y) ∨ (0 ≤ x ∧ y < 0) := by
  have key : ∀ w : Int64, w.toInt < 0 ↔ w.toBitVec.msb = true := by
    intro w
    show w.toBitVec.toInt < 0 ↔ _
    rw [BitVec.msb_eq_toInt]
    simp
  unfold zxorL
  have ex : (Int64.ofInt x).toInt = x := by rw [Int64.toInt_ofInt, w64_b]; exact w64_id hx.1 hx.2
  have ey : (Int64.ofInt y).toInt = y := by rw [Int64.toInt_ofInt, w64_b]; exact w64_id hy.1 hy.2
  have kx := key (Int64.ofInt x)
  have ky := key (Int64.ofInt y)
  rw [ex] at kx
  rw [ey] at ky
  rw [key, Int64.toBitVec_xor, BitVec.msb_xor]
  by_cases h1 : x < 0 <;> by_cases h2 : y < 0
  · rw [kx.mp h1, ky.mp h2]; simp; omega
  · rw [kx.mp h1, Bool.eq_false_iff.mpr (fun q => h2 (ky.mpr q))]; simp; omega
  · rw [ky.mp h2, Bool.eq_false_iff.mpr (fun q => h1 (kx.mpr q))]; simp; omega
  · rw [Bool.eq_false_iff.mpr (fun q => h1 (kx.mpr q)), Bool.eq_false_iff.mpr (fun q => h2 (ky.mpr q))]; simp; omega
theorem tdiv_b {x q : Int} (h0 : q ≠ 0) (hx : -1000000 ≤ x ∧ x ≤ 1000000) : -1000000 ≤ x.tdiv q ∧ x.tdiv q ≤ 1000000 := by
  have h := Int.natAbs_tdiv x q
  have h2 : (x.tdiv q).natAbs ≤ x.natAbs := by rw [h]; exact Nat.div_le_self _ _
  omega
theorem tdivm_b {x q : Int} (hx : -1000000 ≤ x ∧ x ≤ 1000000) : -1000000 ≤ x.tdiv q * q ∧ x.tdiv q * q ≤ 1000000 := by
  have h := Int.natAbs_tdiv x q
  have h3 : (x.tdiv q * q).natAbs ≤ x.natAbs := by rw [Int.natAbs_mul, h]; exact Nat.div_mul_le_self _ _
  omega
theorem tmod_b {x q : Int} (hx : -1000000 ≤ x ∧ x ≤ 1000000) : -1000000 ≤ x.tmod q ∧ x.tmod q ≤ 1000000 := by
  have h := Int.natAbs_tmod x q
  have h2 : (x.tmod q).natAbs ≤ x.natAbs := by rw [h]; exact Nat.mod_le _ _
  omega
theorem fdiv_t {x y : Int} (hy : y ≠ 0) : x.fdiv y = if ((x < 0 ∧ 0 ≤ y) ∨ (0 ≤ x ∧ y < 0)) ∧ x.tdiv y * y ≠ x then x.tdiv y - 1 else x.tdiv y := by
  rw [Int.fdiv_eq_tdiv]
  by_cases hd : y ∣ x
  · rw [if_pos hd, if_neg (fun q => q.2 (Int.tdiv_mul_cancel hd)), Int.sub_zero]
  · have hn : x.tdiv y * y ≠ x := fun q => hd ⟨x.tdiv y, by rw [Int.mul_comm]; exact q.symm⟩
    rw [if_neg hd]
    by_cases hx : 0 ≤ x <;> by_cases hy2 : 0 ≤ y
    · rw [if_pos hx, if_pos hy2, if_neg (fun q => by have := q.1; omega), Int.sub_zero]
    · rw [if_pos hx, if_neg hy2, if_pos ⟨by omega, hn⟩]
    · rw [if_neg hx, if_pos hy2, if_pos ⟨by omega, hn⟩, Int.sign_eq_one_of_pos (by omega)]
    · rw [if_neg hx, if_neg hy2, if_neg (fun q => by have := q.1; omega), Int.sign_eq_neg_one_of_neg (by omega)]
      omega
theorem fmod_t {x y : Int} (hy : y ≠ 0) : x.fmod y = if ((x < 0 ∧ 0 ≤ y) ∨ (0 ≤ x ∧ y < 0)) ∧ x.tmod y ≠ 0 then x.tmod y + y else x.tmod y := by
  rw [Int.fmod_eq_tmod]
  by_cases hd : y ∣ x
  · rw [if_pos hd, if_neg (fun q => q.2 (Int.tmod_eq_zero_of_dvd hd)), Int.add_zero]
  · have hn : x.tmod y ≠ 0 := fun q => hd (Int.dvd_of_tmod_eq_zero q)
    rw [if_neg hd]
    by_cases hx : 0 ≤ x <;> by_cases hy2 : 0 ≤ y
    · rw [if_pos hx, if_pos hy2, if_neg (fun q => by have := q.1; omega), Int.add_zero]
    · rw [if_pos hx, if_neg hy2, if_pos ⟨by omega, hn⟩]
    · rw [if_neg hx, if_pos hy2, if_pos ⟨by omega, hn⟩]
      omega
    · rw [if_neg hx, if_neg hy2, if_neg (fun q => by have := q.1; omega)]
      omega
set_option maxHeartbeats 4000000 in
set_option maxRecDepth 20000 in
theorem c_Reckoner_push {Γ : zv_M} {L : Int} {v : Int} {σ : zv_H} (h : 0 ≤ σ 56 1 ∧ σ 56 1 < 64) : zC Γ m_Reckoner_push 0 0 0 (GM L) [zR 56, zL v] σ (zFn none (GM L) (zup (zup σ 57 (σ 56 1) v) 56 1 (σ 56 1 + 1))) := by
  refine zC_of (ls0 := [_, _, _]) zm_Reckoner_push (by decide) rfl (Nat.le_of_ble_eq_true rfl) ?_
  generalize hQ : (zFn none (GM L) (zup (zup σ 57 (σ 56 1) v) 56 1 (σ 56 1 + 1))) = Q
  refine zaload_n (k := 0) rfl rfl ?_
  refine zgI 1 (k := 1) rfl ob_56 fl_5_15 rfl fx_56_1 ?_
  refine zif_lt (k := 2) rfl rfl (fun c1 => ?_) (fun c1 => ?_)
  · skip
    refine zreturn (k := 21) rfl rfl rfl ?_
    rw [← hQ]
    first | exact ⟨rfl, rfl, rfl⟩ | (exfalso; omega)
  · skip
    refine zaload_n (k := 3) rfl rfl ?_
    refine zgI 1 (k := 4) rfl ob_56 fl_5_15 rfl fx_56_1 ?_
    refine zaload_n (k := 5) rfl rfl ?_
    refine zgF 0 (k := 6) rfl ob_56 fl_5_9 rfl fx_56_0 ?_
    refine zarraylength (k := 7) rfl (ar_57).1 ?_
    refine zicmp_ge (k := 8) rfl rfl (fun c2 => ?_) (fun c2 => ?_)
    · skip
      refine zreturn (k := 21) rfl rfl rfl ?_
      rw [← hQ]
      first | exact ⟨rfl, rfl, rfl⟩ | (exfalso; omega)
    · skip
      refine zaload_n (k := 9) rfl rfl ?_
      refine zgF 0 (k := 10) rfl ob_56 fl_5_9 rfl fx_56_0 ?_
      refine zaload_n (k := 11) rfl rfl ?_
      refine zgI 1 (k := 12) rfl ob_56 fl_5_15 rfl fx_56_1 ?_
      refine zlload_n (k := 13) rfl rfl ?_
      refine zlastore (k := 14) rfl ar_57 ⟨by omega, by omega⟩ (by omega) ?_
      refine zaload_n (k := 15) rfl rfl ?_
      refine zdup (k := 16) rfl rfl ?_
      refine zgI 1 (k := 17) rfl ob_56 fl_5_15 rfl fx_56_1 ?_
      refine ziconst (k := 18) rfl (by decide) ?_
      rw [zup_n (by omega)]
      refine ziaddB (k := 19) rfl (by omega) ?_
      refine zpI 1 (k := 20) rfl ob_56 fl_5_15 ⟨_, rfl, rfl⟩ rfl (by omega) rfl fx_56_1 ?_
      refine zreturn (k := 21) rfl rfl rfl ?_
      rw [← hQ]
      first | exact ⟨rfl, rfl, rfl⟩ | (exfalso; omega)
set_option maxHeartbeats 4000000 in
set_option maxRecDepth 20000 in
theorem c_Reckoner_pop {Γ : zv_M} {L : Int} {σ : zv_H} (h : 1 ≤ σ 56 1 ∧ σ 56 1 ≤ 64) : zC Γ m_Reckoner_pop 0 0 0 (GM L) [zR 56] σ (zFn (some (zL (σ 57 (σ 56 1 - 1)))) (GM L) (zup σ 56 1 (σ 56 1 - 1))) := by
  refine zC_of (ls0 := [_]) zm_Reckoner_pop (by decide) rfl (Nat.le_of_ble_eq_true rfl) ?_
  generalize hQ : (zFn (some (zL (σ 57 (σ 56 1 - 1)))) (GM L) (zup σ 56 1 (σ 56 1 - 1))) = Q
  refine zaload_n (k := 0) rfl rfl ?_
  refine zgI 1 (k := 1) rfl ob_56 fl_5_15 rfl fx_56_1 ?_
  refine zif_le (k := 2) rfl rfl (fun c1 => ?_) (fun c1 => ?_)
  · skip
    refine zlconst (k := 9) (z := 0) rfl rfl ?_
    refine zlreturn (k := 10) rfl rfl rfl ?_
    rw [← hQ]
    first | exact ⟨by rw [zup_n (by omega)], rfl, rfl⟩ | (exfalso; omega)
  · skip
    refine zaload_n (k := 3) rfl rfl ?_
    refine zgI 1 (k := 4) rfl ob_56 fl_5_15 rfl fx_56_1 ?_
    refine zaload_n (k := 5) rfl rfl ?_
    refine zgF 0 (k := 6) rfl ob_56 fl_5_9 rfl fx_56_0 ?_
    refine zarraylength (k := 7) rfl (ar_57).1 ?_
    refine zicmp_le (k := 8) rfl rfl (fun c2 => ?_) (fun c2 => ?_)
    · skip
      refine zaload_n (k := 11) rfl rfl ?_
      refine zdup (k := 12) rfl rfl ?_
      refine zgI 1 (k := 13) rfl ob_56 fl_5_15 rfl fx_56_1 ?_
      refine ziconst (k := 14) rfl (by decide) ?_
      refine zisubB (k := 15) rfl (by omega) ?_
      refine zpI 1 (k := 16) rfl ob_56 fl_5_15 ⟨_, rfl, rfl⟩ rfl (by omega) rfl fx_56_1 ?_
      refine zaload_n (k := 17) rfl rfl ?_
      refine zgF 0 (k := 18) rfl ob_56 fl_5_9 rfl fx_56_0 ?_
      refine zaload_n (k := 19) rfl rfl ?_
      refine zgI 1 (k := 20) rfl ob_56 fl_5_15 rfl fx_56_1 ?_
      rw [zup_s]
      refine zlaload (k := 21) rfl ar_57 ⟨by omega, by omega⟩ ?_
      refine zlreturn (k := 22) rfl rfl rfl ?_
      rw [← hQ]
      first | exact ⟨by rw [zup_n (by omega)], rfl, rfl⟩ | (exfalso; omega)
    · skip
      refine zlconst (k := 9) (z := 0) rfl rfl ?_
      refine zlreturn (k := 10) rfl rfl rfl ?_
      rw [← hQ]
      first | exact ⟨by rw [zup_n (by omega)], rfl, rfl⟩ | (exfalso; omega)
set_option maxHeartbeats 4000000 in
set_option maxRecDepth 20000 in
theorem c_Reckoner_asked {Γ : zv_M} {L : Int} {s : Int} {σ : zv_H} (h : -7 ≤ s ∧ s ≤ -1) : zC Γ m_Reckoner_asked 0 0 0 (GM L) [zR 56, zI s] σ (zFn (some (zI (σ 56 (1 - s)))) (GM L) σ) := by
  refine zC_of (ls0 := [_, _]) zm_Reckoner_asked (by decide) rfl (Nat.le_of_ble_eq_true rfl) ?_
  generalize hQ : (zFn (some (zI (σ 56 (1 - s)))) (GM L) σ) = Q
  refine ziload_n (k := 0) rfl rfl ?_
  refine ztabC (k := 1) (v := -6) 0 rfl rfl (by decide) rfl rfl (fun c1 => ?_) (fun c1 => ?_)
  · skip
    refine zaload_n (k := 17) rfl rfl ?_
    refine zgI 7 (k := 18) rfl ob_56 fl_5_72 rfl fx_56_7 ?_
    refine zireturn (k := 19) rfl rfl rfl ?_
    rw [← hQ]
    first | (have e : s = -1 := (by omega); subst e; exact ⟨rfl, rfl, rfl⟩) | (have e : s = -2 := (by omega); subst e; exact ⟨rfl, rfl, rfl⟩) | (have e : s = -3 := (by omega); subst e; exact ⟨rfl, rfl, rfl⟩) | (have e : s = -4 := (by omega); subst e; exact ⟨rfl, rfl, rfl⟩) | (have e : s = -5 := (by omega); subst e; exact ⟨rfl, rfl, rfl⟩) | (have e : s = -6 := (by omega); subst e; exact ⟨rfl, rfl, rfl⟩) | (have e : s = -7 := (by omega); subst e; exact ⟨rfl, rfl, rfl⟩)
  refine ztabC (k := 1) (v := -5) 1 rfl rfl (by decide) rfl rfl (fun c2 => ?_) (fun c2 => ?_)
  · skip
    refine zaload_n (k := 14) rfl rfl ?_
    refine zgI 6 (k := 15) rfl ob_56 fl_5_69 rfl fx_56_6 ?_
    refine zireturn (k := 16) rfl rfl rfl ?_
    rw [← hQ]
    first | (have e : s = -1 := (by omega); subst e; exact ⟨rfl, rfl, rfl⟩) | (have e : s = -2 := (by omega); subst e; exact ⟨rfl, rfl, rfl⟩) | (have e : s = -3 := (by omega); subst e; exact ⟨rfl, rfl, rfl⟩) | (have e : s = -4 := (by omega); subst e; exact ⟨rfl, rfl, rfl⟩) | (have e : s = -5 := (by omega); subst e; exact ⟨rfl, rfl, rfl⟩) | (have e : s = -6 := (by omega); subst e; exact ⟨rfl, rfl, rfl⟩) | (have e : s = -7 := (by omega); subst e; exact ⟨rfl, rfl, rfl⟩)
  refine ztabC (k := 1) (v := -4) 2 rfl rfl (by decide) rfl rfl (fun c3 => ?_) (fun c3 => ?_)
  · skip
    refine zaload_n (k := 11) rfl rfl ?_
    refine zgI 5 (k := 12) rfl ob_56 fl_5_66 rfl fx_56_5 ?_
    refine zireturn (k := 13) rfl rfl rfl ?_
    rw [← hQ]
    first | (have e : s = -1 := (by omega); subst e; exact ⟨rfl, rfl, rfl⟩) | (have e : s = -2 := (by omega); subst e; exact ⟨rfl, rfl, rfl⟩) | (have e : s = -3 := (by omega); subst e; exact ⟨rfl, rfl, rfl⟩) | (have e : s = -4 := (by omega); subst e; exact ⟨rfl, rfl, rfl⟩) | (have e : s = -5 := (by omega); subst e; exact ⟨rfl, rfl, rfl⟩) | (have e : s = -6 := (by omega); subst e; exact ⟨rfl, rfl, rfl⟩) | (have e : s = -7 := (by omega); subst e; exact ⟨rfl, rfl, rfl⟩)
  refine ztabC (k := 1) (v := -3) 3 rfl rfl (by decide) rfl rfl (fun c4 => ?_) (fun c4 => ?_)
  · skip
    refine zaload_n (k := 8) rfl rfl ?_
    refine zgI 4 (k := 9) rfl ob_56 fl_5_63 rfl fx_56_4 ?_
    refine zireturn (k := 10) rfl rfl rfl ?_
    rw [← hQ]
    first | (have e : s = -1 := (by omega); subst e; exact ⟨rfl, rfl, rfl⟩) | (have e : s = -2 := (by omega); subst e; exact ⟨rfl, rfl, rfl⟩) | (have e : s = -3 := (by omega); subst e; exact ⟨rfl, rfl, rfl⟩) | (have e : s = -4 := (by omega); subst e; exact ⟨rfl, rfl, rfl⟩) | (have e : s = -5 := (by omega); subst e; exact ⟨rfl, rfl, rfl⟩) | (have e : s = -6 := (by omega); subst e; exact ⟨rfl, rfl, rfl⟩) | (have e : s = -7 := (by omega); subst e; exact ⟨rfl, rfl, rfl⟩)
  refine ztabC (k := 1) (v := -2) 4 rfl rfl (by decide) rfl rfl (fun c5 => ?_) (fun c5 => ?_)
  · skip
    refine zaload_n (k := 5) rfl rfl ?_
    refine zgI 3 (k := 6) rfl ob_56 fl_5_60 rfl fx_56_3 ?_
    refine zireturn (k := 7) rfl rfl rfl ?_
    rw [← hQ]
    first | (have e : s = -1 := (by omega); subst e; exact ⟨rfl, rfl, rfl⟩) | (have e : s = -2 := (by omega); subst e; exact ⟨rfl, rfl, rfl⟩) | (have e : s = -3 := (by omega); subst e; exact ⟨rfl, rfl, rfl⟩) | (have e : s = -4 := (by omega); subst e; exact ⟨rfl, rfl, rfl⟩) | (have e : s = -5 := (by omega); subst e; exact ⟨rfl, rfl, rfl⟩) | (have e : s = -6 := (by omega); subst e; exact ⟨rfl, rfl, rfl⟩) | (have e : s = -7 := (by omega); subst e; exact ⟨rfl, rfl, rfl⟩)
  refine ztabC (k := 1) (v := -1) 5 rfl rfl (by decide) rfl rfl (fun c6 => ?_) (fun c6 => ?_)
  · skip
    refine zaload_n (k := 2) rfl rfl ?_
    refine zgI 2 (k := 3) rfl ob_56 fl_5_57 rfl fx_56_2 ?_
    refine zireturn (k := 4) rfl rfl rfl ?_
    rw [← hQ]
    first | (have e : s = -1 := (by omega); subst e; exact ⟨rfl, rfl, rfl⟩) | (have e : s = -2 := (by omega); subst e; exact ⟨rfl, rfl, rfl⟩) | (have e : s = -3 := (by omega); subst e; exact ⟨rfl, rfl, rfl⟩) | (have e : s = -4 := (by omega); subst e; exact ⟨rfl, rfl, rfl⟩) | (have e : s = -5 := (by omega); subst e; exact ⟨rfl, rfl, rfl⟩) | (have e : s = -6 := (by omega); subst e; exact ⟨rfl, rfl, rfl⟩) | (have e : s = -7 := (by omega); subst e; exact ⟨rfl, rfl, rfl⟩)
  refine ztabOut (k := 1) rfl (by omega) rfl ?_
  refine zaload_n (k := 20) rfl rfl ?_
  refine zgI 8 (k := 21) rfl ob_56 fl_5_75 rfl fx_56_8 ?_
  refine zireturn (k := 22) rfl rfl rfl ?_
  rw [← hQ]
  first | (have e : s = -1 := (by omega); subst e; exact ⟨rfl, rfl, rfl⟩) | (have e : s = -2 := (by omega); subst e; exact ⟨rfl, rfl, rfl⟩) | (have e : s = -3 := (by omega); subst e; exact ⟨rfl, rfl, rfl⟩) | (have e : s = -4 := (by omega); subst e; exact ⟨rfl, rfl, rfl⟩) | (have e : s = -5 := (by omega); subst e; exact ⟨rfl, rfl, rfl⟩) | (have e : s = -6 := (by omega); subst e; exact ⟨rfl, rfl, rfl⟩) | (have e : s = -7 := (by omega); subst e; exact ⟨rfl, rfl, rfl⟩)
set_option maxHeartbeats 4000000 in
set_option maxRecDepth 20000 in
theorem c_J_floorDiv {Γ : zv_M} {L : Int} {x q : Int} {σ : zv_H} (h0 : q ≠ 0) (hx : -1000000 ≤ x ∧ x ≤ 1000000) (hq : -1000000 ≤ q ∧ q ≤ 1000000) : zC Γ m_J_floorDiv 0 0 0 (GM L) [zL x, zL q] σ (zFn (some (zL (x.fdiv q))) (GM L) σ) := by
  refine zC_ofJ (ls0 := [_, _, _, _, _, _]) zm_J_floorDiv (by decide +kernel) rfl (Nat.le_of_ble_eq_true rfl) ?_
  generalize hQ : (zFn (some (zL (x.fdiv q))) (GM L) σ) = Q
  have hxn := @zxorL_neg x q (by omega) (by omega)
  have hd1 := tdiv_b h0 hx
  have hd2 := tdivm_b (q := q) hx
  have hd3 := tmod_b (q := q) hx
  refine zlload_n (k := 0) rfl rfl ?_
  refine zlload_n (k := 1) rfl rfl ?_
  refine zldiv (k := 2) rfl h0 ?_
  rw [w64_id (by omega) (by omega)]
  refine zlstore (k := 3) (ls' := [_, _, _, _, _, _]) rfl (Nat.le_of_ble_eq_true rfl) rfl ?_
  refine zlload_n (k := 4) rfl rfl ?_
  refine zlload_n (k := 5) rfl rfl ?_
  refine zlxor (k := 6) rfl ?_
  refine zlconst (k := 7) (z := 0) rfl rfl ?_
  refine zlcmp (k := 8) rfl ?_
  refine zif_ge (k := 9) rfl rfl (fun c1 => ?_) (fun c1 => ?_)
  · skip
    refine zlload (k := 20) rfl rfl ?_
    refine zlreturn (k := 21) rfl rfl rfl ?_
    rw [← hQ]
    have cc : ∀ p q : Int, (zcmp p q < 0 ↔ p < q) ∧ (zcmp p q = 0 ↔ p = q) ∧ (0 ≤ zcmp p q ↔ q ≤ p) := by intro p q; unfold zcmp; (repeat' split) <;> omega
    simp only [ne_eq, cc] at *
    refine ⟨?_, rfl, rfl⟩
    rw [fdiv_t h0]
    first | (rw [if_pos (by omega)]; done) | (rw [if_neg (by omega)]; done) | (rw [if_neg (fun q => by omega)]; done)
  · skip
    refine zlload (k := 10) rfl rfl ?_
    refine zlload_n (k := 11) rfl rfl ?_
    refine zlmulB (k := 12) rfl (by omega) ?_
    refine zlload_n (k := 13) rfl rfl ?_
    refine zlcmp (k := 14) rfl ?_
    refine zif_eq (k := 15) rfl rfl (fun c2 => ?_) (fun c2 => ?_)
    · skip
      refine zlload (k := 20) rfl rfl ?_
      refine zlreturn (k := 21) rfl rfl rfl ?_
      rw [← hQ]
      have cc : ∀ p q : Int, (zcmp p q < 0 ↔ p < q) ∧ (zcmp p q = 0 ↔ p = q) ∧ (0 ≤ zcmp p q ↔ q ≤ p) := by intro p q; unfold zcmp; (repeat' split) <;> omega
      simp only [ne_eq, cc] at *
      refine ⟨?_, rfl, rfl⟩
      rw [fdiv_t h0]
      first | (rw [if_pos (by omega)]; done) | (rw [if_neg (by omega)]; done) | (rw [if_neg (fun q => by omega)]; done)
    · skip
      refine zlload (k := 16) rfl rfl ?_
      refine zlconst (k := 17) (z := 1) rfl rfl ?_
      refine zlsubB (k := 18) rfl (by omega) ?_
      refine zlreturn (k := 19) rfl rfl rfl ?_
      rw [← hQ]
      have cc : ∀ p q : Int, (zcmp p q < 0 ↔ p < q) ∧ (zcmp p q = 0 ↔ p = q) ∧ (0 ≤ zcmp p q ↔ q ≤ p) := by intro p q; unfold zcmp; (repeat' split) <;> omega
      simp only [ne_eq, cc] at *
      refine ⟨?_, rfl, rfl⟩
      rw [fdiv_t h0]
      first | (rw [if_pos (by omega)]; done) | (rw [if_neg (by omega)]; done) | (rw [if_neg (fun q => by omega)]; done)
set_option maxHeartbeats 4000000 in
set_option maxRecDepth 20000 in
theorem c_J_floorMod {Γ : zv_M} {L : Int} {x q : Int} {σ : zv_H} (h0 : q ≠ 0) (hx : -1000000 ≤ x ∧ x ≤ 1000000) (hq : -1000000 ≤ q ∧ q ≤ 1000000) : zC Γ m_J_floorMod 0 0 0 (GM L) [zL x, zL q] σ (zFn (some (zL (x.fmod q))) (GM L) σ) := by
  refine zC_ofJ (ls0 := [_, _, _, _, _, _]) zm_J_floorMod (by decide +kernel) rfl (Nat.le_of_ble_eq_true rfl) ?_
  generalize hQ : (zFn (some (zL (x.fmod q))) (GM L) σ) = Q
  have hxn := @zxorL_neg x q (by omega) (by omega)
  have hd1 := tdiv_b h0 hx
  have hd2 := tdivm_b (q := q) hx
  have hd3 := tmod_b (q := q) hx
  refine zlload_n (k := 0) rfl rfl ?_
  refine zlload_n (k := 1) rfl rfl ?_
  refine zlrem (k := 2) rfl h0 ?_
  refine zlstore (k := 3) (ls' := [_, _, _, _, _, _]) rfl (Nat.le_of_ble_eq_true rfl) rfl ?_
  refine zlload_n (k := 4) rfl rfl ?_
  refine zlload_n (k := 5) rfl rfl ?_
  refine zlxor (k := 6) rfl ?_
  refine zlconst (k := 7) (z := 0) rfl rfl ?_
  refine zlcmp (k := 8) rfl ?_
  refine zif_ge (k := 9) rfl rfl (fun c1 => ?_) (fun c1 => ?_)
  · skip
    refine zlload (k := 18) rfl rfl ?_
    refine zlreturn (k := 19) rfl rfl rfl ?_
    rw [← hQ]
    have cc : ∀ p q : Int, (zcmp p q < 0 ↔ p < q) ∧ (zcmp p q = 0 ↔ p = q) ∧ (0 ≤ zcmp p q ↔ q ≤ p) := by intro p q; unfold zcmp; (repeat' split) <;> omega
    simp only [ne_eq, cc] at *
    refine ⟨?_, rfl, rfl⟩
    rw [fmod_t h0]
    first | (rw [if_pos (by omega)]; done) | (rw [if_neg (by omega)]; done) | (rw [if_neg (fun q => by omega)]; done)
  · skip
    refine zlload (k := 10) rfl rfl ?_
    refine zlconst (k := 11) (z := 0) rfl rfl ?_
    refine zlcmp (k := 12) rfl ?_
    refine zif_eq (k := 13) rfl rfl (fun c2 => ?_) (fun c2 => ?_)
    · skip
      refine zlload (k := 18) rfl rfl ?_
      refine zlreturn (k := 19) rfl rfl rfl ?_
      rw [← hQ]
      have cc : ∀ p q : Int, (zcmp p q < 0 ↔ p < q) ∧ (zcmp p q = 0 ↔ p = q) ∧ (0 ≤ zcmp p q ↔ q ≤ p) := by intro p q; unfold zcmp; (repeat' split) <;> omega
      simp only [ne_eq, cc] at *
      refine ⟨?_, rfl, rfl⟩
      rw [fmod_t h0]
      first | (rw [if_pos (by omega)]; done) | (rw [if_neg (by omega)]; done) | (rw [if_neg (fun q => by omega)]; done)
    · skip
      refine zlload (k := 14) rfl rfl ?_
      refine zlload_n (k := 15) rfl rfl ?_
      refine zladdB (k := 16) rfl (by omega) ?_
      refine zlreturn (k := 17) rfl rfl rfl ?_
      rw [← hQ]
      have cc : ∀ p q : Int, (zcmp p q < 0 ↔ p < q) ∧ (zcmp p q = 0 ↔ p = q) ∧ (0 ≤ zcmp p q ↔ q ≤ p) := by intro p q; unfold zcmp; (repeat' split) <;> omega
      simp only [ne_eq, cc] at *
      refine ⟨?_, rfl, rfl⟩
      rw [fmod_t h0]
      first | (rw [if_pos (by omega)]; done) | (rw [if_neg (by omega)]; done) | (rw [if_neg (fun q => by omega)]; done)
theorem mul_b6 {x q : Int} (hx : -1000000 ≤ x ∧ x ≤ 1000000) (hq : -1000000 ≤ q ∧ q ≤ 1000000) : -1000000000000 ≤ x * q ∧ x * q ≤ 1000000000000 := by
  have h : (x * q).natAbs ≤ 1000000 * 1000000 := by
    rw [Int.natAbs_mul]
    exact Nat.mul_le_mul (by omega) (by omega)
  omega
theorem zcc1 (p q : Int) : zcmp p q < 0 ↔ p < q := by unfold zcmp; (repeat' split) <;> omega
theorem zcc2 (p q : Int) : zcmp p q = 0 ↔ p = q := by unfold zcmp; (repeat' split) <;> omega
theorem zcc3 (p q : Int) : 0 ≤ zcmp p q ↔ q ≤ p := by unfold zcmp; (repeat' split) <;> omega
theorem zcc4 (p q : Int) : zcmp p q ≤ 0 ↔ p ≤ q := by unfold zcmp; (repeat' split) <;> omega
theorem zcc5 (p q : Int) : 0 < zcmp p q ↔ q < p := by unfold zcmp; (repeat' split) <;> omega
set_option maxHeartbeats 4000000 in
set_option maxRecDepth 20000 in
theorem c_Reckoner_joined {Γ : zv_M} {L : Int} {s x q : Int} {σ : zv_H} (hs : -21 ≤ s ∧ s ≤ -10) (hx : -1000000 ≤ x ∧ x ≤ 1000000) (hq : -1000000 ≤ q ∧ q ≤ 1000000) : zC Γ m_Reckoner_joined 1 0 0 (GM L) [zI s, zL x, zL q] σ (zFn (some (zL (jn s x q))) (GM L) σ) := by
  refine zC_of (ls0 := [_, _, _, _, _]) zm_Reckoner_joined (by decide) rfl (Nat.le_of_ble_eq_true rfl) ?_
  generalize hQ : (zFn (some (zL (jn s x q))) (GM L) σ) = Q
  have hm := mul_b6 hx hq
  refine ziload_n (k := 0) rfl rfl ?_
  refine ztabC (k := 1) (v := -20) 0 rfl rfl (by decide) rfl rfl (fun c1 => ?_) (fun c1 => ?_)
  · skip
    refine zlload_n (k := 66) rfl rfl ?_
    refine zlload_n (k := 67) rfl rfl ?_
    refine zland (k := 68) rfl ?_
    refine zlreturn (k := 69) rfl rfl rfl ?_
    rw [← hQ]
    refine ⟨?_, rfl, rfl⟩
    try simp only [ne_eq, zcc1, zcc2, zcc3, zcc4, zcc5] at *
    unfold jn
    first
    | (have e : s = -20 := (by omega); subst e; rfl)
    | (have e : s = -19 := (by omega); subst e; first | (rw [show q = x by omega]; simp; done) | (simp; omega))
    | (have e : s = -18 := (by omega); subst e; simp; omega)
    | (have e : s = -17 := (by omega); subst e; simp; omega)
    | (have e : s = -16 := (by omega); subst e; rfl)
    | (have e : s = -15 := (by omega); subst e; rfl)
    | (have e : s = -14 := (by omega); subst e; simp; done)
    | (have e : s = -14 := (by omega); subst e; simp; omega)
    | (have e : s = -14 := (by omega); subst e; rw [show q = 0 by omega]; simp; done)
    | (have e : s = -13 := (by omega); subst e; simp; done)
    | (have e : s = -13 := (by omega); subst e; simp; omega)
    | (have e : s = -13 := (by omega); subst e; rw [show q = 0 by omega]; simp; done)
    | (have e : s = -12 := (by omega); subst e; rfl)
    | (have e : s = -11 := (by omega); subst e; rfl)
    | (have e : s = -10 := (by omega); subst e; rfl)
    | (have e : s = -21 := (by omega); subst e; rfl)
  refine ztabC (k := 1) (v := -19) 1 rfl rfl (by decide) rfl rfl (fun c2 => ?_) (fun c2 => ?_)
  · skip
    refine zlload_n (k := 58) rfl rfl ?_
    refine zlload_n (k := 59) rfl rfl ?_
    refine zlcmp (k := 60) rfl ?_
    refine zif_ne (k := 61) rfl rfl (fun c3 => ?_) (fun c3 => ?_)
    · skip
      refine zlconst (k := 64) (z := 0) rfl rfl ?_
      refine zlreturn (k := 65) rfl rfl rfl ?_
      rw [← hQ]
      refine ⟨?_, rfl, rfl⟩
      try simp only [ne_eq, zcc1, zcc2, zcc3, zcc4, zcc5] at *
      unfold jn
      first
      | (have e : s = -20 := (by omega); subst e; rfl)
      | (have e : s = -19 := (by omega); subst e; first | (rw [show q = x by omega]; simp; done) | (simp; omega))
      | (have e : s = -18 := (by omega); subst e; simp; omega)
      | (have e : s = -17 := (by omega); subst e; simp; omega)
      | (have e : s = -16 := (by omega); subst e; rfl)
      | (have e : s = -15 := (by omega); subst e; rfl)
      | (have e : s = -14 := (by omega); subst e; simp; done)
      | (have e : s = -14 := (by omega); subst e; simp; omega)
      | (have e : s = -14 := (by omega); subst e; rw [show q = 0 by omega]; simp; done)
      | (have e : s = -13 := (by omega); subst e; simp; done)
      | (have e : s = -13 := (by omega); subst e; simp; omega)
      | (have e : s = -13 := (by omega); subst e; rw [show q = 0 by omega]; simp; done)
      | (have e : s = -12 := (by omega); subst e; rfl)
      | (have e : s = -11 := (by omega); subst e; rfl)
      | (have e : s = -10 := (by omega); subst e; rfl)
      | (have e : s = -21 := (by omega); subst e; rfl)
    · skip
      refine zlconst (k := 62) (z := 1) rfl rfl ?_
      refine zgoto (k := 63) rfl rfl ?_
      refine zlreturn (k := 65) rfl rfl rfl ?_
      rw [← hQ]
      refine ⟨?_, rfl, rfl⟩
      try simp only [ne_eq, zcc1, zcc2, zcc3, zcc4, zcc5] at *
      unfold jn
      first
      | (have e : s = -20 := (by omega); subst e; rfl)
      | (have e : s = -19 := (by omega); subst e; first | (rw [show q = x by omega]; simp; done) | (simp; omega))
      | (have e : s = -18 := (by omega); subst e; simp; omega)
      | (have e : s = -17 := (by omega); subst e; simp; omega)
      | (have e : s = -16 := (by omega); subst e; rfl)
      | (have e : s = -15 := (by omega); subst e; rfl)
      | (have e : s = -14 := (by omega); subst e; simp; done)
      | (have e : s = -14 := (by omega); subst e; simp; omega)
      | (have e : s = -14 := (by omega); subst e; rw [show q = 0 by omega]; simp; done)
      | (have e : s = -13 := (by omega); subst e; simp; done)
      | (have e : s = -13 := (by omega); subst e; simp; omega)
      | (have e : s = -13 := (by omega); subst e; rw [show q = 0 by omega]; simp; done)
      | (have e : s = -12 := (by omega); subst e; rfl)
      | (have e : s = -11 := (by omega); subst e; rfl)
      | (have e : s = -10 := (by omega); subst e; rfl)
      | (have e : s = -21 := (by omega); subst e; rfl)
  refine ztabC (k := 1) (v := -18) 2 rfl rfl (by decide) rfl rfl (fun c4 => ?_) (fun c4 => ?_)
  · skip
    refine zlload_n (k := 50) rfl rfl ?_
    refine zlload_n (k := 51) rfl rfl ?_
    refine zlcmp (k := 52) rfl ?_
    refine zif_le (k := 53) rfl rfl (fun c5 => ?_) (fun c5 => ?_)
    · skip
      refine zlconst (k := 56) (z := 0) rfl rfl ?_
      refine zlreturn (k := 57) rfl rfl rfl ?_
      rw [← hQ]
      refine ⟨?_, rfl, rfl⟩
      try simp only [ne_eq, zcc1, zcc2, zcc3, zcc4, zcc5] at *
      unfold jn
      first
      | (have e : s = -20 := (by omega); subst e; rfl)
      | (have e : s = -19 := (by omega); subst e; first | (rw [show q = x by omega]; simp; done) | (simp; omega))
      | (have e : s = -18 := (by omega); subst e; simp; omega)
      | (have e : s = -17 := (by omega); subst e; simp; omega)
      | (have e : s = -16 := (by omega); subst e; rfl)
      | (have e : s = -15 := (by omega); subst e; rfl)
      | (have e : s = -14 := (by omega); subst e; simp; done)
      | (have e : s = -14 := (by omega); subst e; simp; omega)
      | (have e : s = -14 := (by omega); subst e; rw [show q = 0 by omega]; simp; done)
      | (have e : s = -13 := (by omega); subst e; simp; done)
      | (have e : s = -13 := (by omega); subst e; simp; omega)
      | (have e : s = -13 := (by omega); subst e; rw [show q = 0 by omega]; simp; done)
      | (have e : s = -12 := (by omega); subst e; rfl)
      | (have e : s = -11 := (by omega); subst e; rfl)
      | (have e : s = -10 := (by omega); subst e; rfl)
      | (have e : s = -21 := (by omega); subst e; rfl)
    · skip
      refine zlconst (k := 54) (z := 1) rfl rfl ?_
      refine zgoto (k := 55) rfl rfl ?_
      refine zlreturn (k := 57) rfl rfl rfl ?_
      rw [← hQ]
      refine ⟨?_, rfl, rfl⟩
      try simp only [ne_eq, zcc1, zcc2, zcc3, zcc4, zcc5] at *
      unfold jn
      first
      | (have e : s = -20 := (by omega); subst e; rfl)
      | (have e : s = -19 := (by omega); subst e; first | (rw [show q = x by omega]; simp; done) | (simp; omega))
      | (have e : s = -18 := (by omega); subst e; simp; omega)
      | (have e : s = -17 := (by omega); subst e; simp; omega)
      | (have e : s = -16 := (by omega); subst e; rfl)
      | (have e : s = -15 := (by omega); subst e; rfl)
      | (have e : s = -14 := (by omega); subst e; simp; done)
      | (have e : s = -14 := (by omega); subst e; simp; omega)
      | (have e : s = -14 := (by omega); subst e; rw [show q = 0 by omega]; simp; done)
      | (have e : s = -13 := (by omega); subst e; simp; done)
      | (have e : s = -13 := (by omega); subst e; simp; omega)
      | (have e : s = -13 := (by omega); subst e; rw [show q = 0 by omega]; simp; done)
      | (have e : s = -12 := (by omega); subst e; rfl)
      | (have e : s = -11 := (by omega); subst e; rfl)
      | (have e : s = -10 := (by omega); subst e; rfl)
      | (have e : s = -21 := (by omega); subst e; rfl)
  refine ztabC (k := 1) (v := -17) 3 rfl rfl (by decide) rfl rfl (fun c6 => ?_) (fun c6 => ?_)
  · skip
    refine zlload_n (k := 42) rfl rfl ?_
    refine zlload_n (k := 43) rfl rfl ?_
    refine zlcmp (k := 44) rfl ?_
    refine zif_ge (k := 45) rfl rfl (fun c7 => ?_) (fun c7 => ?_)
    · skip
      refine zlconst (k := 48) (z := 0) rfl rfl ?_
      refine zlreturn (k := 49) rfl rfl rfl ?_
      rw [← hQ]
      refine ⟨?_, rfl, rfl⟩
      try simp only [ne_eq, zcc1, zcc2, zcc3, zcc4, zcc5] at *
      unfold jn
      first
      | (have e : s = -20 := (by omega); subst e; rfl)
      | (have e : s = -19 := (by omega); subst e; first | (rw [show q = x by omega]; simp; done) | (simp; omega))
      | (have e : s = -18 := (by omega); subst e; simp; omega)
      | (have e : s = -17 := (by omega); subst e; simp; omega)
      | (have e : s = -16 := (by omega); subst e; rfl)
      | (have e : s = -15 := (by omega); subst e; rfl)
      | (have e : s = -14 := (by omega); subst e; simp; done)
      | (have e : s = -14 := (by omega); subst e; simp; omega)
      | (have e : s = -14 := (by omega); subst e; rw [show q = 0 by omega]; simp; done)
      | (have e : s = -13 := (by omega); subst e; simp; done)
      | (have e : s = -13 := (by omega); subst e; simp; omega)
      | (have e : s = -13 := (by omega); subst e; rw [show q = 0 by omega]; simp; done)
      | (have e : s = -12 := (by omega); subst e; rfl)
      | (have e : s = -11 := (by omega); subst e; rfl)
      | (have e : s = -10 := (by omega); subst e; rfl)
      | (have e : s = -21 := (by omega); subst e; rfl)
    · skip
      refine zlconst (k := 46) (z := 1) rfl rfl ?_
      refine zgoto (k := 47) rfl rfl ?_
      refine zlreturn (k := 49) rfl rfl rfl ?_
      rw [← hQ]
      refine ⟨?_, rfl, rfl⟩
      try simp only [ne_eq, zcc1, zcc2, zcc3, zcc4, zcc5] at *
      unfold jn
      first
      | (have e : s = -20 := (by omega); subst e; rfl)
      | (have e : s = -19 := (by omega); subst e; first | (rw [show q = x by omega]; simp; done) | (simp; omega))
      | (have e : s = -18 := (by omega); subst e; simp; omega)
      | (have e : s = -17 := (by omega); subst e; simp; omega)
      | (have e : s = -16 := (by omega); subst e; rfl)
      | (have e : s = -15 := (by omega); subst e; rfl)
      | (have e : s = -14 := (by omega); subst e; simp; done)
      | (have e : s = -14 := (by omega); subst e; simp; omega)
      | (have e : s = -14 := (by omega); subst e; rw [show q = 0 by omega]; simp; done)
      | (have e : s = -13 := (by omega); subst e; simp; done)
      | (have e : s = -13 := (by omega); subst e; simp; omega)
      | (have e : s = -13 := (by omega); subst e; rw [show q = 0 by omega]; simp; done)
      | (have e : s = -12 := (by omega); subst e; rfl)
      | (have e : s = -11 := (by omega); subst e; rfl)
      | (have e : s = -10 := (by omega); subst e; rfl)
      | (have e : s = -21 := (by omega); subst e; rfl)
  refine ztabC (k := 1) (v := -16) 4 rfl rfl (by decide) rfl rfl (fun c8 => ?_) (fun c8 => ?_)
  · skip
    refine zlload_n (k := 38) rfl rfl ?_
    refine zlload_n (k := 39) rfl rfl ?_
    refine zfS1 (k := 40) rfl c_J_maxL fm_J_maxL lk_5_54 rfl rfl (Nat.le_of_ble_eq_true rfl) (by decide) ⟨by decide, by decide⟩ ?_
    refine zlreturn (k := 41) rfl rfl rfl ?_
    rw [← hQ]
    refine ⟨?_, rfl, rfl⟩
    try simp only [ne_eq, zcc1, zcc2, zcc3, zcc4, zcc5] at *
    unfold jn
    first
    | (have e : s = -20 := (by omega); subst e; rfl)
    | (have e : s = -19 := (by omega); subst e; first | (rw [show q = x by omega]; simp; done) | (simp; omega))
    | (have e : s = -18 := (by omega); subst e; simp; omega)
    | (have e : s = -17 := (by omega); subst e; simp; omega)
    | (have e : s = -16 := (by omega); subst e; rfl)
    | (have e : s = -15 := (by omega); subst e; rfl)
    | (have e : s = -14 := (by omega); subst e; simp; done)
    | (have e : s = -14 := (by omega); subst e; simp; omega)
    | (have e : s = -14 := (by omega); subst e; rw [show q = 0 by omega]; simp; done)
    | (have e : s = -13 := (by omega); subst e; simp; done)
    | (have e : s = -13 := (by omega); subst e; simp; omega)
    | (have e : s = -13 := (by omega); subst e; rw [show q = 0 by omega]; simp; done)
    | (have e : s = -12 := (by omega); subst e; rfl)
    | (have e : s = -11 := (by omega); subst e; rfl)
    | (have e : s = -10 := (by omega); subst e; rfl)
    | (have e : s = -21 := (by omega); subst e; rfl)
  refine ztabC (k := 1) (v := -15) 5 rfl rfl (by decide) rfl rfl (fun c9 => ?_) (fun c9 => ?_)
  · skip
    refine zlload_n (k := 34) rfl rfl ?_
    refine zlload_n (k := 35) rfl rfl ?_
    refine zfS1 (k := 36) rfl c_J_minL fm_J_minL lk_5_48 rfl rfl (Nat.le_of_ble_eq_true rfl) (by decide) ⟨by decide, by decide⟩ ?_
    refine zlreturn (k := 37) rfl rfl rfl ?_
    rw [← hQ]
    refine ⟨?_, rfl, rfl⟩
    try simp only [ne_eq, zcc1, zcc2, zcc3, zcc4, zcc5] at *
    unfold jn
    first
    | (have e : s = -20 := (by omega); subst e; rfl)
    | (have e : s = -19 := (by omega); subst e; first | (rw [show q = x by omega]; simp; done) | (simp; omega))
    | (have e : s = -18 := (by omega); subst e; simp; omega)
    | (have e : s = -17 := (by omega); subst e; simp; omega)
    | (have e : s = -16 := (by omega); subst e; rfl)
    | (have e : s = -15 := (by omega); subst e; rfl)
    | (have e : s = -14 := (by omega); subst e; simp; done)
    | (have e : s = -14 := (by omega); subst e; simp; omega)
    | (have e : s = -14 := (by omega); subst e; rw [show q = 0 by omega]; simp; done)
    | (have e : s = -13 := (by omega); subst e; simp; done)
    | (have e : s = -13 := (by omega); subst e; simp; omega)
    | (have e : s = -13 := (by omega); subst e; rw [show q = 0 by omega]; simp; done)
    | (have e : s = -12 := (by omega); subst e; rfl)
    | (have e : s = -11 := (by omega); subst e; rfl)
    | (have e : s = -10 := (by omega); subst e; rfl)
    | (have e : s = -21 := (by omega); subst e; rfl)
  refine ztabC (k := 1) (v := -14) 6 rfl rfl (by decide) rfl rfl (fun c10 => ?_) (fun c10 => ?_)
  · skip
    refine zlload_n (k := 24) rfl rfl ?_
    refine zlconst (k := 25) (z := 0) rfl rfl ?_
    refine zlcmp (k := 26) rfl ?_
    refine zif_ne (k := 27) rfl rfl (fun c11 => ?_) (fun c11 => ?_)
    · skip
      refine zlload_n (k := 30) rfl rfl ?_
      refine zlload_n (k := 31) rfl rfl ?_
      refine zfS1 (k := 32) rfl (c_J_floorMod (by rw [ne_eq, zcc2] at *; assumption) (by omega) (by omega)) fm_J_floorMod lk_5_81 rfl rfl (Nat.le_of_ble_eq_true rfl) (by decide) ⟨by decide, by decide⟩ ?_
      refine zlreturn (k := 33) rfl rfl rfl ?_
      rw [← hQ]
      refine ⟨?_, rfl, rfl⟩
      try simp only [ne_eq, zcc1, zcc2, zcc3, zcc4, zcc5] at *
      unfold jn
      first
      | (have e : s = -20 := (by omega); subst e; rfl)
      | (have e : s = -19 := (by omega); subst e; first | (rw [show q = x by omega]; simp; done) | (simp; omega))
      | (have e : s = -18 := (by omega); subst e; simp; omega)
      | (have e : s = -17 := (by omega); subst e; simp; omega)
      | (have e : s = -16 := (by omega); subst e; rfl)
      | (have e : s = -15 := (by omega); subst e; rfl)
      | (have e : s = -14 := (by omega); subst e; simp; done)
      | (have e : s = -14 := (by omega); subst e; simp; omega)
      | (have e : s = -14 := (by omega); subst e; rw [show q = 0 by omega]; simp; done)
      | (have e : s = -13 := (by omega); subst e; simp; done)
      | (have e : s = -13 := (by omega); subst e; simp; omega)
      | (have e : s = -13 := (by omega); subst e; rw [show q = 0 by omega]; simp; done)
      | (have e : s = -12 := (by omega); subst e; rfl)
      | (have e : s = -11 := (by omega); subst e; rfl)
      | (have e : s = -10 := (by omega); subst e; rfl)
      | (have e : s = -21 := (by omega); subst e; rfl)
    · skip
      refine zlconst (k := 28) (z := 0) rfl rfl ?_
      refine zgoto (k := 29) rfl rfl ?_
      refine zlreturn (k := 33) rfl rfl rfl ?_
      rw [← hQ]
      refine ⟨?_, rfl, rfl⟩
      try simp only [ne_eq, zcc1, zcc2, zcc3, zcc4, zcc5] at *
      unfold jn
      first
      | (have e : s = -20 := (by omega); subst e; rfl)
      | (have e : s = -19 := (by omega); subst e; first | (rw [show q = x by omega]; simp; done) | (simp; omega))
      | (have e : s = -18 := (by omega); subst e; simp; omega)
      | (have e : s = -17 := (by omega); subst e; simp; omega)
      | (have e : s = -16 := (by omega); subst e; rfl)
      | (have e : s = -15 := (by omega); subst e; rfl)
      | (have e : s = -14 := (by omega); subst e; simp; done)
      | (have e : s = -14 := (by omega); subst e; simp; omega)
      | (have e : s = -14 := (by omega); subst e; rw [show q = 0 by omega]; simp; done)
      | (have e : s = -13 := (by omega); subst e; simp; done)
      | (have e : s = -13 := (by omega); subst e; simp; omega)
      | (have e : s = -13 := (by omega); subst e; rw [show q = 0 by omega]; simp; done)
      | (have e : s = -12 := (by omega); subst e; rfl)
      | (have e : s = -11 := (by omega); subst e; rfl)
      | (have e : s = -10 := (by omega); subst e; rfl)
      | (have e : s = -21 := (by omega); subst e; rfl)
  refine ztabC (k := 1) (v := -13) 7 rfl rfl (by decide) rfl rfl (fun c12 => ?_) (fun c12 => ?_)
  · skip
    refine zlload_n (k := 14) rfl rfl ?_
    refine zlconst (k := 15) (z := 0) rfl rfl ?_
    refine zlcmp (k := 16) rfl ?_
    refine zif_ne (k := 17) rfl rfl (fun c13 => ?_) (fun c13 => ?_)
    · skip
      refine zlload_n (k := 20) rfl rfl ?_
      refine zlload_n (k := 21) rfl rfl ?_
      refine zfS1 (k := 22) rfl (c_J_floorDiv (by rw [ne_eq, zcc2] at *; assumption) (by omega) (by omega)) fm_J_floorDiv lk_5_78 rfl rfl (Nat.le_of_ble_eq_true rfl) (by decide) ⟨by decide, by decide⟩ ?_
      refine zlreturn (k := 23) rfl rfl rfl ?_
      rw [← hQ]
      refine ⟨?_, rfl, rfl⟩
      try simp only [ne_eq, zcc1, zcc2, zcc3, zcc4, zcc5] at *
      unfold jn
      first
      | (have e : s = -20 := (by omega); subst e; rfl)
      | (have e : s = -19 := (by omega); subst e; first | (rw [show q = x by omega]; simp; done) | (simp; omega))
      | (have e : s = -18 := (by omega); subst e; simp; omega)
      | (have e : s = -17 := (by omega); subst e; simp; omega)
      | (have e : s = -16 := (by omega); subst e; rfl)
      | (have e : s = -15 := (by omega); subst e; rfl)
      | (have e : s = -14 := (by omega); subst e; simp; done)
      | (have e : s = -14 := (by omega); subst e; simp; omega)
      | (have e : s = -14 := (by omega); subst e; rw [show q = 0 by omega]; simp; done)
      | (have e : s = -13 := (by omega); subst e; simp; done)
      | (have e : s = -13 := (by omega); subst e; simp; omega)
      | (have e : s = -13 := (by omega); subst e; rw [show q = 0 by omega]; simp; done)
      | (have e : s = -12 := (by omega); subst e; rfl)
      | (have e : s = -11 := (by omega); subst e; rfl)
      | (have e : s = -10 := (by omega); subst e; rfl)
      | (have e : s = -21 := (by omega); subst e; rfl)
    · skip
      refine zlconst (k := 18) (z := 0) rfl rfl ?_
      refine zgoto (k := 19) rfl rfl ?_
      refine zlreturn (k := 23) rfl rfl rfl ?_
      rw [← hQ]
      refine ⟨?_, rfl, rfl⟩
      try simp only [ne_eq, zcc1, zcc2, zcc3, zcc4, zcc5] at *
      unfold jn
      first
      | (have e : s = -20 := (by omega); subst e; rfl)
      | (have e : s = -19 := (by omega); subst e; first | (rw [show q = x by omega]; simp; done) | (simp; omega))
      | (have e : s = -18 := (by omega); subst e; simp; omega)
      | (have e : s = -17 := (by omega); subst e; simp; omega)
      | (have e : s = -16 := (by omega); subst e; rfl)
      | (have e : s = -15 := (by omega); subst e; rfl)
      | (have e : s = -14 := (by omega); subst e; simp; done)
      | (have e : s = -14 := (by omega); subst e; simp; omega)
      | (have e : s = -14 := (by omega); subst e; rw [show q = 0 by omega]; simp; done)
      | (have e : s = -13 := (by omega); subst e; simp; done)
      | (have e : s = -13 := (by omega); subst e; simp; omega)
      | (have e : s = -13 := (by omega); subst e; rw [show q = 0 by omega]; simp; done)
      | (have e : s = -12 := (by omega); subst e; rfl)
      | (have e : s = -11 := (by omega); subst e; rfl)
      | (have e : s = -10 := (by omega); subst e; rfl)
      | (have e : s = -21 := (by omega); subst e; rfl)
  refine ztabC (k := 1) (v := -12) 8 rfl rfl (by decide) rfl rfl (fun c14 => ?_) (fun c14 => ?_)
  · skip
    refine zlload_n (k := 10) rfl rfl ?_
    refine zlload_n (k := 11) rfl rfl ?_
    refine zlmulB (k := 12) rfl (by omega) ?_
    refine zlreturn (k := 13) rfl rfl rfl ?_
    rw [← hQ]
    refine ⟨?_, rfl, rfl⟩
    try simp only [ne_eq, zcc1, zcc2, zcc3, zcc4, zcc5] at *
    unfold jn
    first
    | (have e : s = -20 := (by omega); subst e; rfl)
    | (have e : s = -19 := (by omega); subst e; first | (rw [show q = x by omega]; simp; done) | (simp; omega))
    | (have e : s = -18 := (by omega); subst e; simp; omega)
    | (have e : s = -17 := (by omega); subst e; simp; omega)
    | (have e : s = -16 := (by omega); subst e; rfl)
    | (have e : s = -15 := (by omega); subst e; rfl)
    | (have e : s = -14 := (by omega); subst e; simp; done)
    | (have e : s = -14 := (by omega); subst e; simp; omega)
    | (have e : s = -14 := (by omega); subst e; rw [show q = 0 by omega]; simp; done)
    | (have e : s = -13 := (by omega); subst e; simp; done)
    | (have e : s = -13 := (by omega); subst e; simp; omega)
    | (have e : s = -13 := (by omega); subst e; rw [show q = 0 by omega]; simp; done)
    | (have e : s = -12 := (by omega); subst e; rfl)
    | (have e : s = -11 := (by omega); subst e; rfl)
    | (have e : s = -10 := (by omega); subst e; rfl)
    | (have e : s = -21 := (by omega); subst e; rfl)
  refine ztabC (k := 1) (v := -11) 9 rfl rfl (by decide) rfl rfl (fun c15 => ?_) (fun c15 => ?_)
  · skip
    refine zlload_n (k := 6) rfl rfl ?_
    refine zlload_n (k := 7) rfl rfl ?_
    refine zlsubB (k := 8) rfl (by omega) ?_
    refine zlreturn (k := 9) rfl rfl rfl ?_
    rw [← hQ]
    refine ⟨?_, rfl, rfl⟩
    try simp only [ne_eq, zcc1, zcc2, zcc3, zcc4, zcc5] at *
    unfold jn
    first
    | (have e : s = -20 := (by omega); subst e; rfl)
    | (have e : s = -19 := (by omega); subst e; first | (rw [show q = x by omega]; simp; done) | (simp; omega))
    | (have e : s = -18 := (by omega); subst e; simp; omega)
    | (have e : s = -17 := (by omega); subst e; simp; omega)
    | (have e : s = -16 := (by omega); subst e; rfl)
    | (have e : s = -15 := (by omega); subst e; rfl)
    | (have e : s = -14 := (by omega); subst e; simp; done)
    | (have e : s = -14 := (by omega); subst e; simp; omega)
    | (have e : s = -14 := (by omega); subst e; rw [show q = 0 by omega]; simp; done)
    | (have e : s = -13 := (by omega); subst e; simp; done)
    | (have e : s = -13 := (by omega); subst e; simp; omega)
    | (have e : s = -13 := (by omega); subst e; rw [show q = 0 by omega]; simp; done)
    | (have e : s = -12 := (by omega); subst e; rfl)
    | (have e : s = -11 := (by omega); subst e; rfl)
    | (have e : s = -10 := (by omega); subst e; rfl)
    | (have e : s = -21 := (by omega); subst e; rfl)
  refine ztabC (k := 1) (v := -10) 10 rfl rfl (by decide) rfl rfl (fun c16 => ?_) (fun c16 => ?_)
  · skip
    refine zlload_n (k := 2) rfl rfl ?_
    refine zlload_n (k := 3) rfl rfl ?_
    refine zladdB (k := 4) rfl (by omega) ?_
    refine zlreturn (k := 5) rfl rfl rfl ?_
    rw [← hQ]
    refine ⟨?_, rfl, rfl⟩
    try simp only [ne_eq, zcc1, zcc2, zcc3, zcc4, zcc5] at *
    unfold jn
    first
    | (have e : s = -20 := (by omega); subst e; rfl)
    | (have e : s = -19 := (by omega); subst e; first | (rw [show q = x by omega]; simp; done) | (simp; omega))
    | (have e : s = -18 := (by omega); subst e; simp; omega)
    | (have e : s = -17 := (by omega); subst e; simp; omega)
    | (have e : s = -16 := (by omega); subst e; rfl)
    | (have e : s = -15 := (by omega); subst e; rfl)
    | (have e : s = -14 := (by omega); subst e; simp; done)
    | (have e : s = -14 := (by omega); subst e; simp; omega)
    | (have e : s = -14 := (by omega); subst e; rw [show q = 0 by omega]; simp; done)
    | (have e : s = -13 := (by omega); subst e; simp; done)
    | (have e : s = -13 := (by omega); subst e; simp; omega)
    | (have e : s = -13 := (by omega); subst e; rw [show q = 0 by omega]; simp; done)
    | (have e : s = -12 := (by omega); subst e; rfl)
    | (have e : s = -11 := (by omega); subst e; rfl)
    | (have e : s = -10 := (by omega); subst e; rfl)
    | (have e : s = -21 := (by omega); subst e; rfl)
  refine ztabOut (k := 1) rfl (by omega) rfl ?_
  refine zlload_n (k := 70) rfl rfl ?_
  refine zlload_n (k := 71) rfl rfl ?_
  refine zlor (k := 72) rfl ?_
  refine zlreturn (k := 73) rfl rfl rfl ?_
  rw [← hQ]
  refine ⟨?_, rfl, rfl⟩
  try simp only [ne_eq, zcc1, zcc2, zcc3, zcc4, zcc5] at *
  unfold jn
  first
  | (have e : s = -20 := (by omega); subst e; rfl)
  | (have e : s = -19 := (by omega); subst e; first | (rw [show q = x by omega]; simp; done) | (simp; omega))
  | (have e : s = -18 := (by omega); subst e; simp; omega)
  | (have e : s = -17 := (by omega); subst e; simp; omega)
  | (have e : s = -16 := (by omega); subst e; rfl)
  | (have e : s = -15 := (by omega); subst e; rfl)
  | (have e : s = -14 := (by omega); subst e; simp; done)
  | (have e : s = -14 := (by omega); subst e; simp; omega)
  | (have e : s = -14 := (by omega); subst e; rw [show q = 0 by omega]; simp; done)
  | (have e : s = -13 := (by omega); subst e; simp; done)
  | (have e : s = -13 := (by omega); subst e; simp; omega)
  | (have e : s = -13 := (by omega); subst e; rw [show q = 0 by omega]; simp; done)
  | (have e : s = -12 := (by omega); subst e; rfl)
  | (have e : s = -11 := (by omega); subst e; rfl)
  | (have e : s = -10 := (by omega); subst e; rfl)
  | (have e : s = -21 := (by omega); subst e; rfl)
