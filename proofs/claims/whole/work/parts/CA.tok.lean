/-! THE MODEL READS: tokens -/
noncomputable def tNw (T : Int → Int) (p : Int) : Int := wv256 T (tQ T p) (run 97 122 T 6 (tQ T p))
/-- the model has read the token behind p -/
def MSc (σ : zv_H) (T : Int → Int) (p : Int) : Prop := σ 289 4 = tQ T p ∧ (tK T p = 4 → σ 289 12 = tP T p ∧ σ 289 3 ≠ 0) ∧ (tK T p ≠ 4 → σ 289 12 = -1 ∧ σ 289 3 = tK T p ∧ σ 289 5 = tN T p) ∧ (tK T p = 3 → σ 289 6 = T (tQ T p)) ∧ (tK T p = 2 → σ 289 6 = tNv T p) ∧ (tK T p = 1 → σ 289 6 = 0 ∧ σ 289 7 = tNw T p)
/-- the text -/
def TR (σ : zv_H) (T : Int → Int) (n : Int) : Prop := σ 289 2 = n ∧ TT T n ∧ ∀ k, 0 ≤ k → k < n → σ 290 k = T k
def sfr (σ σ' : zv_H) : Prop := ∀ x k, ¬ (x = 289 ∧ ((3 ≤ k ∧ k ≤ 7) ∨ k = 12)) → σ' x k = σ x k
theorem sfr_tr {σ σ1 σ2 : zv_H} (h1_q : sfr σ σ1) (h2_q : sfr σ1 σ2) : sfr σ σ2 := fun x k q => by rw [h2_q x k q]; exact h1_q x k q
theorem TR_s {σ σ' : zv_H} {T : Int → Int} {n : Int} (h : TR σ T n) (hs : sfr σ σ') : TR σ' T n := ⟨by rw [hs 289 2 (by omega)]; exact h.1, h.2.1, fun k q1_q q2_q => by rw [hs 290 k (by omega)]; exact h.2.2 k q1_q q2_q⟩
/-- a run is read so far: of the last place jl, of the word jw, of the number jv -/
def aF (T : Int → Int) (σ0 σ : zv_H) (Q L x : Int) (jl jw jv : Nat) : Prop := sfr σ0 σ ∧ σ 289 4 = Q ∧ σ 289 3 = (if L = 1 then 1 else 2) ∧ σ 289 12 = (if x = Q then Q else if (if L = 1 then 6 else 4) < (jl : Int) then Q + (if L = 1 then 6 else 4) else -1) ∧ σ 289 7 = (if L = 1 then wv256 T Q (min jw 6) else 0) ∧ σ 289 6 = (if L = 1 then 0 else nv10 T Q (min jv 4))
theorem aF_1 {T : Int → Int} {σ0 σ : zv_H} {Q L x v : Int} {j jw jv : Nat} (h : aF T σ0 σ Q L x j jw jv) (hj : (j : Int) = if L = 1 then 6 else 4) (hx : σ 289 12 = -1) (hQ : 0 ≤ Q) (hv : v = Q + j) : aF T σ0 (zup σ 289 12 v) Q L x (j + 1) jw jv := by
  obtain ⟨a1_q, a2_q, a3_q, a4_q, a5_q, a6_q⟩ := h
  refine ⟨fun y k q => by rw [zup_n (by omega)]; exact a1_q y k q, by rw [zup_n (by omega)]; exact a2_q, by rw [zup_n (by omega)]; exact a3_q, ?_, by rw [zup_n (by omega)]; exact a5_q, by rw [zup_n (by omega)]; exact a6_q⟩
  rw [zup_s, hv]
  rw [a4_q] at hx
  by_cases e : x = Q
  · rw [if_pos e] at hx; omega
  · rw [if_neg e, if_pos (c := (if L = 1 then (6 : Int) else 4) < ((j + 1 : Nat) : Int)) (by omega)]; omega
theorem aF_2 {T : Int → Int} {σ0 σ : zv_H} {Q L x : Int} {j jw jv : Nat} (h : aF T σ0 σ Q L x j jw jv) (hj : (j : Int) ≠ (if L = 1 then 6 else 4) ∨ σ 289 12 ≠ -1) : aF T σ0 σ Q L x (j + 1) jw jv := by
  obtain ⟨a1_q, a2_q, a3_q, a4_q, a5_q, a6_q⟩ := h
  refine ⟨a1_q, a2_q, a3_q, ?_, a5_q, a6_q⟩
  rw [a4_q]
  rw [a4_q] at hj
  by_cases e : x = Q
  · rw [if_pos e, if_pos e]
  · rw [if_neg e, if_neg e]
    rw [if_neg e] at hj
    by_cases e2_q : (if L = 1 then (6 : Int) else 4) < (j : Int)
    · rw [if_pos e2_q, if_pos (c := (if L = 1 then (6 : Int) else 4) < ((j + 1 : Nat) : Int)) (by omega)]
    · rw [if_neg e2_q] at hj ⊢
      rw [if_neg (c := (if L = 1 then (6 : Int) else 4) < ((j + 1 : Nat) : Int)) (by omega)]
theorem aF_3 {T : Int → Int} {σ0 σ : zv_H} {Q L x v : Int} {jl j jv : Nat} (h : aF T σ0 σ Q L x jl j jv) (hL : L = 1) (hj : j < 6) (hv : v = 256 * wv256 T Q j + T (Q + j)) : aF T σ0 (zup σ 289 7 v) Q L x jl (j + 1) jv := by
  obtain ⟨a1_q, a2_q, a3_q, a4_q, a5_q, a6_q⟩ := h
  refine ⟨fun y k q => by rw [zup_n (by omega)]; exact a1_q y k q, by rw [zup_n (by omega)]; exact a2_q, by rw [zup_n (by omega)]; exact a3_q, by rw [zup_n (by omega)]; exact a4_q, ?_, by rw [zup_n (by omega)]; exact a6_q⟩
  rw [zup_s, if_pos hL, hv, Nat.min_eq_left (by omega)]
  rfl
theorem aF_4 {T : Int → Int} {σ0 σ : zv_H} {Q L x : Int} {jl j jv : Nat} (h : aF T σ0 σ Q L x jl j jv) (hj : L ≠ 1 ∨ 6 ≤ j) : aF T σ0 σ Q L x jl (j + 1) jv := by
  obtain ⟨a1_q, a2_q, a3_q, a4_q, a5_q, a6_q⟩ := h
  refine ⟨a1_q, a2_q, a3_q, a4_q, ?_, a6_q⟩
  rw [a5_q]
  by_cases e : L = 1
  · rw [if_pos e, if_pos e, Nat.min_eq_right (by omega), Nat.min_eq_right (by omega)]
  · rw [if_neg e, if_neg e]
theorem aF_5 {T : Int → Int} {σ0 σ : zv_H} {Q L x v : Int} {jl jw j : Nat} (h : aF T σ0 σ Q L x jl jw j) (hL : L ≠ 1) (hj : j < 4) (hv : v = 10 * nv10 T Q j + T (Q + j) - 48) : aF T σ0 (zup σ 289 6 v) Q L x jl jw (j + 1) := by
  obtain ⟨a1_q, a2_q, a3_q, a4_q, a5_q, a6_q⟩ := h
  refine ⟨fun y k q => by rw [zup_n (by omega)]; exact a1_q y k q, by rw [zup_n (by omega)]; exact a2_q, by rw [zup_n (by omega)]; exact a3_q, by rw [zup_n (by omega)]; exact a4_q, by rw [zup_n (by omega)]; exact a5_q, ?_⟩
  rw [zup_s, if_neg hL, hv, Nat.min_eq_left (by omega)]
  show _ = 10 * nv10 T Q j + (T (Q + j) - 48)
  omega
theorem aF_6 {T : Int → Int} {σ0 σ : zv_H} {Q L x : Int} {jl jw j : Nat} (h : aF T σ0 σ Q L x jl jw j) (hj : L = 1 ∨ 4 ≤ j) : aF T σ0 σ Q L x jl jw (j + 1) := by
  obtain ⟨a1_q, a2_q, a3_q, a4_q, a5_q, a6_q⟩ := h
  refine ⟨a1_q, a2_q, a3_q, a4_q, a5_q, ?_⟩
  rw [a6_q]
  by_cases e : L = 1
  · rw [if_pos e, if_pos e]
  · rw [if_neg e, if_neg e, Nat.min_eq_right (by omega), Nat.min_eq_right (by omega)]
theorem wv_b6 {T : Int → Int} {Q : Int} : ∀ j : Nat, (∀ i : Nat, i < j → 0 ≤ T (Q + i) ∧ T (Q + i) ≤ 255) → 0 ≤ wv256 T Q j ∧ wv256 T Q j < 256 ^ j
  | 0, _ => ⟨Int.le_refl _, by rw [Int.pow_zero]; show (0 : Int) < 1; decide⟩
  | j + 1, h => by
    have ih := wv_b6 j (fun i hi => h i (by omega))
    have q := h j (by omega)
    have e : wv256 T Q (j + 1) = 256 * wv256 T Q j + T (Q + j) := rfl
    rw [e, Int.pow_succ]
    omega
theorem nv_b4 {T : Int → Int} {Q : Int} : ∀ j : Nat, (∀ i : Nat, i < j → 48 ≤ T (Q + i) ∧ T (Q + i) ≤ 57) → 0 ≤ nv10 T Q j ∧ nv10 T Q j < 10 ^ j
  | 0, _ => ⟨Int.le_refl _, by rw [Int.pow_zero]; show (0 : Int) < 1; decide⟩
  | j + 1, h => by
    have ih := nv_b4 j (fun i hi => h i (by omega))
    have q := h j (by omega)
    have e : nv10 T Q (j + 1) = 10 * nv10 T Q j + (T (Q + j) - 48) := rfl
    rw [e, Int.pow_succ]
    omega
theorem zorL_nat {x y : Int} (hx : 0 ≤ x ∧ x ≤ 9223372036854775807) (hy : 0 ≤ y ∧ y ≤ 9223372036854775807) : zorL x y = ((x.toNat ||| y.toNat : Nat) : Int) := by
  have xN : (Int64.ofInt x).toBitVec.toNat = x.toNat := by
    show (BitVec.ofInt 64 x).toNat = x.toNat
    rw [BitVec.toNat_ofInt]
    omega
  have yN : (Int64.ofInt y).toBitVec.toNat = y.toNat := by
    show (BitVec.ofInt 64 y).toNat = y.toNat
    rw [BitVec.toNat_ofInt]
    omega
  have hlt : x.toNat ||| y.toNat < 2 ^ 63 := Nat.or_lt_two_pow (by omega) (by omega)
  unfold zorL
  show (Int64.ofInt x ||| Int64.ofInt y).toBitVec.toInt = _
  rw [Int64.toBitVec_or, BitVec.toInt_eq_toNat_cond, BitVec.toNat_or, xN, yN, if_pos (by omega)]
theorem zshlL_8 {x : Int} (hx : 0 ≤ x ∧ x ≤ 281474976710655) : zshlL x 8 = 256 * x := by
  have xN : (Int64.ofInt x).toBitVec.toNat = x.toNat := by
    show (BitVec.ofInt 64 x).toNat = x.toNat
    rw [BitVec.toNat_ofInt]
    omega
  have e : (Int64.ofInt x <<< ((Int32.ofInt 8).toInt64 &&& 63)).toBitVec.toNat = x.toNat * 256 := by
    show ((Int64.ofInt x).toBitVec <<< (((Int32.ofInt 8).toInt64 &&& 63).toBitVec.smod 64).toNat).toNat = _
    rw [show (((Int32.ofInt 8).toInt64 &&& 63).toBitVec.smod 64).toNat = 8 from by decide, BitVec.toNat_shiftLeft, Nat.shiftLeft_eq, xN]
    omega
  unfold zshlL
  show (Int64.ofInt x <<< ((Int32.ofInt 8).toInt64 &&& 63)).toBitVec.toInt = _
  rw [BitVec.toInt_eq_toNat_cond, e, if_pos (by omega)]
  omega
theorem two_bL {a c : Int} (ha : 0 ≤ a ∧ a ≤ 281474976710655) (hc : 0 ≤ c ∧ c ≤ 255) : zorL (zshlL a 8) c = 256 * a + c := by
  rw [zshlL_8 ha, zorL_nat (by omega) (by omega)]
  have e := Nat.two_pow_add_eq_or_of_lt (i := 8) (b := c.toNat) (show c.toNat < 2 ^ 8 by omega) a.toNat
  rw [show (256 * a).toNat = 2 ^ 8 * a.toNat by omega, ← e]
  omega
set_option maxHeartbeats 4000000 in
set_option maxRecDepth 20000 in
theorem c_M_isLetter {Γ : zv_M} {L : Int} {σ : zv_H} {x : Int}  : zC Γ m_M_isLetter 0 0 0 (GM L) [zI x] σ (zFn (some (zI (if 97 ≤ x ∧ x ≤ 122 then 1 else 0))) (GM L) σ) := by
  refine zC_of (ls0 := [_]) zm_M_isLetter (by decide) rfl (Nat.le_of_ble_eq_true rfl) ?_
  generalize hQ : (zFn (some (zI (if 97 ≤ x ∧ x ≤ 122 then 1 else 0))) (GM L) σ) = Q
  refine ziload_n (k := 0) rfl rfl ?_
  refine zbipush (k := 1) rfl rfl ?_
  refine zicmp_lt (k := 2) rfl rfl (fun c1_q => ?_) (fun c1_q => ?_)
  · skip
    refine ziconst (k := 8) rfl (by decide) ?_
    refine zzreturn (k := 9) rfl rfl (by first | exact Or.inl rfl | exact Or.inr rfl | omega) rfl ?_
    rw [← hQ]
    exact ⟨by first | (rw [if_pos (by omega)]; done) | (rw [if_neg (by omega)]; done) | (exfalso; omega), rfl, rfl⟩
  · skip
    refine ziload_n (k := 3) rfl rfl ?_
    refine zbipush (k := 4) rfl rfl ?_
    refine zicmp_gt (k := 5) rfl rfl (fun c2_q => ?_) (fun c2_q => ?_)
    · skip
      refine ziconst (k := 8) rfl (by decide) ?_
      refine zzreturn (k := 9) rfl rfl (by first | exact Or.inl rfl | exact Or.inr rfl | omega) rfl ?_
      rw [← hQ]
      exact ⟨by first | (rw [if_pos (by omega)]; done) | (rw [if_neg (by omega)]; done) | (exfalso; omega), rfl, rfl⟩
    · skip
      refine ziconst (k := 6) rfl (by decide) ?_
      refine zgoto (k := 7) rfl rfl ?_
      refine zzreturn (k := 9) rfl rfl (by first | exact Or.inl rfl | exact Or.inr rfl | omega) rfl ?_
      rw [← hQ]
      exact ⟨by first | (rw [if_pos (by omega)]; done) | (rw [if_neg (by omega)]; done) | (exfalso; omega), rfl, rfl⟩
set_option maxHeartbeats 4000000 in
set_option maxRecDepth 20000 in
theorem c_M_isDigit {Γ : zv_M} {L : Int} {σ : zv_H} {x : Int}  : zC Γ m_M_isDigit 0 0 0 (GM L) [zI x] σ (zFn (some (zI (if 48 ≤ x ∧ x ≤ 57 then 1 else 0))) (GM L) σ) := by
  refine zC_of (ls0 := [_]) zm_M_isDigit (by decide) rfl (Nat.le_of_ble_eq_true rfl) ?_
  generalize hQ : (zFn (some (zI (if 48 ≤ x ∧ x ≤ 57 then 1 else 0))) (GM L) σ) = Q
  refine ziload_n (k := 0) rfl rfl ?_
  refine zbipush (k := 1) rfl rfl ?_
  refine zicmp_lt (k := 2) rfl rfl (fun c1_q => ?_) (fun c1_q => ?_)
  · skip
    refine ziconst (k := 8) rfl (by decide) ?_
    refine zzreturn (k := 9) rfl rfl (by first | exact Or.inl rfl | exact Or.inr rfl | omega) rfl ?_
    rw [← hQ]
    exact ⟨by first | (rw [if_pos (by omega)]; done) | (rw [if_neg (by omega)]; done) | (exfalso; omega), rfl, rfl⟩
  · skip
    refine ziload_n (k := 3) rfl rfl ?_
    refine zbipush (k := 4) rfl rfl ?_
    refine zicmp_gt (k := 5) rfl rfl (fun c2_q => ?_) (fun c2_q => ?_)
    · skip
      refine ziconst (k := 8) rfl (by decide) ?_
      refine zzreturn (k := 9) rfl rfl (by first | exact Or.inl rfl | exact Or.inr rfl | omega) rfl ?_
      rw [← hQ]
      exact ⟨by first | (rw [if_pos (by omega)]; done) | (rw [if_neg (by omega)]; done) | (exfalso; omega), rfl, rfl⟩
    · skip
      refine ziconst (k := 6) rfl (by decide) ?_
      refine zgoto (k := 7) rfl rfl ?_
      refine zzreturn (k := 9) rfl rfl (by first | exact Or.inl rfl | exact Or.inr rfl | omega) rfl ?_
      rw [← hQ]
      exact ⟨by first | (rw [if_pos (by omega)]; done) | (rw [if_neg (by omega)]; done) | (exfalso; omega), rfl, rfl⟩
