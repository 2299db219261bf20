/-! AN IMAGE: the model reads -/
theorem zor_nat {x y : Int} (hx : 0 ≤ x ∧ x ≤ 2147483647) (hy : 0 ≤ y ∧ y ≤ 2147483647) : zor x y = ((x.toNat ||| y.toNat : Nat) : Int) := by
  have xN : (Int32.ofInt x).toBitVec.toNat = x.toNat := by
    show (BitVec.ofInt 32 x).toNat = x.toNat
    rw [BitVec.toNat_ofInt]
    omega
  have yN : (Int32.ofInt y).toBitVec.toNat = y.toNat := by
    show (BitVec.ofInt 32 y).toNat = y.toNat
    rw [BitVec.toNat_ofInt]
    omega
  have hlt : x.toNat ||| y.toNat < 2 ^ 31 := Nat.or_lt_two_pow (by omega) (by omega)
  unfold zor
  show (Int32.ofInt x ||| Int32.ofInt y).toBitVec.toInt = _
  rw [Int32.toBitVec_or, BitVec.toInt_eq_toNat_cond, BitVec.toNat_or, xN, yN, if_pos (by omega)]
theorem zshl_8 : ∀ a : Fin 256, zshl ((a.val : Nat) : Int) 8 = ((256 * a.val : Nat) : Int) := by decide +kernel
theorem two_b {a c : Int} (ha : 0 ≤ a ∧ a ≤ 255) (hc : 0 ≤ c ∧ c ≤ 255) : zor (zshl a 8) c = 256 * a + c := by
  have q := zshl_8 ⟨a.toNat, by omega⟩
  dsimp only at q
  rw [show ((a.toNat : Nat) : Int) = a by omega] at q
  rw [q, zor_nat (by omega) (by omega)]
  have e := Nat.two_pow_add_eq_or_of_lt (i := 8) (b := c.toNat) (show c.toNat < 2 ^ 8 by omega) a.toNat
  rw [show ((256 * a.toNat : Nat) : Int).toNat = 2 ^ 8 * a.toNat by omega, ← e]
  omega
set_option maxHeartbeats 4000000 in
set_option maxRecDepth 20000 in
theorem c_M_twoBytes {Γ : zv_M} {L : Int} {σ : zv_H} {p : Int} (h0_q : 0 ≤ σ 290 p ∧ σ 290 p ≤ 255) (h1_q : 0 ≤ σ 290 (p + 1) ∧ σ 290 (p + 1) ≤ 255) (hp : 0 ≤ p ∧ p ≤ 1700)  : zC Γ m_M_twoBytes 0 0 0 (GM L) [zR 289, zI p] σ (zFn (some (zI (256 * σ 290 p + σ 290 (p + 1)))) (GM L) σ) := by
  refine zC_of (ls0 := [_, _]) zm_M_twoBytes (by decide) rfl (Nat.le_of_ble_eq_true rfl) ?_
  generalize hQ : (zFn (some (zI (256 * σ 290 p + σ 290 (p + 1)))) (GM L) σ) = Q
  refine zaload_n (k := 0) rfl rfl ?_
  refine zgF 0 (k := 1) rfl ob_289 fl_12_7 rfl fx_289_0 ?_
  refine ziload_n (k := 2) rfl rfl ?_
  refine ziaload (k := 3) rfl ar_290 ⟨by omega, by omega⟩ ?_
  refine zbipush (k := 4) rfl rfl ?_
  refine zishl (k := 5) rfl ?_
  refine zaload_n (k := 6) rfl rfl ?_
  refine zgF 0 (k := 7) rfl ob_289 fl_12_7 rfl fx_289_0 ?_
  refine ziload_n (k := 8) rfl rfl ?_
  refine ziconst (k := 9) rfl (by decide) ?_
  refine ziaddB (k := 10) rfl (by omega) ?_
  refine ziaload (k := 11) rfl ar_290 ⟨by omega, by omega⟩ ?_
  refine zior (k := 12) rfl ?_
  rw [two_b h0_q h1_q]
  refine zireturn (k := 13) rfl rfl rfl ?_
  rw [← hQ]
  exact ⟨rfl, rfl, rfl⟩
set_option maxHeartbeats 4000000 in
set_option maxRecDepth 20000 in
theorem c_M_countyOn {Γ : zv_M} {L : Int} {σ Wm : zv_H} {b : Int} (hb : σ 289 13 = b) (hb1_q : b = 0 ∨ b = 1) {T : Int → Int} {c p : Int} (hc : 0 ≤ c ∧ c < 7) (hp : 0 ≤ p ∧ p ≤ 1600) (hT : ∀ k, p ≤ k → k < p + 4 → σ 290 k = T k ∧ 0 ≤ T k ∧ T k ≤ 255)  : zC Γ m_M_countyOn 1 0 0 (GM L) [zR 289, zI c, zI p] σ (zPI (GM L) (fun z σ' => (z = 0 ∨ z = 1) ∧ (z = 1 ↔ (T p ≤ σ 292 (7 * b + c) ∧ 256 * T (p + 1) + T (p + 2) ≤ 999 ∧ T (p + 3) ≤ 9)) ∧ σ' = zup (zup (zup σ 316 (7 + c) (T p)) 317 (7 + c) (256 * T (p + 1) + T (p + 2))) 318 (7 + c) (T (p + 3)))) := by
  refine zC_of (ls0 := [_, _, _]) zm_M_countyOn (by decide) rfl (Nat.le_of_ble_eq_true rfl) ?_
  generalize hQ : (zPI (GM L) (fun z σ' => (z = 0 ∨ z = 1) ∧ (z = 1 ↔ (T p ≤ σ 292 (7 * b + c) ∧ 256 * T (p + 1) + T (p + 2) ≤ 999 ∧ T (p + 3) ≤ 9)) ∧ σ' = zup (zup (zup σ 316 (7 + c) (T p)) 317 (7 + c) (256 * T (p + 1) + T (p + 2))) 318 (7 + c) (T (p + 3)))) = Q
  have t0_q := hT p (by omega) (by omega)
  have t1_q := hT (p + 1) (by omega) (by omega)
  have t2_q := hT (p + 2) (by omega) (by omega)
  have t3_q := hT (p + 3) (by omega) (by omega)
  have e12_q : p + 1 + 1 = p + 2 := by omega
  refine zaload_n (k := 0) rfl rfl ?_
  refine zgF 46 (k := 1) rfl ob_289 fl_12_153 rfl fx_289_46 ?_
  refine zbipush (k := 2) rfl rfl ?_
  refine ziload_n (k := 3) rfl rfl ?_
  refine ziaddB (k := 4) rfl (by omega) ?_
  refine zaload_n (k := 5) rfl rfl ?_
  refine zgF 0 (k := 6) rfl ob_289 fl_12_7 rfl fx_289_0 ?_
  refine ziload_n (k := 7) rfl rfl ?_
  refine ziaload (k := 8) rfl ar_290 ⟨by omega, by omega⟩ ?_
  rw [t0_q.1]
  refine ziastore (k := 9) rfl ar_316 ⟨by omega, by omega⟩ (by omega) ?_
  refine zaload_n (k := 10) rfl rfl ?_
  refine zgF 47 (k := 11) rfl ob_289 fl_12_156 rfl fx_289_47 ?_
  refine zbipush (k := 12) rfl rfl ?_
  refine ziload_n (k := 13) rfl rfl ?_
  refine ziaddB (k := 14) rfl (by omega) ?_
  refine zaload_n (k := 15) rfl rfl ?_
  refine ziload_n (k := 16) rfl rfl ?_
  refine ziconst (k := 17) rfl (by decide) ?_
  refine ziaddB (k := 18) rfl (by omega) ?_
  refine zfV1 (k := 19) rfl (c_M_twoBytes (p := p + 1) (by rw [zup_n (by omega), t1_q.1]; omega) (by rw [e12_q, zup_n (by omega), t2_q.1]; omega) (by omega)) fm_M_twoBytes lk_12_545 rfl rfl ob_289 ⟨_, rfl, rfl⟩ (Nat.le_of_ble_eq_true rfl) (by decide) ⟨by decide, by decide⟩ ?_
  rw [e12_q, zup_n (by omega), zup_n (by omega), t1_q.1, t2_q.1]
  refine ziastore (k := 20) rfl ar_317 ⟨by omega, by omega⟩ (by omega) ?_
  refine zaload_n (k := 21) rfl rfl ?_
  refine zgF 48 (k := 22) rfl ob_289 fl_12_159 rfl fx_289_48 ?_
  refine zbipush (k := 23) rfl rfl ?_
  refine ziload_n (k := 24) rfl rfl ?_
  refine ziaddB (k := 25) rfl (by omega) ?_
  refine zaload_n (k := 26) rfl rfl ?_
  refine zgF 0 (k := 27) rfl ob_289 fl_12_7 rfl fx_289_0 ?_
  refine ziload_n (k := 28) rfl rfl ?_
  refine ziconst (k := 29) rfl (by decide) ?_
  refine ziaddB (k := 30) rfl (by omega) ?_
  refine ziaload (k := 31) rfl ar_290 ⟨by omega, by omega⟩ ?_
  rw [zup_n (by omega), zup_n (by omega), t3_q.1]
  refine ziastore (k := 32) rfl ar_318 ⟨by omega, by omega⟩ (by omega) ?_
  refine zaload_n (k := 33) rfl rfl ?_
  refine zgF 0 (k := 34) rfl ob_289 fl_12_7 rfl fx_289_0 ?_
  refine ziload_n (k := 35) rfl rfl ?_
  refine ziaload (k := 36) rfl ar_290 ⟨by omega, by omega⟩ ?_
  rw [zup_n (by omega), zup_n (by omega), zup_n (by omega), t0_q.1]
  refine zaload_n (k := 37) rfl rfl ?_
  refine zgF 15 (k := 38) rfl ob_289 fl_12_57 rfl fx_289_15 ?_
  refine zbipush (k := 39) rfl rfl ?_
  refine zaload_n (k := 40) rfl rfl ?_
  refine zgI 13 (k := 41) rfl ob_289 fl_12_51 rfl fx_289_13 ?_
  rw [zup_n (by omega), zup_n (by omega), zup_n (by omega), hb]
  refine zimulB (k := 42) rfl (by omega) ?_
  refine ziload_n (k := 43) rfl rfl ?_
  refine ziaddB (k := 44) rfl (by omega) ?_
  refine ziaload (k := 45) rfl ar_292 ⟨by omega, by omega⟩ ?_
  rw [zup_n (by omega), zup_n (by omega), zup_n (by omega)]
  refine zicmp_gt (k := 46) rfl rfl (fun c1_q => ?_) (fun c1_q => ?_)
  · skip
    refine ziconst (k := 64) rfl (by decide) ?_
    refine zzreturn (k := 65) rfl rfl (by first | exact Or.inl rfl | exact Or.inr rfl | omega) rfl ?_
    rw [← hQ]
    refine ⟨rfl, _, rfl, by first | exact Or.inl rfl | exact Or.inr rfl, ?_, rfl⟩
    constructor
    · intro q; first | (exact absurd q (by decide)) | exact ⟨by omega, by omega, by omega⟩
    · intro q; first | rfl | (exfalso; omega)
  · skip
    refine zaload_n (k := 47) rfl rfl ?_
    refine ziload_n (k := 48) rfl rfl ?_
    refine ziconst (k := 49) rfl (by decide) ?_
    refine ziaddB (k := 50) rfl (by omega) ?_
    refine zfV1 (k := 51) rfl (c_M_twoBytes (p := p + 1) (by rw [zup_n (by omega), zup_n (by omega), zup_n (by omega), t1_q.1]; omega) (by rw [e12_q, zup_n (by omega), zup_n (by omega), zup_n (by omega), t2_q.1]; omega) (by omega)) fm_M_twoBytes lk_12_545 rfl rfl ob_289 ⟨_, rfl, rfl⟩ (Nat.le_of_ble_eq_true rfl) (by decide) ⟨by decide, by decide⟩ ?_
    rw [e12_q, zup_n (a' := 290) (k' := p + 1) (by omega), zup_n (a' := 290) (k' := p + 1) (by omega), zup_n (a' := 290) (k' := p + 1) (by omega), zup_n (a' := 290) (k' := p + 2) (by omega), zup_n (a' := 290) (k' := p + 2) (by omega), zup_n (a' := 290) (k' := p + 2) (by omega), t1_q.1, t2_q.1]
    refine zsipush (k := 52) rfl rfl ?_
    refine zicmp_gt (k := 53) rfl rfl (fun c2_q => ?_) (fun c2_q => ?_)
    · skip
      refine ziconst (k := 64) rfl (by decide) ?_
      refine zzreturn (k := 65) rfl rfl (by first | exact Or.inl rfl | exact Or.inr rfl | omega) rfl ?_
      rw [← hQ]
      refine ⟨rfl, _, rfl, by first | exact Or.inl rfl | exact Or.inr rfl, ?_, rfl⟩
      constructor
      · intro q; first | (exact absurd q (by decide)) | exact ⟨by omega, by omega, by omega⟩
      · intro q; first | rfl | (exfalso; omega)
    · skip
      refine zaload_n (k := 54) rfl rfl ?_
      refine zgF 0 (k := 55) rfl ob_289 fl_12_7 rfl fx_289_0 ?_
      refine ziload_n (k := 56) rfl rfl ?_
      refine ziconst (k := 57) rfl (by decide) ?_
      refine ziaddB (k := 58) rfl (by omega) ?_
      refine ziaload (k := 59) rfl ar_290 ⟨by omega, by omega⟩ ?_
      rw [zup_n (by omega), zup_n (by omega), zup_n (by omega), t3_q.1]
      refine zbipush (k := 60) rfl rfl ?_
      refine zicmp_gt (k := 61) rfl rfl (fun c3_q => ?_) (fun c3_q => ?_)
      · skip
        refine ziconst (k := 64) rfl (by decide) ?_
        refine zzreturn (k := 65) rfl rfl (by first | exact Or.inl rfl | exact Or.inr rfl | omega) rfl ?_
        rw [← hQ]
        refine ⟨rfl, _, rfl, by first | exact Or.inl rfl | exact Or.inr rfl, ?_, rfl⟩
        constructor
        · intro q; first | (exact absurd q (by decide)) | exact ⟨by omega, by omega, by omega⟩
        · intro q; first | rfl | (exfalso; omega)
      · skip
        refine ziconst (k := 62) rfl (by decide) ?_
        refine zgoto (k := 63) rfl rfl ?_
        refine zzreturn (k := 65) rfl rfl (by first | exact Or.inl rfl | exact Or.inr rfl | omega) rfl ?_
        rw [← hQ]
        refine ⟨rfl, _, rfl, by first | exact Or.inl rfl | exact Or.inr rfl, ?_, rfl⟩
        constructor
        · intro q; first | (exact absurd q (by decide)) | exact ⟨by omega, by omega, by omega⟩
        · intro q; first | rfl | (exfalso; omega)
