/-! Tape, Formula -/
def zby (z i : Int) : Int := if i = 0 then z / 16777216 % 256 else if i = 1 then z / 65536 % 256 else if i = 2 then z / 256 % 256 else z % 256
theorem zushr_b {x s : Int} (k : Nat) (hs : s = k) (hk : k ≤ 24) : zushr x s % 256 = x / 2 ^ k % 256 := by
  have hsn : (((Int32.ofInt s).toUInt32 &&& Int32.toUInt32 31).toBitVec % 32).toNat = k := by
    subst hs
    have hh : k = 0 ∨ k = 1 ∨ k = 2 ∨ k = 3 ∨ k = 4 ∨ k = 5 ∨ k = 6 ∨ k = 7 ∨ k = 8 ∨ k = 9 ∨ k = 10 ∨ k = 11 ∨ k = 12 ∨ k = 13 ∨ k = 14 ∨ k = 15 ∨ k = 16 ∨ k = 17 ∨ k = 18 ∨ k = 19 ∨ k = 20 ∨ k = 21 ∨ k = 22 ∨ k = 23 ∨ k = 24 := by omega
    rcases hh with rfl | rfl | rfl | rfl | rfl | rfl | rfl | rfl | rfl | rfl | rfl | rfl | rfl | rfl | rfl | rfl | rfl | rfl | rfl | rfl | rfl | rfl | rfl | rfl | rfl <;> decide
  have h1 := pk_ushr (Int32.ofInt x) (Int32.ofInt s) k hsn
  have hxN : (((Int32.ofInt x).toBitVec.toNat : Nat) : Int) = x % 4294967296 := by
    show (((BitVec.ofInt 32 x).toNat : Nat) : Int) = x % 4294967296
    rw [BitVec.toNat_ofInt]
    omega
  have hT : ∀ w : Int32, w.toInt % 256 = ((w.toBitVec.toNat : Nat) : Int) % 256 := by
    intro w
    show w.toBitVec.toInt % 256 = _
    rw [BitVec.toInt_eq_toNat_cond]
    split <;> omega
  unfold zushr
  rw [hT, h1, Int.natCast_ediv, hxN]
  have hp : ((2 ^ k : Nat) : Int) = 2 ^ k := by simp
  rw [hp]
  have hh : k = 0 ∨ k = 1 ∨ k = 2 ∨ k = 3 ∨ k = 4 ∨ k = 5 ∨ k = 6 ∨ k = 7 ∨ k = 8 ∨ k = 9 ∨ k = 10 ∨ k = 11 ∨ k = 12 ∨ k = 13 ∨ k = 14 ∨ k = 15 ∨ k = 16 ∨ k = 17 ∨ k = 18 ∨ k = 19 ∨ k = 20 ∨ k = 21 ∨ k = 22 ∨ k = 23 ∨ k = 24 := by omega
  rcases hh with rfl | rfl | rfl | rfl | rfl | rfl | rfl | rfl | rfl | rfl | rfl | rfl | rfl | rfl | rfl | rfl | rfl | rfl | rfl | rfl | rfl | rfl | rfl | rfl | rfl <;> omega
theorem zby_sh {z : Int} {j : Nat} (h : j < 4) {s : Int} (hs : s = 24 - 8 * (j : Int)) : zushr z s % 256 = zby z j := by
  have hh : j = 0 ∨ j = 1 ∨ j = 2 ∨ j = 3 := by omega
  rcases hh with rfl | rfl | rfl | rfl
  · rw [zushr_b 24 (by rw [hs]; rfl) (by omega)]; rfl
  · rw [zushr_b 16 (by rw [hs]; rfl) (by omega)]; rfl
  · rw [zushr_b 8 (by rw [hs]; rfl) (by omega)]; rfl
  · rw [zushr_b 0 (by rw [hs]; rfl) (by omega)]; show z / 1 % 256 = z % 256; rw [Int.ediv_one]
/-- j bytes of z behind the tape's (array a, its length at (b, c)) -/
def zab (σ : zv_H) (a b c z : Int) (j : Int) : zv_H := fun x k => if x = a ∧ σ b c ≤ k ∧ k < σ b c + j then zby z (k - σ b c) else if x = b ∧ k = c then σ b c + j else σ x k
theorem zab_0 (σ : zv_H) (a b c z : Int) : zab σ a b c z ((0 : Nat) : Int) = σ := by
  funext x k
  unfold zab
  rw [if_neg (by omega)]
  split
  · rename_i h; obtain ⟨rfl, rfl⟩ := h; omega
  · rfl
theorem zab_l {σ : zv_H} {a b c z j : Int} (h : a ≠ b) : zab σ a b c z j b c = σ b c + j := by
  unfold zab
  rw [if_neg (fun q => h q.1.symm), if_pos ⟨rfl, rfl⟩]
theorem zab_s {σ : zv_H} {a b c z j : Int} (h : a ≠ b) (hj : 0 ≤ j) : zup (zup (zab σ a b c z j) a (σ b c + j) (zby z j)) b c (σ b c + j + 1) = zab σ a b c z (j + 1) := by
  funext x k
  unfold zup zab
  by_cases hb : x = b ∧ k = c
  · rw [if_pos hb, if_neg (fun q => h (q.1.symm.trans hb.1)), if_pos hb]
    omega
  · rw [if_neg hb]
    by_cases h1 : x = a ∧ k = σ b c + j
    · rw [if_pos h1, if_pos (by omega), show k - σ b c = j by omega]
    · rw [if_neg h1]
      by_cases h2 : x = a ∧ σ b c ≤ k ∧ k < σ b c + j
      · rw [if_pos h2, if_pos (by omega)]
      · rw [if_neg h2, if_neg hb, if_neg (by omega), if_neg hb]
set_option maxHeartbeats 4000000 in
set_option maxRecDepth 20000 in
theorem c_Tape_hasRoom {Γ : zv_M} {L : Int} {m : Int} {σ : zv_H} (h : 0 ≤ σ 2 1 ∧ σ 2 1 ≤ 1600) (hm : 0 ≤ m ∧ m ≤ 1600) : zC Γ m_Tape_hasRoom 0 0 0 (GM L) [zR 2, zI m] σ (zFn (some (zI (if σ 2 1 + m ≤ 1600 then 1 else 0))) (GM L) σ) := by
  refine zC_of zm_Tape_hasRoom (by decide) rfl (Nat.le_of_ble_eq_true rfl) ?_
  generalize hQ : (zFn (some (zI (if σ 2 1 + m ≤ 1600 then 1 else 0))) (GM L) σ) = Q
  refine zaload_n (k := 0) rfl rfl ?_
  refine zgI 1 (k := 1) rfl ob_2 fl_9_15 rfl fx_2_1 ?_
  refine ziload_n (k := 2) rfl rfl ?_
  refine ziaddB (k := 3) rfl (by omega) ?_
  refine zsipush (k := 4) rfl rfl ?_
  refine zicmp_gt (k := 5) rfl rfl (fun c1 => ?_) (fun c1 => ?_)
  · skip
    refine ziconst (k := 8) rfl (by decide) ?_
    refine zzreturn (k := 9) rfl rfl (by first | exact Or.inl rfl | exact Or.inr rfl | omega) rfl ?_
    rw [← hQ]
    exact ⟨by first | (rw [if_pos (by omega)]; done) | (rw [if_neg (by omega)]; done) | (exfalso; omega), rfl, rfl⟩
  · skip
    refine ziconst (k := 6) rfl (by decide) ?_
    refine zgoto (k := 7) rfl rfl ?_
    refine zzreturn (k := 9) rfl rfl (by first | exact Or.inl rfl | exact Or.inr rfl | omega) rfl ?_
    rw [← hQ]
    exact ⟨by first | (rw [if_pos (by omega)]; done) | (rw [if_neg (by omega)]; done) | (exfalso; omega), rfl, rfl⟩
set_option maxHeartbeats 4000000 in
set_option maxRecDepth 20000 in
theorem c_Tape_addNumber {Γ : zv_M} {L : Int} {z : Int} {σ : zv_H} (h : 0 ≤ σ 2 1 ∧ σ 2 1 ≤ 1596) : zC Γ m_Tape_addNumber 1 0 0 (GM L) [zR 2, zI z] σ (zFn none (GM L) (zab σ 3 2 1 z 4)) := by
  refine zC_of zm_Tape_addNumber (by decide) rfl (Nat.le_of_ble_eq_true rfl) ?_
  generalize hQ : (zFn none (GM L) (zab σ 3 2 1 z 4)) = Q
  refine zbipush (k := 0) rfl rfl ?_
  refine zistore_n (k := 1) rfl (Nat.le_of_ble_eq_true rfl) rfl ?_
  have lp3 : ∀ (g : Nat) (j : Nat), (4 - j) < g → (j ≤ 4) → zV Γ m_Tape_addNumber 1 0 0 Q (GM L) (0, 0) 3 [some (zR 2), some (zI z), some (zI (24 - 8 * j))] [] (zab σ 3 2 1 z (j : Int)) := by
    intro g
    induction g with
    | zero => intro j hg; exact absurd hg (Nat.not_lt_zero _)
    | succ g ih =>
      intro j hg h1
      have hl := @zab_l σ 3 2 1 z j (by omega)
      refine ziload_n (k := 2) rfl rfl ?_
      refine zif_lt (k := 3) rfl rfl (fun c1 => ?_) (fun c1 => ?_)
      · skip
        refine zreturn (k := 22) rfl rfl rfl ?_
        rw [← hQ]
        exact ⟨rfl, rfl, by rw [show (j : Int) = 4 by omega]⟩
      · skip
        refine zaload_n (k := 4) rfl rfl ?_
        refine zgF 0 (k := 5) rfl ob_2 fl_9_9 rfl fx_2_0 ?_
        refine zaload_n (k := 6) rfl rfl ?_
        refine zgI 1 (k := 7) rfl ob_2 fl_9_15 rfl fx_2_1 ?_
        refine ziload_n (k := 8) rfl rfl ?_
        refine ziload_n (k := 9) rfl rfl ?_
        refine ziushr (k := 10) rfl ?_
        refine zsipush (k := 11) rfl rfl ?_
        refine ziandM (k := 12) 8 rfl (by decide) rfl 256 rfl ?_
        refine zfS0 (k := 13) rfl (c_NT_put ar_3 (by omega)) fm_NT_put lk_9_19 rfl rfl (by decide) (by decide) ⟨by decide, by decide⟩ ?_
        rw [zby_sh (j := j) (by omega) rfl, hl, zpt_in (by omega)]
        refine zaload_n (k := 14) rfl rfl ?_
        refine zdup (k := 15) rfl rfl ?_
        refine zgI 1 (k := 16) rfl ob_2 fl_9_15 rfl fx_2_1 ?_
        refine ziconst (k := 17) rfl (by decide) ?_
        rw [zup_n (by omega), hl]
        refine ziaddB (k := 18) rfl (by omega) ?_
        refine zpI 1 (k := 19) rfl ob_2 fl_9_15 ⟨_, rfl, rfl⟩ rfl (by omega) rfl fx_2_1 ?_
        rw [zab_s (by omega) (by omega), show (j : Int) + 1 = ((j + 1 : Nat) : Int) by omega]
        refine ziincB (k := 20) rfl rfl (by decide) (by omega) rfl ?_
        refine zgoto (k := 21) rfl rfl ?_
        rw [show (24 : Int) - 8 * (j : Int) + -8 = 24 - 8 * ((j + 1 : Nat) : Int) by omega]
        exact ih (j + 1) (by omega) (by omega)
  rw [← zab_0 σ 3 2 1 z]
  exact lp3 _ 0 (Nat.lt_succ_self _) (by omega)
set_option maxHeartbeats 4000000 in
set_option maxRecDepth 20000 in
theorem c_Tape_octetAt {Γ : zv_M} {L : Int} {k : Int} {σ : zv_H} (h : σ 2 1 ≤ 1600) : zC Γ m_Tape_octetAt 0 0 0 (GM L) [zR 2, zI k] σ (zFn (some (zI (if 0 ≤ k ∧ k < σ 2 1 then σ 3 k else -1))) (GM L) σ) := by
  refine zC_of zm_Tape_octetAt (by decide) rfl (Nat.le_of_ble_eq_true rfl) ?_
  generalize hQ : (zFn (some (zI (if 0 ≤ k ∧ k < σ 2 1 then σ 3 k else -1))) (GM L) σ) = Q
  refine ziload_n (k := 0) rfl rfl ?_
  refine zif_lt (k := 1) rfl rfl (fun c1 => ?_) (fun c1 => ?_)
  · skip
    refine ziconst (k := 16) rfl (by decide) ?_
    refine zireturn (k := 17) rfl rfl rfl ?_
    rw [← hQ]
    exact ⟨by first | (rw [if_pos (by omega)]; done) | (rw [if_neg (by omega)]; done) | (exfalso; omega), rfl, rfl⟩
  · skip
    refine ziload_n (k := 2) rfl rfl ?_
    refine zaload_n (k := 3) rfl rfl ?_
    refine zgI 1 (k := 4) rfl ob_2 fl_9_15 rfl fx_2_1 ?_
    refine zicmp_ge (k := 5) rfl rfl (fun c2 => ?_) (fun c2 => ?_)
    · skip
      refine ziconst (k := 16) rfl (by decide) ?_
      refine zireturn (k := 17) rfl rfl rfl ?_
      rw [← hQ]
      exact ⟨by first | (rw [if_pos (by omega)]; done) | (rw [if_neg (by omega)]; done) | (exfalso; omega), rfl, rfl⟩
    · skip
      refine ziload_n (k := 6) rfl rfl ?_
      refine zaload_n (k := 7) rfl rfl ?_
      refine zgF 0 (k := 8) rfl ob_2 fl_9_9 rfl fx_2_0 ?_
      refine zarraylength (k := 9) rfl (ar_3).1 ?_
      refine zicmp_ge (k := 10) rfl rfl (fun c3 => ?_) (fun c3 => ?_)
      · skip
        refine ziconst (k := 16) rfl (by decide) ?_
        refine zireturn (k := 17) rfl rfl rfl ?_
        rw [← hQ]
        exact ⟨by first | (rw [if_pos (by omega)]; done) | (rw [if_neg (by omega)]; done) | (exfalso; omega), rfl, rfl⟩
      · skip
        refine zaload_n (k := 11) rfl rfl ?_
        refine zgF 0 (k := 12) rfl ob_2 fl_9_9 rfl fx_2_0 ?_
        refine ziload_n (k := 13) rfl rfl ?_
        refine ziaload (k := 14) rfl ar_3 ⟨by omega, by omega⟩ ?_
        refine zgoto (k := 15) rfl rfl ?_
        refine zireturn (k := 17) rfl rfl rfl ?_
        rw [← hQ]
        exact ⟨by first | (rw [if_pos (by omega)]; done) | (rw [if_neg (by omega)]; done) | (exfalso; omega), rfl, rfl⟩
set_option maxHeartbeats 4000000 in
set_option maxRecDepth 20000 in
theorem c_Formula_add {Γ : zv_M} {L : Int} {a z : Int} {σ : zv_H} (hf : a ∈ fmL) (h : 0 ≤ σ a 1 ∧ σ a 1 < 1600) : zC Γ m_Formula_add 1 0 0 (GM L) [zR a, zI z] σ (zFn none (GM L) (zup (zup σ (a + 1) (σ a 1) z) a 1 (σ a 1 + 1))) := by
  refine zC_of zm_Formula_add (by decide) rfl (Nat.le_of_ble_eq_true rfl) ?_
  generalize hQ : (zFn none (GM L) (zup (zup σ (a + 1) (σ a 1) z) a 1 (σ a 1 + 1))) = Q
  refine zaload_n (k := 0) rfl rfl ?_
  refine zgF 0 (k := 1) rfl (fm_ob hf) fl_1_9 rfl (fm_fx_0 hf) ?_
  refine zaload_n (k := 2) rfl rfl ?_
  refine zgI 1 (k := 3) rfl (fm_ob hf) fl_1_15 rfl (fm_fx_1 hf) ?_
  refine ziload_n (k := 4) rfl rfl ?_
  refine zfS0 (k := 5) rfl (c_NT_put (fm_ar_1 hf) (by have := fm_pos hf; omega)) fm_NT_put lk_1_19 rfl rfl (by decide) (by decide) ⟨by decide, by decide⟩ ?_
  rw [zpt_in (by omega)]
  refine zaload_n (k := 6) rfl rfl ?_
  refine zdup (k := 7) rfl rfl ?_
  refine zgI 1 (k := 8) rfl (fm_ob hf) fl_1_15 rfl (fm_fx_1 hf) ?_
  refine ziconst (k := 9) rfl (by decide) ?_
  rw [zup_n (by omega)]
  refine ziaddB (k := 10) rfl (by omega) ?_
  refine zpI 1 (k := 11) rfl (fm_ob hf) fl_1_15 ⟨_, rfl, rfl⟩ rfl (fm_pos hf) rfl (fm_fx_1 hf) ?_
  refine zreturn (k := 12) rfl rfl rfl ?_
  rw [← hQ]
  exact ⟨rfl, rfl, rfl⟩
set_option maxHeartbeats 4000000 in
set_option maxRecDepth 20000 in
theorem c_Formula_isTold {Γ : zv_M} {L : Int} {a : Int} {σ : zv_H} (hf : a ∈ fmL) : zC Γ m_Formula_isTold 0 0 0 (GM L) [zR a] σ (zFn (some (zI (if 0 < σ a 1 then 1 else 0))) (GM L) σ) := by
  refine zC_of zm_Formula_isTold (by decide) rfl (Nat.le_of_ble_eq_true rfl) ?_
  generalize hQ : (zFn (some (zI (if 0 < σ a 1 then 1 else 0))) (GM L) σ) = Q
  refine zaload_n (k := 0) rfl rfl ?_
  refine zgI 1 (k := 1) rfl (fm_ob hf) fl_1_15 rfl (fm_fx_1 hf) ?_
  refine zif_le (k := 2) rfl rfl (fun c1 => ?_) (fun c1 => ?_)
  · skip
    refine ziconst (k := 5) rfl (by decide) ?_
    refine zzreturn (k := 6) rfl rfl (by first | exact Or.inl rfl | exact Or.inr rfl | omega) rfl ?_
    rw [← hQ]
    exact ⟨by first | (rw [if_pos (by omega)]; done) | (rw [if_neg (by omega)]; done) | (exfalso; omega), rfl, rfl⟩
  · skip
    refine ziconst (k := 3) rfl (by decide) ?_
    refine zgoto (k := 4) rfl rfl ?_
    refine zzreturn (k := 6) rfl rfl (by first | exact Or.inl rfl | exact Or.inr rfl | omega) rfl ?_
    rw [← hQ]
    exact ⟨by first | (rw [if_pos (by omega)]; done) | (rw [if_neg (by omega)]; done) | (exfalso; omega), rfl, rfl⟩
set_option maxHeartbeats 4000000 in
set_option maxRecDepth 20000 in
theorem c_Formula_clear {Γ : zv_M} {L : Int} {a : Int} {σ : zv_H} (hf : a ∈ fmL) : zC Γ m_Formula_clear 0 0 0 (GM L) [zR a] σ (zFn none (GM L) (zup σ a 1 0)) := by
  refine zC_of zm_Formula_clear (by decide) rfl (Nat.le_of_ble_eq_true rfl) ?_
  generalize hQ : (zFn none (GM L) (zup σ a 1 0)) = Q
  refine zaload_n (k := 0) rfl rfl ?_
  refine ziconst (k := 1) rfl (by decide) ?_
  refine zpI 1 (k := 2) rfl (fm_ob hf) fl_1_15 ⟨_, rfl, rfl⟩ rfl (fm_pos hf) rfl (fm_fx_1 hf) ?_
  refine zreturn (k := 3) rfl rfl rfl ?_
  rw [← hQ]
  exact ⟨rfl, rfl, rfl⟩
theorem wr_fm8 {a : Int} (h : a ∈ wrL) : a + 8 ∈ fmL := by
  simp only [wrL, List.mem_cons, List.not_mem_nil, or_false] at h
  rcases h with rfl | rfl <;> decide
theorem wr_fm10 {a : Int} (h : a ∈ wrL) : a + 10 ∈ fmL := by
  simp only [wrL, List.mem_cons, List.not_mem_nil, or_false] at h
  rcases h with rfl | rfl <;> decide
