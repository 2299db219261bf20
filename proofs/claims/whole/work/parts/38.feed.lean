/-! feed, end -/
def feeF (σ : zv_H) (a b c d e : Int) : zv_H := zab (zab (zab (zab (zab σ 3 2 1 a 4) 3 2 1 b 4) 3 2 1 c 4) 3 2 1 d 4) 3 2 1 e 4
theorem zab_4 (σ : zv_H) (z : Int) : zab σ 3 2 1 z 4 2 1 = σ 2 1 + 4 := zab_l (by omega)
theorem fee_l (σ : zv_H) (a b c d e : Int) : feeF σ a b c d e 2 1 = σ 2 1 + 20 := by
  unfold feeF
  rw [zab_4, zab_4, zab_4, zab_4, zab_4]
  omega
set_option maxHeartbeats 4000000 in
set_option maxRecDepth 20000 in
theorem c_NT_feed {Γ : zv_M} {L : Int} {σ : zv_H} {a b c d e : Int} (h : 0 ≤ σ 2 1 ∧ σ 2 1 ≤ 1600) : zC Γ m_NT_feed 2 0 0 (GM L) [zR 1, zI a, zI b, zI c, zI d, zI e] σ (zPI (GM L) (fun z σ' => (σ 2 1 + 20 ≤ 1600 ∧ z = σ 2 1 + 20 ∧ σ' = feeF σ a b c d e) ∨ (1600 < σ 2 1 + 20 ∧ z = -1 ∧ σ' = rfu σ 0))) := by
  refine zC_of (ls0 := [_, _, _, _, _, _]) zm_NT_feed (by decide) rfl (Nat.le_of_ble_eq_true rfl) ?_
  generalize hQ : (zPI (GM L) (fun z σ' => (σ 2 1 + 20 ≤ 1600 ∧ z = σ 2 1 + 20 ∧ σ' = feeF σ a b c d e) ∨ (1600 < σ 2 1 + 20 ∧ z = -1 ∧ σ' = rfu σ 0))) = Q
  refine zaload_n (k := 0) rfl rfl ?_
  refine zgF 0 (k := 1) rfl ob_1 fl_11_10 rfl fx_1_0 ?_
  refine zbipush (k := 2) rfl rfl ?_
  refine zfV1 (k := 3) rfl (c_Tape_hasRoom (by omega) (by omega)) fm_Tape_hasRoom lk_11_100 rfl rfl ob_2 ⟨_, rfl, rfl⟩ (Nat.le_of_ble_eq_true rfl) (by decide) ⟨by decide, by decide⟩ ?_
  refine zif_ne (k := 4) rfl rfl (fun c1 => ?_) (fun c1 => ?_)
  · skip
    have hr : σ 2 1 + 20 ≤ 1600 := by omega
    refine zaload_n (k := 10) rfl rfl ?_
    refine zgF 0 (k := 11) rfl ob_1 fl_11_10 rfl fx_1_0 ?_
    refine ziload_n (k := 12) rfl rfl ?_
    refine zfV0 (k := 13) rfl (c_Tape_addNumber (by first | omega | (simp only [zab_4]; omega))) fm_Tape_addNumber lk_11_108 rfl rfl ob_2 ⟨_, rfl, rfl⟩ (Nat.le_of_ble_eq_true rfl) (by decide) ⟨by decide, by decide⟩ ?_
    refine zaload_n (k := 14) rfl rfl ?_
    refine zgF 0 (k := 15) rfl ob_1 fl_11_10 rfl fx_1_0 ?_
    refine ziload_n (k := 16) rfl rfl ?_
    refine zfV0 (k := 17) rfl (c_Tape_addNumber (by first | omega | (simp only [zab_4]; omega))) fm_Tape_addNumber lk_11_108 rfl rfl ob_2 ⟨_, rfl, rfl⟩ (Nat.le_of_ble_eq_true rfl) (by decide) ⟨by decide, by decide⟩ ?_
    refine zaload_n (k := 18) rfl rfl ?_
    refine zgF 0 (k := 19) rfl ob_1 fl_11_10 rfl fx_1_0 ?_
    refine ziload_n (k := 20) rfl rfl ?_
    refine zfV0 (k := 21) rfl (c_Tape_addNumber (by first | omega | (simp only [zab_4]; omega))) fm_Tape_addNumber lk_11_108 rfl rfl ob_2 ⟨_, rfl, rfl⟩ (Nat.le_of_ble_eq_true rfl) (by decide) ⟨by decide, by decide⟩ ?_
    refine zaload_n (k := 22) rfl rfl ?_
    refine zgF 0 (k := 23) rfl ob_1 fl_11_10 rfl fx_1_0 ?_
    refine ziload (k := 24) rfl rfl ?_
    refine zfV0 (k := 25) rfl (c_Tape_addNumber (by first | omega | (simp only [zab_4]; omega))) fm_Tape_addNumber lk_11_108 rfl rfl ob_2 ⟨_, rfl, rfl⟩ (Nat.le_of_ble_eq_true rfl) (by decide) ⟨by decide, by decide⟩ ?_
    refine zaload_n (k := 26) rfl rfl ?_
    refine zgF 0 (k := 27) rfl ob_1 fl_11_10 rfl fx_1_0 ?_
    refine ziload (k := 28) rfl rfl ?_
    refine zfV0 (k := 29) rfl (c_Tape_addNumber (by first | omega | (simp only [zab_4]; omega))) fm_Tape_addNumber lk_11_108 rfl rfl ob_2 ⟨_, rfl, rfl⟩ (Nat.le_of_ble_eq_true rfl) (by decide) ⟨by decide, by decide⟩ ?_
    refine zaload_n (k := 30) rfl rfl ?_
    refine zgF 0 (k := 31) rfl ob_1 fl_11_10 rfl fx_1_0 ?_
    refine zgI 1 (k := 32) rfl ob_2 fl_11_111 rfl fx_2_1 ?_
    rw [show zab (zab (zab (zab (zab σ 3 2 1 a 4) 3 2 1 b 4) 3 2 1 c 4) 3 2 1 d 4) 3 2 1 e 4 2 1 = σ 2 1 + 20 from fee_l σ a b c d e]
    refine zireturn (k := 33) rfl rfl rfl ?_
    rw [← hQ]
    exact ⟨rfl, _, rfl, Or.inl ⟨hr, rfl, rfl⟩⟩
  · skip
    refine zaload_n (k := 5) rfl rfl ?_
    refine ziconst (k := 6) rfl (by decide) ?_
    refine zfV0 (k := 7) rfl (c_NT_refuse (by omega)) fm_NT_refuse lk_11_104 rfl rfl ob_1 ⟨_, rfl, rfl⟩ (Nat.le_of_ble_eq_true rfl) (by decide) ⟨by decide, by decide⟩ ?_
    refine ziconst (k := 8) rfl (by decide) ?_
    refine zireturn (k := 9) rfl rfl rfl ?_
    rw [← hQ]
    exact ⟨rfl, _, rfl, Or.inr ⟨by omega, rfl, rfl⟩⟩
set_option maxHeartbeats 4000000 in
set_option maxRecDepth 20000 in
theorem c_NT_end {Γ : zv_M} {L : Int} {σ : zv_H} {n : Int} : zC Γ m_NT_end 2 0 0 (GM L) [zR 1, zI n] σ (zPI (GM L) (fun z σ' => ((0 ≤ n ∧ n ≤ σ 2 1) ∧ z = 1 ∧ σ' = zup σ 2 1 n) ∨ (¬ (0 ≤ n ∧ n ≤ σ 2 1) ∧ z = 0 ∧ σ' = rfu σ 0))) := by
  refine zC_of (ls0 := [_, _]) zm_NT_end (by decide) rfl (Nat.le_of_ble_eq_true rfl) ?_
  generalize hQ : (zPI (GM L) (fun z σ' => ((0 ≤ n ∧ n ≤ σ 2 1) ∧ z = 1 ∧ σ' = zup σ 2 1 n) ∨ (¬ (0 ≤ n ∧ n ≤ σ 2 1) ∧ z = 0 ∧ σ' = rfu σ 0))) = Q
  refine ziload_n (k := 0) rfl rfl ?_
  refine zif_lt (k := 1) rfl rfl (fun c1 => ?_) (fun c1 => ?_)
  · skip
    refine zaload_n (k := 7) rfl rfl ?_
    refine ziconst (k := 8) rfl (by decide) ?_
    refine zfV0 (k := 9) rfl (c_NT_refuse (by omega)) fm_NT_refuse lk_11_104 rfl rfl ob_1 ⟨_, rfl, rfl⟩ (Nat.le_of_ble_eq_true rfl) (by decide) ⟨by decide, by decide⟩ ?_
    refine ziconst (k := 10) rfl (by decide) ?_
    refine zzreturn (k := 11) rfl rfl (by first | exact Or.inl rfl | exact Or.inr rfl | omega) rfl ?_
    rw [← hQ]
    exact ⟨rfl, _, rfl, Or.inr ⟨by omega, rfl, rfl⟩⟩
  · skip
    refine ziload_n (k := 2) rfl rfl ?_
    refine zaload_n (k := 3) rfl rfl ?_
    refine zgF 0 (k := 4) rfl ob_1 fl_11_10 rfl fx_1_0 ?_
    refine zgI 1 (k := 5) rfl ob_2 fl_11_111 rfl fx_2_1 ?_
    refine zicmp_le (k := 6) rfl rfl (fun c2 => ?_) (fun c2 => ?_)
    · skip
      refine zaload_n (k := 12) rfl rfl ?_
      refine zgF 0 (k := 13) rfl ob_1 fl_11_10 rfl fx_1_0 ?_
      refine ziload_n (k := 14) rfl rfl ?_
      refine zpI 1 (k := 15) rfl ob_2 fl_11_111 ⟨_, rfl, rfl⟩ rfl (by omega) rfl fx_2_1 ?_
      refine ziconst (k := 16) rfl (by decide) ?_
      refine zzreturn (k := 17) rfl rfl (by first | exact Or.inl rfl | exact Or.inr rfl | omega) rfl ?_
      rw [← hQ]
      exact ⟨rfl, _, rfl, Or.inl ⟨by omega, rfl, rfl⟩⟩
    · skip
      refine zaload_n (k := 7) rfl rfl ?_
      refine ziconst (k := 8) rfl (by decide) ?_
      refine zfV0 (k := 9) rfl (c_NT_refuse (by omega)) fm_NT_refuse lk_11_104 rfl rfl ob_1 ⟨_, rfl, rfl⟩ (Nat.le_of_ble_eq_true rfl) (by decide) ⟨by decide, by decide⟩ ?_
      refine ziconst (k := 10) rfl (by decide) ?_
      refine zzreturn (k := 11) rfl rfl (by first | exact Or.inl rfl | exact Or.inr rfl | omega) rfl ?_
      rw [← hQ]
      exact ⟨rfl, _, rfl, Or.inr ⟨by omega, rfl, rfl⟩⟩
