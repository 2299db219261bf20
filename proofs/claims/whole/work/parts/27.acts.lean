/-! Acts -/
theorem aa_val {L : Int} {σ : zv_H} {k : Int} (h : 0 ≤ k ∧ k < 20) : zv_val (GM L) σ 63 k = 64 + 11 * k := by
  unfold zv_val
  rw [(st_acts (L := L) h.1 h.2).1]
  rfl
def actn (n : Int) : Int := 64 + 11 * n
theorem actn_st {n : Int} (h : 0 ≤ n ∧ n < 20) : actn n ∈ stL := (st_acts (L := 0) h.1 h.2).2
set_option maxHeartbeats 4000000 in
set_option maxRecDepth 20000 in
theorem c_Acts_forget {Γ : zv_M} {L : Int} {σ : zv_H} : zC Γ m_Acts_forget 0 0 0 (GM L) [zR 62] σ (zFn none (GM L) (zup σ 62 2 0)) := by
  refine zC_of (ls0 := [_]) zm_Acts_forget (by decide) rfl (Nat.le_of_ble_eq_true rfl) ?_
  generalize hQ : (zFn none (GM L) (zup σ 62 2 0)) = Q
  refine zaload_n (k := 0) rfl rfl ?_
  refine ziconst (k := 1) rfl (by decide) ?_
  refine zpI 2 (k := 2) rfl ob_62 fl_0_21 ⟨_, rfl, rfl⟩ rfl (by omega) rfl fx_62_2 ?_
  refine zreturn (k := 3) rfl rfl rfl ?_
  rw [← hQ]
  exact ⟨rfl, rfl, rfl⟩
set_option maxHeartbeats 4000000 in
set_option maxRecDepth 20000 in
theorem c_Acts_remember {Γ : zv_M} {L : Int} {σ S : zv_H} {n : Int} (hn : σ 62 1 = n) (hb : 0 ≤ n ∧ n < 20) (hc : 0 ≤ σ 62 2 ∧ σ 62 2 ≤ 20) (hS : vw 10 σ 30 = S) (hZ : SZ S) (hAZ : SZ (vw 10 σ (actn n))) : zC Γ m_Acts_remember 2 0 0 (GM L) [zR 62, zR 30] σ (zP0 (GM L) (fun σ' => vw 10 σ' (actn n) = S ∧ σ' 62 1 = (n + 1) % 20 ∧ σ' 62 2 = min 20 (σ 62 2 + 1) ∧ ∀ x k, ¬ (actn n ≤ x ∧ x ≤ actn n + 10) → ¬ (x = 62 ∧ (k = 1 ∨ k = 2)) → x ≠ 56 → x ≠ 57 → σ' x k = σ x k)) := by
  refine zC_of (ls0 := [_, _]) zm_Acts_remember (by decide) rfl (Nat.le_of_ble_eq_true rfl) ?_
  generalize hQ : (zP0 (GM L) (fun σ' => vw 10 σ' (actn n) = S ∧ σ' 62 1 = (n + 1) % 20 ∧ σ' 62 2 = min 20 (σ 62 2 + 1) ∧ ∀ x k, ¬ (actn n ≤ x ∧ x ≤ actn n + 10) → ¬ (x = 62 ∧ (k = 1 ∨ k = 2)) → x ≠ 56 → x ≠ 57 → σ' x k = σ x k)) = Q
  have hst : 64 + 11 * n ∈ stL := actn_st hb
  have hfar := st_far hst
  refine zaload_n (k := 0) rfl rfl ?_
  refine zgI 1 (k := 1) rfl ob_62 fl_0_17 rfl fx_62_1 ?_
  rw [hn]
  refine zif_lt (k := 2) rfl rfl (fun c1 => ?_) (fun c1 => ?_)
  · exfalso; omega
  refine zaload_n (k := 3) rfl rfl ?_
  refine zgI 1 (k := 4) rfl ob_62 fl_0_17 rfl fx_62_1 ?_
  rw [hn]
  refine zaload_n (k := 5) rfl rfl ?_
  refine zgF 0 (k := 6) rfl ob_62 fl_0_11 rfl fx_62_0 ?_
  refine zarraylength (k := 7) rfl sh_63 ?_
  refine zicmp_ge (k := 8) rfl rfl (fun c2 => ?_) (fun c2 => ?_)
  · exfalso; omega
  refine zaload_n (k := 9) rfl rfl ?_
  refine zgF 0 (k := 10) rfl ob_62 fl_0_11 rfl fx_62_0 ?_
  refine zaload_n (k := 11) rfl rfl ?_
  refine zgI 1 (k := 12) rfl ob_62 fl_0_17 rfl fx_62_1 ?_
  rw [hn]
  refine zaaload (k := 13) rfl sh_63 (by omega) (aa_val (by omega)) ?_
  refine zifnull (k := 14) rfl (Int.le_of_lt (st_pos hst)) ?_
  refine zaload_n (k := 15) rfl rfl ?_
  refine zgF 0 (k := 16) rfl ob_62 fl_0_11 rfl fx_62_0 ?_
  refine zaload_n (k := 17) rfl rfl ?_
  refine zgI 1 (k := 18) rfl ob_62 fl_0_17 rfl fx_62_1 ?_
  rw [hn]
  refine zaaload (k := 19) rfl sh_63 (by omega) (aa_val (by omega)) ?_
  refine zaload_n (k := 20) rfl rfl ?_
  refine zpV0 (k := 21) rfl (k_copy hst (by decide) (by omega) hAZ hS hZ) fm_State_copy lk_0_25 rfl rfl (st_ob hst) ⟨_, rfl, rfl⟩ (Nat.le_of_ble_eq_true rfl) (by decide) ⟨by decide, by decide⟩ (fun σ1 h0 => ?_)
  refine zaload_n (k := 22) rfl rfl ?_
  refine zaload_n (k := 23) rfl rfl ?_
  refine zgI 1 (k := 24) rfl ob_62 fl_0_17 rfl fx_62_1 ?_
  rw [h0.2 62 1 (by omega) (by omega) (by omega), hn]
  refine ziconst (k := 25) rfl (by decide) ?_
  refine ziaddB (k := 26) rfl (by omega) ?_
  refine zbipush (k := 27) rfl rfl ?_
  refine ziremP (k := 28) rfl (by omega) ?_
  refine zpI 1 (k := 29) rfl ob_62 fl_0_17 ⟨_, rfl, rfl⟩ rfl (by omega) rfl fx_62_1 ?_
  refine zaload_n (k := 30) rfl rfl ?_
  refine zbipush (k := 31) rfl rfl ?_
  refine zaload_n (k := 32) rfl rfl ?_
  refine zgI 2 (k := 33) rfl ob_62 fl_0_21 rfl fx_62_2 ?_
  rw [zup_n (by omega), h0.2 62 2 (by omega) (by omega) (by omega)]
  refine ziconst (k := 34) rfl (by decide) ?_
  refine ziaddB (k := 35) rfl (by omega) ?_
  refine zfS1 (k := 36) rfl c_J_minI fm_J_minI lk_0_29 rfl rfl (Nat.le_of_ble_eq_true rfl) (by decide) ⟨by decide, by decide⟩ ?_
  refine zpI 2 (k := 37) rfl ob_62 fl_0_21 ⟨_, rfl, rfl⟩ rfl (by omega) rfl fx_62_2 ?_
  refine zreturn (k := 38) rfl rfl rfl ?_
  rw [← hQ]
  refine ⟨rfl, rfl, ?_, ?_, ?_, ?_⟩
  · rw [← h0.1]
    exact vw_eq (fun x k h1 h2 => by unfold actn at *; rw [zup_n (by omega), zup_n (by omega)]) (by omega)
  · rw [zup_n (by omega), zup_s]
  · rw [zup_s]
  · intro x k h1 h2 h3 h4
    unfold actn at *
    rw [zup_n (by omega), zup_n (by omega)]
    exact h0.2 x k (by omega) h3 h4
set_option maxHeartbeats 4000000 in
set_option maxRecDepth 20000 in
theorem c_Acts_takeBack {Γ : zv_M} {L : Int} {σ : zv_H} {n : Int} (hn : σ 62 1 = n) (hb : 0 ≤ n ∧ n < 20) (hc : 0 ≤ σ 62 2 ∧ σ 62 2 ≤ 20) (hZ : SZ (vw 10 σ (actn ((n + 20 - 1) % 20)))) (hAZ : SZ (vw 10 σ 30)) : zC Γ m_Acts_takeBack 2 0 0 (GM L) [zR 62, zR 30] σ (zPI (GM L) (fun z σ' => (σ 62 2 = 0 ∧ z = 0 ∧ σ' = σ) ∨ (0 < σ 62 2 ∧ z = 1 ∧ vw 10 σ' 30 = vw 10 σ (actn ((n + 20 - 1) % 20)) ∧ σ' 62 1 = (n + 20 - 1) % 20 ∧ σ' 62 2 = σ 62 2 - 1 ∧ ∀ x k, ¬ (30 ≤ x ∧ x ≤ 40) → ¬ (x = 62 ∧ (k = 1 ∨ k = 2)) → x ≠ 56 → x ≠ 57 → σ' x k = σ x k))) := by
  refine zC_of (ls0 := [_, _]) zm_Acts_takeBack (by decide) rfl (Nat.le_of_ble_eq_true rfl) ?_
  generalize hQ : (zPI (GM L) (fun z σ' => (σ 62 2 = 0 ∧ z = 0 ∧ σ' = σ) ∨ (0 < σ 62 2 ∧ z = 1 ∧ vw 10 σ' 30 = vw 10 σ (actn ((n + 20 - 1) % 20)) ∧ σ' 62 1 = (n + 20 - 1) % 20 ∧ σ' 62 2 = σ 62 2 - 1 ∧ ∀ x k, ¬ (30 ≤ x ∧ x ≤ 40) → ¬ (x = 62 ∧ (k = 1 ∨ k = 2)) → x ≠ 56 → x ≠ 57 → σ' x k = σ x k))) = Q
  have hst : 64 + 11 * ((n + 20 - 1) % 20) ∈ stL := actn_st (by omega)
  have hfar := st_far hst
  refine zaload_n (k := 0) rfl rfl ?_
  refine zgI 2 (k := 1) rfl ob_62 fl_0_21 rfl fx_62_2 ?_
  refine zif_ne (k := 2) rfl rfl (fun c1 => ?_) (fun c1 => ?_)
  · skip
    refine zaload_n (k := 5) rfl rfl ?_
    refine zaload_n (k := 6) rfl rfl ?_
    refine zgI 1 (k := 7) rfl ob_62 fl_0_17 rfl fx_62_1 ?_
    rw [hn]
    refine zbipush (k := 8) rfl rfl ?_
    refine ziaddB (k := 9) rfl (by omega) ?_
    refine ziconst (k := 10) rfl (by decide) ?_
    refine zisubB (k := 11) rfl (by omega) ?_
    refine zbipush (k := 12) rfl rfl ?_
    refine ziremP (k := 13) rfl (by omega) ?_
    refine zpI 1 (k := 14) rfl ob_62 fl_0_17 ⟨_, rfl, rfl⟩ rfl (by omega) rfl fx_62_1 ?_
    refine zaload_n (k := 15) rfl rfl ?_
    refine zdup (k := 16) rfl rfl ?_
    refine zgI 2 (k := 17) rfl ob_62 fl_0_21 rfl fx_62_2 ?_
    rw [zup_n (by omega)]
    refine ziconst (k := 18) rfl (by decide) ?_
    refine zisubB (k := 19) rfl (by omega) ?_
    refine zpI 2 (k := 20) rfl ob_62 fl_0_21 ⟨_, rfl, rfl⟩ rfl (by omega) rfl fx_62_2 ?_
    refine zaload_n (k := 21) rfl rfl ?_
    refine zgI 1 (k := 22) rfl ob_62 fl_0_17 rfl fx_62_1 ?_
    rw [zup_n (by omega), zup_s]
    refine zif_lt (k := 23) rfl rfl (fun c2 => ?_) (fun c2 => ?_)
    · exfalso; omega
    refine zaload_n (k := 24) rfl rfl ?_
    refine zgI 1 (k := 25) rfl ob_62 fl_0_17 rfl fx_62_1 ?_
    rw [zup_n (by omega), zup_s]
    refine zaload_n (k := 26) rfl rfl ?_
    refine zgF 0 (k := 27) rfl ob_62 fl_0_11 rfl fx_62_0 ?_
    refine zarraylength (k := 28) rfl sh_63 ?_
    refine zicmp_ge (k := 29) rfl rfl (fun c3 => ?_) (fun c3 => ?_)
    · exfalso; omega
    refine zaload_n (k := 30) rfl rfl ?_
    refine zgF 0 (k := 31) rfl ob_62 fl_0_11 rfl fx_62_0 ?_
    refine zaload_n (k := 32) rfl rfl ?_
    refine zgI 1 (k := 33) rfl ob_62 fl_0_17 rfl fx_62_1 ?_
    rw [zup_n (by omega), zup_s]
    refine zaaload (k := 34) rfl sh_63 (by omega) (aa_val (by omega)) ?_
    refine zifnull (k := 35) rfl (Int.le_of_lt (st_pos hst)) ?_
    refine zaload_n (k := 36) rfl rfl ?_
    refine zaload_n (k := 37) rfl rfl ?_
    refine zgF 0 (k := 38) rfl ob_62 fl_0_11 rfl fx_62_0 ?_
    refine zaload_n (k := 39) rfl rfl ?_
    refine zgI 1 (k := 40) rfl ob_62 fl_0_17 rfl fx_62_1 ?_
    rw [zup_n (by omega), zup_s]
    refine zaaload (k := 41) rfl sh_63 (by omega) (aa_val (by omega)) ?_
    refine zpV0 (k := 42) rfl (k_copy (σ := zup (zup σ 62 1 ((n + 20 - 1) % 20)) 62 2 (σ 62 2 - 1)) (by decide) hst (by omega) (by rw [vw_eq (σ := σ) (fun x k h1 h2 => by rw [zup_n (by omega), zup_n (by omega)]) (by omega)]; exact hAZ) (vw_eq (σ := σ) (fun x k h1 h2 => by rw [zup_n (by omega), zup_n (by omega)]) (by omega)) hZ) fm_State_copy lk_0_25 rfl rfl ob_30 ⟨_, rfl, rfl⟩ (Nat.le_of_ble_eq_true rfl) (by decide) ⟨by decide, by decide⟩ (fun σ1 h0 => ?_)
    refine ziconst (k := 43) rfl (by decide) ?_
    refine zzreturn (k := 44) rfl rfl (by first | exact Or.inl rfl | exact Or.inr rfl | omega) rfl ?_
    rw [← hQ]
    refine ⟨rfl, _, rfl, Or.inr ⟨by omega, rfl, h0.1, ?_, ?_, ?_⟩⟩
    · rw [h0.2 62 1 (by omega) (by omega) (by omega), zup_n (by omega), zup_s]
    · rw [h0.2 62 2 (by omega) (by omega) (by omega), zup_s]
    · intro x k h1 h2 h3 h4
      rw [h0.2 x k (by omega) h3 h4, zup_n (by omega), zup_n (by omega)]
  · skip
    refine ziconst (k := 3) rfl (by decide) ?_
    refine zzreturn (k := 4) rfl rfl (by first | exact Or.inl rfl | exact Or.inr rfl | omega) rfl ?_
    rw [← hQ]
    exact ⟨rfl, _, rfl, Or.inl ⟨by omega, rfl, rfl⟩⟩
