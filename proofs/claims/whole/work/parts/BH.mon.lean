set_option maxHeartbeats 4000000 in
set_option maxRecDepth 20000 in
theorem c_M_on {Γ : zv_M} {L : Int} {σ Wm S : zv_H} {b : Int} (hb1_q : b = 0 ∨ b = 1) (h0_q : stM σ σ b 0 Wm S) (hSI : SI (Wm 0 1) (Wm 0 3) S) (hWI : WI Wm) {T : Int → Int} {n : Int} {A : zv_H} (hn : σ 289 1 = n) (hnb : 0 ≤ n ∧ n ≤ 1600) (hT : ∀ k, 0 ≤ k → k < n → σ 290 k = T k ∧ 0 ≤ T k ∧ T k ≤ 255)  : zC Γ m_M_on 3 0 0 (GM L) [zR 289] σ (zPI (GM L) (fun z σ' => (z = 0 ∧ ¬ okA T Wm n ∧ ∃ σ1, only1 (zup σ 289 1 0) σ1 ∧ σ' = rfM σ1 5) ∨ (z = 1 ∧ okA T Wm n ∧ stM σ' σ' b 0 Wm (rdA T Wm (sttF Wm A)) ∧ σ' 289 58 = 0 ∧ σ' 289 1 = 0 ∧ ∀ x k, ¬ (315 ≤ x ∧ x ≤ 328) → ¬ (x = 289 ∧ (k = 1 ∨ k = 58)) → σ' x k = σ x k))) := by
  refine zC_of (ls0 := [_, _]) zm_M_on (by decide) rfl (Nat.le_of_ble_eq_true rfl) ?_
  generalize hQ : (zPI (GM L) (fun z σ' => (z = 0 ∧ ¬ okA T Wm n ∧ ∃ σ1, only1 (zup σ 289 1 0) σ1 ∧ σ' = rfM σ1 5) ∨ (z = 1 ∧ okA T Wm n ∧ stM σ' σ' b 0 Wm (rdA T Wm (sttF Wm A)) ∧ σ' 289 58 = 0 ∧ σ' 289 1 = 0 ∧ ∀ x k, ¬ (315 ≤ x ∧ x ≤ 328) → ¬ (x = 289 ∧ (k = 1 ∨ k = 58)) → σ' x k = σ x k))) = Q
  have hb := h0_q.2.2.1
  have w1_q := hWI.1
  have w3_q := hWI.2.2.1
  have r0_q := rM_0 h0_q.1
  have b00_q := hSI.1
  have b12_q := hSI.2.2.1
  have bc := hSI.2.2.2.1
  have bm := hSI.2.2.2.2.1
  have bl := hSI.2.2.2.2.2.1
  refine zaload_n (k := 0) rfl rfl ?_
  refine zgI 1 (k := 1) rfl ob_289 fl_12_13 rfl fx_289_1 ?_
  rw [hn]
  refine zistore_n (k := 2) (ls' := [_, _]) rfl (Nat.le_of_ble_eq_true rfl) rfl ?_
  refine zaload_n (k := 3) rfl rfl ?_
  refine ziconst (k := 4) rfl (by decide) ?_
  refine zpI 1 (k := 5) rfl ob_289 fl_12_13 ⟨_, rfl, rfl⟩ rfl (by omega) rfl fx_289_1 ?_
  have g0_q : stM (zup σ 289 1 0) (zup σ 289 1 0) b 0 Wm S := ⟨rM_x h0_q.1 (fun x k q1_q q2_q => zup_n (by omega)), wM_fr h0_q.2.1 (fun x k q1_q q2_q => zup_n (by omega)), by rw [zup_n (by omega)]; exact hb, fun _ _ _ _ _ => rfl⟩
  refine zaload_n (k := 6) rfl rfl ?_
  refine ziload_n (k := 7) rfl rfl ?_
  refine zpVI (k := 8) rfl (c_M_comesOn (A := A) hb1_q g0_q hSI hWI hnb (fun k q1_q q2_q => by rw [zup_n (by omega)]; exact hT k q1_q q2_q)) fm_M_comesOn lk_12_554 rfl rfl ob_289 ⟨_, rfl, rfl⟩ (Nat.le_of_ble_eq_true rfl) (by decide) ⟨by decide, by decide⟩ (fun z σ2 h2_q => ?_)
  refine zif_ne (k := 9) rfl rfl (fun c1_q => ?_) (fun c1_q => ?_)
  · skip
    obtain ⟨z1_q, ok, s1_q⟩ : z = 1 ∧ okA T Wm n ∧ stM (zup σ 289 1 0) σ2 b 1 Wm (rdA T Wm (sttF Wm A)) := by
      rcases h2_q with q | q
      · exact absurd q.1 (by assumption)
      · exact q
    refine zaload_n (k := 18) rfl rfl ?_
    refine ziconst (k := 19) rfl (by decide) ?_
    refine ziconst (k := 20) rfl (by decide) ?_
    refine zpV0 (k := 21) rfl (k_mcopy (t := 0) (f := 1) ⟨by omega, by omega⟩ ⟨by omega, by omega⟩ (by omega) s1_q.1 s1_q.2.1 s1_q.2.2.1 hWI (by rw [rdA_12]; omega)) fm_M_copies lk_12_420 rfl rfl ob_289 ⟨_, rfl, rfl⟩ (Nat.le_of_ble_eq_true rfl) (by decide) ⟨by decide, by decide⟩ (fun σ3 h3_q => ?_)
    refine zaload_n (k := 22) rfl rfl ?_
    refine ziconst (k := 23) rfl (by decide) ?_
    refine zpI 58 (k := 24) rfl ob_289 fl_12_189 ⟨_, rfl, rfl⟩ rfl (by omega) rfl fx_289_58 ?_
    refine ziconst (k := 25) rfl (by decide) ?_
    refine zzreturn (k := 26) rfl rfl (by first | exact Or.inl rfl | exact Or.inr rfl | omega) rfl ?_
    rw [← hQ]
    have fr : ∀ x k, ¬ (315 ≤ x ∧ x ≤ 328) → σ3 x k = zup σ 289 1 0 x k := fun x k q => by
      rw [h3_q.2.2.2 x k (by unfold inV; omega) (by omega) (by omega)]
      exact s1_q.2.2.2 x k (by unfold inV; omega) (by omega) (by omega)
    exact ⟨rfl, _, rfl, Or.inr ⟨rfl, ok, ⟨rM_x h3_q.1 (fun x k q1_q q2_q => zup_n (by omega)), wM_fr h3_q.2.1 (fun x k q1_q q2_q => zup_n (by omega)), by rw [zup_n (by omega)]; exact h3_q.2.2.1, fun _ _ _ _ _ => rfl⟩, by rw [zup_s], by rw [zup_n (by omega), fr 289 1 (by omega), zup_s], fun x k q1_q q2_q => by rw [zup_n (by omega), fr x k q1_q, zup_n (by omega)]⟩⟩
  · skip
    refine zaload_n (k := 10) rfl rfl ?_
    refine ziconst (k := 11) rfl (by decide) ?_
    refine zfV1 (k := 12) rfl (c_M_refuses (by omega)) fm_M_refuses lk_12_231 rfl rfl ob_289 ⟨_, rfl, rfl⟩ (Nat.le_of_ble_eq_true rfl) (by decide) ⟨by decide, by decide⟩ ?_
    refine zif_lt (k := 13) rfl rfl (fun c2_q => ?_) (fun c2_q => ?_)
    · skip
      refine ziconst (k := 16) rfl (by decide) ?_
      refine zzreturn (k := 17) rfl rfl (by first | exact Or.inl rfl | exact Or.inr rfl | omega) rfl ?_
      rw [← hQ]
      first
      | (exfalso; omega)
      | (rcases h2_q with q | q
         · exact ⟨rfl, _, rfl, Or.inl ⟨rfl, q.2.1, σ2, q.2.2, rfl⟩⟩
         · exfalso; have q1_q := q.1; omega)
    · skip
      refine ziconst (k := 14) rfl (by decide) ?_
      refine zgoto (k := 15) rfl rfl ?_
      refine zzreturn (k := 17) rfl rfl (by first | exact Or.inl rfl | exact Or.inr rfl | omega) rfl ?_
      rw [← hQ]
      first
      | (exfalso; omega)
      | (rcases h2_q with q | q
         · exact ⟨rfl, _, rfl, Or.inl ⟨rfl, q.2.1, σ2, q.2.2, rfl⟩⟩
         · exfalso; have q1_q := q.1; omega)
