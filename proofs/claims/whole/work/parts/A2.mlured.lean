set_option maxHeartbeats 4000000 in
set_option maxRecDepth 20000 in
theorem c_M_lured {Γ : zv_M} {L : Int} {σ Wm S : zv_H} {b : Int} (hb1 : b = 0 ∨ b = 1) (h0 : stM σ σ b 0 Wm S) (hSI : SI (Wm 0 1) (Wm 0 3) S) (hWI : WI Wm) {m c : Int}  : zC Γ m_M_lured 8 0 0 (GM L) [zR 289, zI m, zI c] σ (zPI (GM L) (fun z σ' => lurM Wm S m c z ∧ scrM σ σ')) := by
  refine zC_of (ls0 := [_, _, _, _]) zm_M_lured (by decide) rfl (Nat.le_of_ble_eq_true rfl) ?_
  generalize hQ : (zPI (GM L) (fun z σ' => lurM Wm S m c z ∧ scrM σ σ')) = Q
  have hb := h0.2.2.1
  have w1 := hWI.1
  have w3 := hWI.2.2.1
  have r0 := rM_0 h0.1
  have b00 := hSI.1
  have b12 := hSI.2.2.1
  have bc := hSI.2.2.2.1
  have bm := hSI.2.2.2.2.1
  have bl := hSI.2.2.2.2.2.1
  refine zaload_n (k := 0) rfl rfl ?_
  refine ziload_n (k := 1) rfl rfl ?_
  refine zfV1 (k := 2) rfl (c_M_isMan hb hb1) fm_M_isMan lk_12_495 rfl rfl ob_289 ⟨_, rfl, rfl⟩ (Nat.le_of_ble_eq_true rfl) (by decide) ⟨by decide, by decide⟩ ?_
  rw [h0.2.1.1.2.2.1]
  refine zif_eq (k := 3) rfl rfl (fun c1 => ?_) (fun c1 => ?_)
  · skip
    refine ziconst (k := 19) rfl (by decide) ?_
    refine zireturn (k := 20) rfl rfl rfl ?_
    rw [← hQ]
    refine ⟨rfl, _, rfl, ?_, scrM_rf σ⟩
    unfold lurM
    rw [if_pos (by omega)]
  · skip
    have hmm : 0 ≤ m ∧ m < Wm 0 3 := by split at c1 <;> first | assumption | (exfalso; omega)
    have rm := r0.2.2.1 m hmm.1 hmm.2
    refine zaload_n (k := 4) rfl rfl ?_
    refine ziload_n (k := 5) rfl rfl ?_
    refine zfV1 (k := 6) rfl (c_M_isCounty hb hb1) fm_M_isCounty lk_12_492 rfl rfl ob_289 ⟨_, rfl, rfl⟩ (Nat.le_of_ble_eq_true rfl) (by decide) ⟨by decide, by decide⟩ ?_
    rw [h0.2.1.1.1]
    refine zif_eq (k := 7) rfl rfl (fun c2 => ?_) (fun c2 => ?_)
    · skip
      refine ziconst (k := 19) rfl (by decide) ?_
      refine zireturn (k := 20) rfl rfl rfl ?_
      rw [← hQ]
      refine ⟨rfl, _, rfl, ?_, scrM_rf σ⟩
      unfold lurM
      rw [if_pos (by omega)]
    · skip
      have hcc : 0 ≤ c ∧ c < Wm 0 1 := by split at c2 <;> first | assumption | (exfalso; omega)
      have rc := r0.2.1 c hcc.1 hcc.2
      refine zaload_n (k := 8) rfl rfl ?_
      refine zgF 50 (k := 9) rfl ob_289 fl_12_165 rfl fx_289_50 ?_
      refine ziload_n (k := 10) rfl rfl ?_
      refine ziaload (k := 11) rfl ar_320 ⟨by omega, by omega⟩ ?_
      rw [rm.2.1]
      refine zif_ne (k := 12) rfl rfl (fun c3 => ?_) (fun c3 => ?_)
      · skip
        refine ziconst (k := 19) rfl (by decide) ?_
        refine zireturn (k := 20) rfl rfl rfl ?_
        rw [← hQ]
        refine ⟨rfl, _, rfl, ?_, scrM_rf σ⟩
        unfold lurM
        rw [if_pos (by omega)]
      · skip
        refine zaload_n (k := 13) rfl rfl ?_
        refine zgF 49 (k := 14) rfl ob_289 fl_12_162 rfl fx_289_49 ?_
        refine ziload_n (k := 15) rfl rfl ?_
        refine ziaload (k := 16) rfl ar_319 ⟨by omega, by omega⟩ ?_
        rw [rm.1]
        refine ziload_n (k := 17) rfl rfl ?_
        refine zicmp_ne (k := 18) rfl rfl (fun c4 => ?_) (fun c4 => ?_)
        · skip
          refine zaload_n (k := 21) rfl rfl ?_
          refine ziconst (k := 22) rfl (by decide) ?_
          refine ziconst (k := 23) rfl (by decide) ?_
          refine zpV0 (k := 24) rfl (k_mcopy (t := 1) (f := 0) ⟨by omega, by omega⟩ ⟨by omega, by omega⟩ (by omega) h0.1 h0.2.1 hb hWI b12) fm_M_copies lk_12_420 rfl rfl ob_289 ⟨_, rfl, rfl⟩ (Nat.le_of_ble_eq_true rfl) (by decide) ⟨by decide, by decide⟩ (fun σ1 h1 => ?_)
          have h1e : stM (zup σ 289 62 (σ 289 62)) σ1 b 1 Wm S := by rw [zup_id rfl]; exact h1
          refine ziconst (k := 25) rfl (by decide) ?_
          refine zistore_n (k := 26) (ls' := [_, _, _, _]) rfl (Nat.le_of_ble_eq_true rfl) rfl ?_
          have lp45 : ∀ (g : Nat) (j : Nat) (p : Int) (σ1 : zv_H), (1000 - j) < g → (j ≤ 1000) → (stM σ σ1 b 1 Wm (zup S 2 c p)) → (∀ q : Int, 0 ≤ q → q < j → nxtF Wm (zup S 2 c q) m ≠ c) → zV Γ m_M_lured 8 0 0 Q (GM L) (0, 0) 45 [some (zR 289), some (zI m), some (zI c), some (zI j)] [] σ1 := by
            intro g
            induction g with
            | zero => intro j p σ1 hg; exact absurd hg (Nat.not_lt_zero _)
            | succ g ih45 =>
              intro j p σ1 hg hj h0 hf
              refine ziload_n (k := 27) rfl rfl ?_
              refine zsipush (k := 28) rfl rfl ?_
              refine zicmp_gt (k := 29) rfl rfl (fun c5 => ?_) (fun c5 => ?_)
              · skip
                refine ziconst (k := 47) rfl (by decide) ?_
                refine zireturn (k := 48) rfl rfl rfl ?_
                rw [← hQ]
                refine ⟨rfl, _, rfl, ?_, scrM_s0 h0⟩
                unfold lurM
                rw [if_neg (by omega)]
                exact Or.inl ⟨rfl, fun q q1 q2 => hf q q1 (by omega)⟩
              · skip
                refine zaload_n (k := 30) rfl rfl ?_
                refine zgF 47 (k := 31) rfl ob_289 fl_12_156 rfl fx_289_47 ?_
                refine zbipush (k := 32) rfl rfl ?_
                refine ziload_n (k := 33) rfl rfl ?_
                refine ziaddB (k := 34) rfl (by omega) ?_
                refine ziload_n (k := 35) rfl rfl ?_
                refine ziastore (k := 36) rfl ar_317 ⟨by omega, by omega⟩ (by omega) ?_
                have h9 := stM_p (x := (j : Int)) h0 ⟨hcc.1, by omega⟩ w1.2
                clear h0
                have h0 := h9
                clear h9
                refine zaload_n (k := 37) rfl rfl ?_
                refine ziconst (k := 38) rfl (by decide) ?_
                refine ziload_n (k := 39) rfl rfl ?_
                refine zpVI (k := 40) rfl (c_M_nextOf hb1 ⟨by omega, by omega⟩ h0 (SI_p hSI ⟨by omega, by omega⟩) hWI hmm) fm_M_nextOf lk_12_456 rfl rfl ob_289 ⟨_, rfl, rfl⟩ (Nat.le_of_ble_eq_true rfl) (by decide) ⟨by decide, by decide⟩ (fun z σ2 h2 => ?_)
                clear h0
                have h0 := h2.2
                rw [h2.1]
                refine ziload_n (k := 41) rfl rfl ?_
                refine zicmp_ne (k := 42) rfl rfl (fun c6 => ?_) (fun c6 => ?_)
                · skip
                  refine ziincB (k := 45) (ls' := [_, _, _, _]) rfl rfl (by decide) (by omega) rfl ?_
                  refine zgoto (k := 46) rfl rfl ?_
                  refine ih45 (j + 1) _ _ (by omega) (by omega) h0 (fun q q1 q2 => ?_)
                  by_cases e : q = j
                  · rw [e]; assumption
                  · exact hf q q1 (by omega)
                · skip
                  refine ziload_n (k := 43) rfl rfl ?_
                  refine zireturn (k := 44) rfl rfl rfl ?_
                  rw [← hQ]
                  refine ⟨rfl, _, rfl, ?_, scrM_s0 h0⟩
                  unfold lurM
                  rw [if_neg (by omega)]
                  exact Or.inr ⟨⟨by omega, by omega⟩, by assumption, hf⟩
          exact lp45 _ 0 (S 2 c) _ (Nat.lt_succ_self _) (by omega) (by rw [zup_id rfl]; exact h1) (fun q q1 q2 => by omega)
        · skip
          refine ziconst (k := 19) rfl (by decide) ?_
          refine zireturn (k := 20) rfl rfl rfl ?_
          rw [← hQ]
          refine ⟨rfl, _, rfl, ?_, scrM_rf σ⟩
          unfold lurM
          rw [if_pos (by omega)]
