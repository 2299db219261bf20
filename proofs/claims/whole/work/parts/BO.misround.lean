theorem stM_fr {σ σ1 Wm S : zv_H} {b : Int} (h : stM σ σ b 0 Wm S) (f : ∀ x k, x ≠ 329 → x ≠ 330 → x ≠ 331 → ¬ (x = 289 ∧ k = 66) → σ1 x k = σ x k) : stM σ1 σ1 b 0 Wm S := ⟨rM_x h.1 (fun x k q1_q q2_q => f x k (by omega) (by omega) (by omega) (by omega)), wM_fr h.2.1 (fun x k q1_q q2_q => f x k (by omega) (by omega) (by omega) (by omega)), by rw [f 289 13 (by omega) (by omega) (by omega) (by omega)]; exact h.2.2.1, fun _ _ _ _ _ => rfl⟩
theorem vOK_s {Wm S : zv_H} {m : Int} {R : Int → Int} (i : Nat) : vOK Wm S m (pL Wm S m R (i + 1)) = (vOK Wm S m (pL Wm S m R i) ∧ (0 ≤ R i ∧ R i < Wm 0 1) ∧ cmA Wm S m (pL Wm S m R i) (R i) = cmA Wm S m (pL Wm S m R i) (R i) ∧ cmA Wm S m (pL Wm S m R i) (R i) ≠ -1 ∧ canP Wm S m (pL Wm S m R i) (R i) (cmA Wm S m (pL Wm S m R i) (R i))) := rfl
theorem vOK_no {Wm S : zv_H} {m : Int} {R : Int → Int} {i n : Nat} (hi : i < n) (h : ¬ (cmA Wm S m (pL Wm S m R i) (R i) ≠ -1 ∧ canP Wm S m (pL Wm S m R i) (R i) (cmA Wm S m (pL Wm S m R i) (R i)))) : ¬ vOK Wm S m (pL Wm S m R n) := fun q => by
  have q2_q := pL_le (n := i + 1) (n - (i + 1)) (by rw [show i + 1 + (n - (i + 1)) = n by omega]; exact q)
  rw [vOK_s] at q2_q
  exact h ⟨q2_q.2.2.2.1, q2_q.2.2.2.2⟩
theorem cmA_60 {Wm S : zv_H} {m : Int} (hW : WI Wm) {R : Int → Int} : ∀ i : Nat, -1 ≤ cmA Wm S m (pL Wm S m R i) (R i) ∧ cmA Wm S m (pL Wm S m R i) (R i) ≤ 60 * i + 54
  | 0 => by
    have := dst_b hW (S 4 m) (R ((0 : Nat) : Int))
    show -1 ≤ dstF Wm (S 4 m) (R ((0 : Nat) : Int)) ∧ dstF Wm (S 4 m) (R ((0 : Nat) : Int)) ≤ 60 * ((0 : Nat) : Int) + 54
    omega
  | i + 1 => by
    have ih := cmA_60 (S := S) (m := m) hW (R := R) i
    have db := dst_b hW (R i) (R ((i + 1 : Nat) : Int))
    have e : cmA Wm S m (pL Wm S m R (i + 1)) (R ((i + 1 : Nat) : Int)) = if dstF Wm (R i) (R ((i + 1 : Nat) : Int)) = -1 then -1 else cmA Wm S m (pL Wm S m R i) (R i) + 1 + dstF Wm (R i) (R ((i + 1 : Nat) : Int)) := rfl
    rw [e]
    split <;> omega
set_option maxHeartbeats 4000000 in
set_option maxRecDepth 20000 in
theorem c_M_isRound {Γ : zv_M} {L : Int} {σ Wm S : zv_H} {b : Int} (hb1_q : b = 0 ∨ b = 1) (h0_q : stM σ σ b 0 Wm S) (hSI : SI (Wm 0 1) (Wm 0 3) S) (hWI : WI Wm) (hT : WT Wm) {m : Int} (hm : 0 ≤ m ∧ m < Wm 0 3) {n : Nat} (hn : 1 ≤ n ∧ n ≤ 4) (hR : ∀ i : Nat, i < n → 0 ≤ σ 329 i ∧ σ 329 i < Wm 0 1)  : zC Γ m_M_isRound 2 0 0 (GM L) [zR 289, zI m, zI n] σ (zPI (GM L) (fun z σ' => (∀ x k, x ≠ 330 → σ' x k = σ x k) ∧ ((z = 1 ∧ vOK Wm S m (pL Wm S m (σ 329) n) ∧ ∀ j : Nat, j < n → σ' 330 j = cmA Wm S m (pL Wm S m (σ 329) j) (σ 329 j)) ∨ (z = 0 ∧ ¬ vOK Wm S m (pL Wm S m (σ 329) n))))) := by
  refine zC_of (ls0 := [_, _, _, _, _, _, _]) zm_M_isRound (by decide) rfl (Nat.le_of_ble_eq_true rfl) ?_
  generalize hQ : (zPI (GM L) (fun z σ' => (∀ x k, x ≠ 330 → σ' x k = σ x k) ∧ ((z = 1 ∧ vOK Wm S m (pL Wm S m (σ 329) n) ∧ ∀ j : Nat, j < n → σ' 330 j = cmA Wm S m (pL Wm S m (σ 329) j) (σ 329 j)) ∨ (z = 0 ∧ ¬ vOK Wm S m (pL Wm S m (σ 329) n))))) = Q
  have hb := h0_q.2.2.1
  have w1_q := hWI.1
  have w3_q := hWI.2.2.1
  have r0_q := rM_0 h0_q.1
  have b00_q := hSI.1
  have b12_q := hSI.2.2.1
  have bc := hSI.2.2.2.1
  have bm := hSI.2.2.2.2.1
  have bl := hSI.2.2.2.2.2.1
  have bmm := bm m hm.1 hm.2
  have g0_q := h0_q
  have w4_q := hWI.2.2.2.1
  refine ziconst (k := 0) rfl (by decide) ?_
  refine zistore_n (k := 1) (ls' := [_, _, _, _, _, _, _]) rfl (Nat.le_of_ble_eq_true rfl) rfl ?_
  have lp2_q : ∀ (g : Nat) (i : Nat) (σ1 : zv_H), (n - i) < g → (i ≤ n) → (∀ x k, x ≠ 330 → σ1 x k = σ x k) → (vOK Wm S m (pL Wm S m (σ 329) i)) → (∀ j : Nat, j < i → σ1 330 j = cmA Wm S m (pL Wm S m (σ 329) j) (σ 329 j)) → zV Γ m_M_isRound 2 0 0 Q (GM L) (0, 0) 2 [some (zR 289), some (zI m), some (zI n), some (zI i), none, none, none] [] σ1 := by
    intro g
    induction g with
    | zero => intro i σ1 hg; exact absurd hg (Nat.not_lt_zero _)
    | succ g ih2_q =>
      intro i σ1 hg hi f1_q hv hc
      have s1_q : stM σ1 σ1 b 0 Wm S := stM_fr g0_q (fun x k q1_q q2_q q3_q q4_q => f1_q x k q2_q)
      refine ziload_n (k := 2) rfl rfl ?_
      refine ziload_n (k := 3) rfl rfl ?_
      refine zicmp_ge (k := 4) rfl rfl (fun c1_q => ?_) (fun c1_q => ?_)
      · skip
        refine ziconst (k := 132) rfl (by decide) ?_
        refine zzreturn (k := 133) rfl rfl (by first | exact Or.inl rfl | exact Or.inr rfl | omega) rfl ?_
        rw [← hQ]
        rw [show i = n by omega] at hv hc
        exact ⟨rfl, _, rfl, f1_q, Or.inl ⟨rfl, hv, hc⟩⟩
      · skip
        refine zaload_n (k := 5) rfl rfl ?_
        refine zgF 63 (k := 6) rfl ob_289 fl_12_204 rfl fx_289_63 ?_
        refine ziload_n (k := 7) rfl rfl ?_
        refine ziaload (k := 8) rfl ar_329 ⟨by omega, by omega⟩ ?_
        rw [f1_q 329 _ (by omega)]
        have ri := hR i (by omega)
        refine zistore (k := 9) (ls' := [_, _, _, _, _, _, _]) rfl (Nat.le_of_ble_eq_true rfl) rfl ?_
        refine zaload_n (k := 10) rfl rfl ?_
        refine ziload_n (k := 11) rfl rfl ?_
        refine zif_ne (k := 12) rfl rfl (fun c2_q => ?_) (fun c2_q => ?_)
        · skip
          have i1_q : 1 ≤ i := by omega
          obtain ⟨k, hk⟩ : ∃ k : Nat, i = k + 1 := ⟨i - 1, by omega⟩
          have rk := hR k (by omega)
          have hcm : cmA Wm S m (pL Wm S m (σ 329) i) (σ 329 i) = if dstF Wm (σ 329 k) (σ 329 i) = -1 then -1 else cmA Wm S m (pL Wm S m (σ 329) k) (σ 329 k) + 1 + dstF Wm (σ 329 k) (σ 329 i) := by rw [hk]; rfl
          have ck := cmA_60 (S := S) (m := m) hWI (R := σ 329) k
          refine zaload_n (k := 18) rfl rfl ?_
          refine zgF 63 (k := 19) rfl ob_289 fl_12_204 rfl fx_289_63 ?_
          refine ziload_n (k := 20) rfl rfl ?_
          refine ziconst (k := 21) rfl (by decide) ?_
          refine zisubB (k := 22) rfl (by omega) ?_
          rw [show (i : Int) - 1 = (k : Int) by omega]
          refine ziaload (k := 23) rfl ar_329 ⟨by omega, by omega⟩ ?_
          first | rw [f1_q 329 _ (by omega)] | skip
          refine ziload (k := 24) rfl rfl ?_
          refine zfV1 (k := 25) rfl (c_M_wayBy s1_q.2.2.1 hb1_q (by omega) (by omega)) fm_M_wayBy lk_12_439 rfl rfl ob_289 ⟨_, rfl, rfl⟩ (Nat.le_of_ble_eq_true rfl) (by decide) ⟨by decide, by decide⟩ ?_
          rw [way_r s1_q hWI rk ri]
          have db := dst_b hWI (σ 329 k) (σ 329 i)
          obtain ⟨wy, hwy⟩ : ∃ wy : Int, wy = if dstF Wm (σ 329 k) (σ 329 i) = -1 then 100000000 else dstF Wm (σ 329 k) (σ 329 i) := ⟨_, rfl⟩
          rw [← hwy]
          refine zistore (k := 26) (ls' := [_, _, _, _, _, _, _]) rfl (Nat.le_of_ble_eq_true rfl) rfl ?_
          refine ziload (k := 27) rfl rfl ?_
          refine zldcw (k := 28) (z := 100000000) rfl kc_12_404 rfl ?_
          refine zicmp_ge (k := 29) rfl rfl (fun c3_q => ?_) (fun c3_q => ?_)
          · skip
            refine ziconst (k := 35) rfl (by decide) ?_
            refine zzreturn (k := 36) rfl rfl (by first | exact Or.inl rfl | exact Or.inr rfl | omega) rfl ?_
            rw [← hQ]
            refine ⟨rfl, _, rfl, f1_q, Or.inr ⟨rfl, vOK_no (i := i) (by omega) (fun q => ?_)⟩⟩
            have q1_q := q.1
            have q2_q := q.2.1
            rw [hcm] at q1_q
            omega
          · skip
            refine zaload_n (k := 30) rfl rfl ?_
            refine zgF 46 (k := 31) rfl ob_289 fl_12_153 rfl fx_289_46 ?_
            refine ziload (k := 32) rfl rfl ?_
            refine ziaload (k := 33) rfl ar_316 ⟨by omega, by omega⟩ ?_
            rw [((rM_0 s1_q.1).2.1 _ ri.1 ri.2).1]
            refine zif_ne (k := 34) rfl rfl (fun c4_q => ?_) (fun c4_q => ?_)
            · skip
              refine ziconst (k := 37) rfl (by decide) ?_
              refine zistore (k := 38) (ls' := [_, _, _, _, _, _, _]) rfl (Nat.le_of_ble_eq_true rfl) rfl ?_
              have lp67_q : ∀ (g : Nat) (j : Nat), (i - j) < g → (j ≤ i) → (∀ u : Nat, u < j → σ 329 u ≠ σ 329 i) → zV Γ m_M_isRound 2 0 0 Q (GM L) (0, 0) 67 [some (zR 289), some (zI m), some (zI n), some (zI i), some (zI (σ 329 i)), some (zI wy), some (zI j)] [] σ1 := by
                intro g
                induction g with
                | zero => intro j hg; exact absurd hg (Nat.not_lt_zero _)
                | succ g ih67_q =>
                  intro j hg hj hne
                  refine ziload (k := 39) rfl rfl ?_
                  refine ziload_n (k := 40) rfl rfl ?_
                  refine zicmp_ge (k := 41) rfl rfl (fun c5_q => ?_) (fun c5_q => ?_)
                  · skip
                    refine zaload_n (k := 52) rfl rfl ?_
                    refine zgF 64 (k := 53) rfl ob_289 fl_12_207 rfl fx_289_64 ?_
                    refine ziload_n (k := 54) rfl rfl ?_
                    refine ziload_n (k := 55) rfl rfl ?_
                    refine zif_ne (k := 56) rfl rfl (fun c6_q => ?_) (fun c6_q => ?_)
                    · skip
                      refine zaload_n (k := 59) rfl rfl ?_
                      refine zgF 64 (k := 60) rfl ob_289 fl_12_207 rfl fx_289_64 ?_
                      refine ziload_n (k := 61) rfl rfl ?_
                      refine ziconst (k := 62) rfl (by decide) ?_
                      refine zisubB (k := 63) rfl (by omega) ?_
                      rw [show (i : Int) - 1 = (k : Int) by omega]
                      refine ziaload (k := 64) rfl ar_330 ⟨by omega, by omega⟩ ?_
                      rw [hc k (by omega)]
                      refine ziconst (k := 65) rfl (by decide) ?_
                      refine ziaddB (k := 66) rfl (by omega) ?_
                      refine ziload (k := 67) rfl rfl ?_
                      refine ziaddB (k := 68) rfl (by omega) ?_
                      first
                      | rw [show zI wy = zI (cmA Wm S m (pL Wm S m (σ 329) i) (σ 329 i)) by rw [hcm, show wy = dstF Wm (S 4 m) (σ 329 i) by omega]]
                      | rw [show zI (cmA Wm S m (pL Wm S m (σ 329) k) (σ 329 k) + 1 + wy) = zI (cmA Wm S m (pL Wm S m (σ 329) i) (σ 329 i)) by rw [hcm, if_neg (by omega), show wy = dstF Wm (σ 329 k) (σ 329 i) by omega]]
                      refine ziastore (k := 69) rfl ar_330 ⟨by omega, by omega⟩ (by omega) ?_
                      obtain ⟨σ2, e2_q⟩ : ∃ σ2 : zv_H, σ2 = zup σ1 330 i (cmA Wm S m (pL Wm S m (σ 329) i) (σ 329 i)) := ⟨_, rfl⟩
                      rw [← e2_q]
                      have f2_q : ∀ x k, x ≠ 330 → σ2 x k = σ x k := fun x k q => by rw [e2_q, zup_n (by omega)]; exact f1_q x k q
                      have s2_q : stM σ2 σ2 b 0 Wm S := stM_fr g0_q (fun x k q1_q q2_q q3_q q4_q => f2_q x k q2_q)
                      have hv2_q : σ2 330 i = cmA Wm S m (pL Wm S m (σ 329) i) (σ 329 i) := by rw [e2_q, zup_s]
                      have cb := cmA_60 (S := S) (m := m) hWI (R := σ 329) i
                      have cn1_q : cmA Wm S m (pL Wm S m (σ 329) i) (σ 329 i) ≠ -1 := by (try rw [hcm]); omega
                      refine zaload_n (k := 70) rfl rfl ?_
                      refine ziconst (k := 71) rfl (by decide) ?_
                      refine ziload_n (k := 72) rfl rfl ?_
                      refine ziload (k := 73) rfl rfl ?_
                      refine zaload_n (k := 74) rfl rfl ?_
                      refine zgF 45 (k := 75) rfl ob_289 fl_12_150 rfl fx_289_45 ?_
                      refine ziconst (k := 76) rfl (by decide) ?_
                      refine ziaload (k := 77) rfl ar_315 ⟨by omega, by omega⟩ ?_
                      rw [f2_q 315 0 (by omega), r0_q.1.1]
                      refine zaload_n (k := 78) rfl rfl ?_
                      refine zgF 64 (k := 79) rfl ob_289 fl_12_207 rfl fx_289_64 ?_
                      refine ziload_n (k := 80) rfl rfl ?_
                      refine ziaload (k := 81) rfl ar_330 ⟨by omega, by omega⟩ ?_
                      rw [hv2_q]
                      refine ziaddB (k := 82) rfl (by omega) ?_
                      refine zfV1 (k := 83) rfl (c_M_isKnown hb1_q ⟨by omega, by omega⟩ s2_q hSI hWI hm ri (by omega)) fm_M_isKnown lk_12_465 rfl rfl ob_289 ⟨_, rfl, rfl⟩ (Nat.le_of_ble_eq_true rfl) (by decide) ⟨by decide, by decide⟩ ?_
                      refine zif_eq (k := 84) rfl rfl (fun c7_q => ?_) (fun c7_q => ?_)
                      · skip
                        refine ziconst (k := 87) rfl (by decide) ?_
                        refine zistore (k := 88) (ls' := [_, _, _, _, _, _, _]) rfl (Nat.le_of_ble_eq_true rfl) rfl ?_
                        refine zforget (ls' := [_, _, _, _, _, _, _]) 5 rfl ?_
                        have hne : ∀ u : Nat, u < i → σ 329 u ≠ σ 329 i := fun u hu => hne u (by omega)
                        have hc2_q : ∀ u : Nat, u < i + 1 → σ2 330 u = cmA Wm S m (pL Wm S m (σ 329) u) (σ 329 u) := fun u hu => by
                          by_cases e : u = i
                          · rw [e]; exact hv2_q
                          · rw [e2_q, zup_n (by omega)]; exact hc u (by omega)
                        have lp150_q : ∀ (g : Nat) (j : Nat), (i - j) < g → (j ≤ i) → (∀ u : Nat, u < j → cmA Wm S m (pL Wm S m (σ 329) i) (σ 329 i) < cmA Wm S m (pL Wm S m (σ 329) u) (σ 329 u) + 1 + dstF Wm (σ 329 u) (σ 329 i) + Wm 0 4) → zV Γ m_M_isRound 2 0 0 Q (GM L) (0, 0) 150 [some (zR 289), some (zI m), some (zI n), some (zI i), some (zI (σ 329 i)), none, some (zI j)] [] σ2 := by
                          intro g
                          induction g with
                          | zero => intro j hg; exact absurd hg (Nat.not_lt_zero _)
                          | succ g ih150_q =>
                            intro j hg hj2_q hle
                            refine ziload (k := 89) rfl rfl ?_
                            refine ziload_n (k := 90) rfl rfl ?_
                            refine zicmp_ge (k := 91) rfl rfl (fun c8_q => ?_) (fun c8_q => ?_)
                            · skip
                              refine ziincB (k := 130) (ls' := [_, _, _, _, _, _, _]) rfl rfl (by decide) (by omega) rfl ?_
                              refine zgoto (k := 131) rfl rfl ?_
                              refine zforget (ls' := [_, _, _, _, _, _, _]) 4 rfl ?_
                              refine zforget (ls' := [_, _, _, _, _, _, _]) 6 rfl ?_
                              refine ih2_q (i + 1) _ (by omega) (by omega) f2_q ?_ (fun u hu => ?_)
                              · rw [vOK_s]
                                refine ⟨hv, ri, rfl, cn1_q, ?_, ?_, fun q hq => ?_⟩
                                · omega
                                · cases hh : knwF Wm S m (σ 329 i) (S 0 0 + cmA Wm S m (pL Wm S m (σ 329) i) (σ 329 i))
                                  · rfl
                                  · exact absurd hh (zB_f (by assumption))
                                · obtain ⟨u, u1_q, u2_q⟩ := pL_m.mp hq
                                  rw [u2_q]
                                  dsimp only
                                  exact ⟨hne u u1_q, by have := hle u (by omega); omega⟩
                              · by_cases e : u = i
                                · rw [e]; exact hv2_q
                                · exact hc2_q u (by omega)
                            · skip
                              refine zaload_n (k := 92) rfl rfl ?_
                              refine zaload_n (k := 93) rfl rfl ?_
                              refine zgF 63 (k := 94) rfl ob_289 fl_12_204 rfl fx_289_63 ?_
                              refine ziload (k := 95) rfl rfl ?_
                              refine ziaload (k := 96) rfl ar_329 ⟨by omega, by omega⟩ ?_
                              rw [f2_q 329 _ (by omega)]
                              have rj := hR j (by omega)
                              have dj := vOK_w hT hv cn1_q _ (pL_m.mpr ⟨j, by omega, rfl⟩)
                              dsimp only at dj
                              have cj := cmA_60 (S := S) (m := m) hWI (R := σ 329) j
                              refine ziload (k := 97) rfl rfl ?_
                              refine zfV1 (k := 98) rfl (c_M_wayBy s2_q.2.2.1 hb1_q (by omega) (by omega)) fm_M_wayBy lk_12_439 rfl rfl ob_289 ⟨_, rfl, rfl⟩ (Nat.le_of_ble_eq_true rfl) (by decide) ⟨by decide, by decide⟩ ?_
                              rw [way_r s2_q hWI rj ri]
                              have db2_q := dst_b hWI (σ 329 j) (σ 329 i)
                              refine zldcw (k := 99) (z := 100000000) rfl kc_12_404 rfl ?_
                              refine zicmp_ge (k := 100) rfl rfl (fun c9_q => ?_) (fun c9_q => ?_)
                              · skip
                                refine ziincB (k := 128) (ls' := [_, _, _, _, _, _, _]) rfl rfl (by decide) (by omega) rfl ?_
                                refine zgoto (k := 129) rfl rfl ?_
                                refine ih150_q (j + 1) (by omega) (by omega) (fun u hu => ?_)
                                by_cases e : u = j
                                · rw [e]; omega
                                · exact hle u (by omega)
                              · skip
                                refine zaload_n (k := 101) rfl rfl ?_
                                refine zgF 64 (k := 102) rfl ob_289 fl_12_207 rfl fx_289_64 ?_
                                refine ziload (k := 103) rfl rfl ?_
                                refine ziaload (k := 104) rfl ar_330 ⟨by omega, by omega⟩ ?_
                                rw [hc2_q j (by omega)]
                                refine ziconst (k := 105) rfl (by decide) ?_
                                refine ziaddB (k := 106) rfl (by omega) ?_
                                refine zaload_n (k := 107) rfl rfl ?_
                                refine zaload_n (k := 108) rfl rfl ?_
                                refine zgF 63 (k := 109) rfl ob_289 fl_12_204 rfl fx_289_63 ?_
                                refine ziload (k := 110) rfl rfl ?_
                                refine ziaload (k := 111) rfl ar_329 ⟨by omega, by omega⟩ ?_
                                rw [f2_q 329 _ (by omega)]
                                refine ziload (k := 112) rfl rfl ?_
                                refine zfV1 (k := 113) rfl (c_M_wayBy s2_q.2.2.1 hb1_q (by omega) (by omega)) fm_M_wayBy lk_12_439 rfl rfl ob_289 ⟨_, rfl, rfl⟩ (Nat.le_of_ble_eq_true rfl) (by decide) ⟨by decide, by decide⟩ ?_
                                rw [way_r s2_q hWI rj ri]
                                refine ziaddB (k := 114) rfl (by omega) ?_
                                refine zaload_n (k := 115) rfl rfl ?_
                                refine zgF 24 (k := 116) rfl ob_289 fl_12_84 rfl fx_289_24 ?_
                                refine zaload_n (k := 117) rfl rfl ?_
                                refine zgI 13 (k := 118) rfl ob_289 fl_12_51 rfl fx_289_13 ?_
                                rw [s2_q.2.2.1]
                                refine ziaload (k := 119) rfl ar_301 ⟨by omega, by omega⟩ ?_
                                rw [f2_q 301 b (by omega), h0_q.2.1.1.2.2.2]
                                refine ziaddB (k := 120) rfl (by omega) ?_
                                refine zaload_n (k := 121) rfl rfl ?_
                                refine zgF 64 (k := 122) rfl ob_289 fl_12_207 rfl fx_289_64 ?_
                                refine ziload_n (k := 123) rfl rfl ?_
                                refine ziaload (k := 124) rfl ar_330 ⟨by omega, by omega⟩ ?_
                                rw [hv2_q]
                                refine zicmp_gt (k := 125) rfl rfl (fun c10_q => ?_) (fun c10_q => ?_)
                                · skip
                                  refine ziincB (k := 128) (ls' := [_, _, _, _, _, _, _]) rfl rfl (by decide) (by omega) rfl ?_
                                  refine zgoto (k := 129) rfl rfl ?_
                                  refine ih150_q (j + 1) (by omega) (by omega) (fun u hu => ?_)
                                  by_cases e : u = j
                                  · rw [e]; omega
                                  · exact hle u (by omega)
                                · skip
                                  refine ziconst (k := 126) rfl (by decide) ?_
                                  refine zzreturn (k := 127) rfl rfl (by first | exact Or.inl rfl | exact Or.inr rfl | omega) rfl ?_
                                  rw [← hQ]
                                  refine ⟨rfl, _, rfl, f2_q, Or.inr ⟨rfl, vOK_no (i := i) (by omega) (fun q => ?_)⟩⟩
                                  have q1_q := (q.2.2.2 _ (pL_m.mpr ⟨j, by omega, rfl⟩)).2
                                  dsimp only at q1_q
                                  omega
                        exact lp150_q _ 0 (Nat.lt_succ_self _) (by omega) (fun u hu => absurd hu (Nat.not_lt_zero _))
                      · skip
                        refine ziconst (k := 85) rfl (by decide) ?_
                        refine zzreturn (k := 86) rfl rfl (by first | exact Or.inl rfl | exact Or.inr rfl | omega) rfl ?_
                        rw [← hQ]
                        refine ⟨rfl, _, rfl, f2_q, Or.inr ⟨rfl, vOK_no (i := i) (by omega) (fun q => ?_)⟩⟩
                        exact absurd (zB_t (by assumption)) (by rw [q.2.2.1]; decide)
                    · exfalso; omega
                  · skip
                    refine zaload_n (k := 42) rfl rfl ?_
                    refine zgF 63 (k := 43) rfl ob_289 fl_12_204 rfl fx_289_63 ?_
                    refine ziload (k := 44) rfl rfl ?_
                    refine ziaload (k := 45) rfl ar_329 ⟨by omega, by omega⟩ ?_
                    rw [f1_q 329 _ (by omega)]
                    refine ziload (k := 46) rfl rfl ?_
                    refine zicmp_ne (k := 47) rfl rfl (fun c11_q => ?_) (fun c11_q => ?_)
                    · skip
                      refine ziincB (k := 50) (ls' := [_, _, _, _, _, _, _]) rfl rfl (by decide) (by omega) rfl ?_
                      refine zgoto (k := 51) rfl rfl ?_
                      refine ih67_q (j + 1) (by omega) (by omega) (fun u hu => ?_)
                      by_cases e : u = j
                      · rw [e]; assumption
                      · exact hne u (by omega)
                    · skip
                      refine ziconst (k := 48) rfl (by decide) ?_
                      refine zzreturn (k := 49) rfl rfl (by first | exact Or.inl rfl | exact Or.inr rfl | omega) rfl ?_
                      rw [← hQ]
                      refine ⟨rfl, _, rfl, f1_q, Or.inr ⟨rfl, vOK_no (i := i) (by omega) (fun q => ?_)⟩⟩
                      exact (q.2.2.2 _ (pL_m.mpr ⟨j, by omega, rfl⟩)).1 (by assumption)
              exact lp67_q _ 0 (Nat.lt_succ_self _) (by omega) (fun u hu => absurd hu (Nat.not_lt_zero _))
            · skip
              refine ziconst (k := 35) rfl (by decide) ?_
              refine zzreturn (k := 36) rfl rfl (by first | exact Or.inl rfl | exact Or.inr rfl | omega) rfl ?_
              rw [← hQ]
              refine ⟨rfl, _, rfl, f1_q, Or.inr ⟨rfl, vOK_no (i := i) (by omega) (fun q => ?_)⟩⟩
              have q1_q := q.1
              have q2_q := q.2.1
              rw [hcm] at q1_q
              omega
        · skip
          have i0_q : i = 0 := by omega
          have hcm : cmA Wm S m (pL Wm S m (σ 329) i) (σ 329 i) = dstF Wm (S 4 m) (σ 329 i) := by rw [i0_q]; rfl
          refine zaload_n (k := 13) rfl rfl ?_
          refine zgF 49 (k := 14) rfl ob_289 fl_12_162 rfl fx_289_49 ?_
          refine ziload_n (k := 15) rfl rfl ?_
          refine ziaload (k := 16) rfl ar_319 ⟨by omega, by omega⟩ ?_
          rw [((rM_0 s1_q.1).2.2.1 m hm.1 hm.2).1]
          refine zgoto (k := 17) rfl rfl ?_
          first | rw [f1_q 329 _ (by omega)] | skip
          refine ziload (k := 24) rfl rfl ?_
          refine zfV1 (k := 25) rfl (c_M_wayBy s1_q.2.2.1 hb1_q (by omega) (by omega)) fm_M_wayBy lk_12_439 rfl rfl ob_289 ⟨_, rfl, rfl⟩ (Nat.le_of_ble_eq_true rfl) (by decide) ⟨by decide, by decide⟩ ?_
          rw [way_r s1_q hWI bmm.1 ri]
          have db := dst_b hWI (S 4 m) (σ 329 i)
          obtain ⟨wy, hwy⟩ : ∃ wy : Int, wy = if dstF Wm (S 4 m) (σ 329 i) = -1 then 100000000 else dstF Wm (S 4 m) (σ 329 i) := ⟨_, rfl⟩
          rw [← hwy]
          refine zistore (k := 26) (ls' := [_, _, _, _, _, _, _]) rfl (Nat.le_of_ble_eq_true rfl) rfl ?_
          refine ziload (k := 27) rfl rfl ?_
          refine zldcw (k := 28) (z := 100000000) rfl kc_12_404 rfl ?_
          refine zicmp_ge (k := 29) rfl rfl (fun c12_q => ?_) (fun c12_q => ?_)
          · skip
            refine ziconst (k := 35) rfl (by decide) ?_
            refine zzreturn (k := 36) rfl rfl (by first | exact Or.inl rfl | exact Or.inr rfl | omega) rfl ?_
            rw [← hQ]
            refine ⟨rfl, _, rfl, f1_q, Or.inr ⟨rfl, vOK_no (i := i) (by omega) (fun q => ?_)⟩⟩
            have q1_q := q.1
            have q2_q := q.2.1
            rw [hcm] at q1_q
            omega
          · skip
            refine zaload_n (k := 30) rfl rfl ?_
            refine zgF 46 (k := 31) rfl ob_289 fl_12_153 rfl fx_289_46 ?_
            refine ziload (k := 32) rfl rfl ?_
            refine ziaload (k := 33) rfl ar_316 ⟨by omega, by omega⟩ ?_
            rw [((rM_0 s1_q.1).2.1 _ ri.1 ri.2).1]
            refine zif_ne (k := 34) rfl rfl (fun c13_q => ?_) (fun c13_q => ?_)
            · skip
              refine ziconst (k := 37) rfl (by decide) ?_
              refine zistore (k := 38) (ls' := [_, _, _, _, _, _, _]) rfl (Nat.le_of_ble_eq_true rfl) rfl ?_
              have lp67_q : ∀ (g : Nat) (j : Nat), (i - j) < g → (j ≤ i) → (∀ u : Nat, u < j → σ 329 u ≠ σ 329 i) → zV Γ m_M_isRound 2 0 0 Q (GM L) (0, 0) 67 [some (zR 289), some (zI m), some (zI n), some (zI i), some (zI (σ 329 i)), some (zI wy), some (zI j)] [] σ1 := by
                intro g
                induction g with
                | zero => intro j hg; exact absurd hg (Nat.not_lt_zero _)
                | succ g ih67_q =>
                  intro j hg hj hne
                  refine ziload (k := 39) rfl rfl ?_
                  refine ziload_n (k := 40) rfl rfl ?_
                  refine zicmp_ge (k := 41) rfl rfl (fun c14_q => ?_) (fun c14_q => ?_)
                  · skip
                    refine zaload_n (k := 52) rfl rfl ?_
                    refine zgF 64 (k := 53) rfl ob_289 fl_12_207 rfl fx_289_64 ?_
                    refine ziload_n (k := 54) rfl rfl ?_
                    refine ziload_n (k := 55) rfl rfl ?_
                    refine zif_ne (k := 56) rfl rfl (fun c15_q => ?_) (fun c15_q => ?_)
                    · exfalso; omega
                    refine ziload (k := 57) rfl rfl ?_
                    refine zgoto (k := 58) rfl rfl ?_
                    first
                    | rw [show zI wy = zI (cmA Wm S m (pL Wm S m (σ 329) i) (σ 329 i)) by rw [hcm, show wy = dstF Wm (S 4 m) (σ 329 i) by omega]]
                    | rw [show zI (cmA Wm S m (pL Wm S m (σ 329) k) (σ 329 k) + 1 + wy) = zI (cmA Wm S m (pL Wm S m (σ 329) i) (σ 329 i)) by rw [hcm, if_neg (by omega), show wy = dstF Wm (σ 329 k) (σ 329 i) by omega]]
                    refine ziastore (k := 69) rfl ar_330 ⟨by omega, by omega⟩ (by omega) ?_
                    obtain ⟨σ2, e2_q⟩ : ∃ σ2 : zv_H, σ2 = zup σ1 330 i (cmA Wm S m (pL Wm S m (σ 329) i) (σ 329 i)) := ⟨_, rfl⟩
                    rw [← e2_q]
                    have f2_q : ∀ x k, x ≠ 330 → σ2 x k = σ x k := fun x k q => by rw [e2_q, zup_n (by omega)]; exact f1_q x k q
                    have s2_q : stM σ2 σ2 b 0 Wm S := stM_fr g0_q (fun x k q1_q q2_q q3_q q4_q => f2_q x k q2_q)
                    have hv2_q : σ2 330 i = cmA Wm S m (pL Wm S m (σ 329) i) (σ 329 i) := by rw [e2_q, zup_s]
                    have cb := cmA_60 (S := S) (m := m) hWI (R := σ 329) i
                    have cn1_q : cmA Wm S m (pL Wm S m (σ 329) i) (σ 329 i) ≠ -1 := by (try rw [hcm]); omega
                    refine zaload_n (k := 70) rfl rfl ?_
                    refine ziconst (k := 71) rfl (by decide) ?_
                    refine ziload_n (k := 72) rfl rfl ?_
                    refine ziload (k := 73) rfl rfl ?_
                    refine zaload_n (k := 74) rfl rfl ?_
                    refine zgF 45 (k := 75) rfl ob_289 fl_12_150 rfl fx_289_45 ?_
                    refine ziconst (k := 76) rfl (by decide) ?_
                    refine ziaload (k := 77) rfl ar_315 ⟨by omega, by omega⟩ ?_
                    rw [f2_q 315 0 (by omega), r0_q.1.1]
                    refine zaload_n (k := 78) rfl rfl ?_
                    refine zgF 64 (k := 79) rfl ob_289 fl_12_207 rfl fx_289_64 ?_
                    refine ziload_n (k := 80) rfl rfl ?_
                    refine ziaload (k := 81) rfl ar_330 ⟨by omega, by omega⟩ ?_
                    rw [hv2_q]
                    refine ziaddB (k := 82) rfl (by omega) ?_
                    refine zfV1 (k := 83) rfl (c_M_isKnown hb1_q ⟨by omega, by omega⟩ s2_q hSI hWI hm ri (by omega)) fm_M_isKnown lk_12_465 rfl rfl ob_289 ⟨_, rfl, rfl⟩ (Nat.le_of_ble_eq_true rfl) (by decide) ⟨by decide, by decide⟩ ?_
                    refine zif_eq (k := 84) rfl rfl (fun c16_q => ?_) (fun c16_q => ?_)
                    · skip
                      refine ziconst (k := 87) rfl (by decide) ?_
                      refine zistore (k := 88) (ls' := [_, _, _, _, _, _, _]) rfl (Nat.le_of_ble_eq_true rfl) rfl ?_
                      refine zforget (ls' := [_, _, _, _, _, _, _]) 5 rfl ?_
                      have hne : ∀ u : Nat, u < i → σ 329 u ≠ σ 329 i := fun u hu => hne u (by omega)
                      have hc2_q : ∀ u : Nat, u < i + 1 → σ2 330 u = cmA Wm S m (pL Wm S m (σ 329) u) (σ 329 u) := fun u hu => by
                        by_cases e : u = i
                        · rw [e]; exact hv2_q
                        · rw [e2_q, zup_n (by omega)]; exact hc u (by omega)
                      have lp150_q : ∀ (g : Nat) (j : Nat), (i - j) < g → (j ≤ i) → (∀ u : Nat, u < j → cmA Wm S m (pL Wm S m (σ 329) i) (σ 329 i) < cmA Wm S m (pL Wm S m (σ 329) u) (σ 329 u) + 1 + dstF Wm (σ 329 u) (σ 329 i) + Wm 0 4) → zV Γ m_M_isRound 2 0 0 Q (GM L) (0, 0) 150 [some (zR 289), some (zI m), some (zI n), some (zI i), some (zI (σ 329 i)), none, some (zI j)] [] σ2 := by
                        intro g
                        induction g with
                        | zero => intro j hg; exact absurd hg (Nat.not_lt_zero _)
                        | succ g ih150_q =>
                          intro j hg hj2_q hle
                          refine ziload (k := 89) rfl rfl ?_
                          refine ziload_n (k := 90) rfl rfl ?_
                          refine zicmp_ge (k := 91) rfl rfl (fun c17_q => ?_) (fun c17_q => ?_)
                          · skip
                            refine ziincB (k := 130) (ls' := [_, _, _, _, _, _, _]) rfl rfl (by decide) (by omega) rfl ?_
                            refine zgoto (k := 131) rfl rfl ?_
                            refine zforget (ls' := [_, _, _, _, _, _, _]) 4 rfl ?_
                            refine zforget (ls' := [_, _, _, _, _, _, _]) 6 rfl ?_
                            refine ih2_q (i + 1) _ (by omega) (by omega) f2_q ?_ (fun u hu => ?_)
                            · rw [vOK_s]
                              refine ⟨hv, ri, rfl, cn1_q, ?_, ?_, fun q hq => ?_⟩
                              · omega
                              · cases hh : knwF Wm S m (σ 329 i) (S 0 0 + cmA Wm S m (pL Wm S m (σ 329) i) (σ 329 i))
                                · rfl
                                · exact absurd hh (zB_f (by assumption))
                              · obtain ⟨u, u1_q, u2_q⟩ := pL_m.mp hq
                                rw [u2_q]
                                dsimp only
                                exact ⟨hne u u1_q, by have := hle u (by omega); omega⟩
                            · by_cases e : u = i
                              · rw [e]; exact hv2_q
                              · exact hc2_q u (by omega)
                          · skip
                            refine zaload_n (k := 92) rfl rfl ?_
                            refine zaload_n (k := 93) rfl rfl ?_
                            refine zgF 63 (k := 94) rfl ob_289 fl_12_204 rfl fx_289_63 ?_
                            refine ziload (k := 95) rfl rfl ?_
                            refine ziaload (k := 96) rfl ar_329 ⟨by omega, by omega⟩ ?_
                            rw [f2_q 329 _ (by omega)]
                            have rj := hR j (by omega)
                            have dj := vOK_w hT hv cn1_q _ (pL_m.mpr ⟨j, by omega, rfl⟩)
                            dsimp only at dj
                            have cj := cmA_60 (S := S) (m := m) hWI (R := σ 329) j
                            refine ziload (k := 97) rfl rfl ?_
                            refine zfV1 (k := 98) rfl (c_M_wayBy s2_q.2.2.1 hb1_q (by omega) (by omega)) fm_M_wayBy lk_12_439 rfl rfl ob_289 ⟨_, rfl, rfl⟩ (Nat.le_of_ble_eq_true rfl) (by decide) ⟨by decide, by decide⟩ ?_
                            rw [way_r s2_q hWI rj ri]
                            have db2_q := dst_b hWI (σ 329 j) (σ 329 i)
                            refine zldcw (k := 99) (z := 100000000) rfl kc_12_404 rfl ?_
                            refine zicmp_ge (k := 100) rfl rfl (fun c18_q => ?_) (fun c18_q => ?_)
                            · skip
                              refine ziincB (k := 128) (ls' := [_, _, _, _, _, _, _]) rfl rfl (by decide) (by omega) rfl ?_
                              refine zgoto (k := 129) rfl rfl ?_
                              refine ih150_q (j + 1) (by omega) (by omega) (fun u hu => ?_)
                              by_cases e : u = j
                              · rw [e]; omega
                              · exact hle u (by omega)
                            · skip
                              refine zaload_n (k := 101) rfl rfl ?_
                              refine zgF 64 (k := 102) rfl ob_289 fl_12_207 rfl fx_289_64 ?_
                              refine ziload (k := 103) rfl rfl ?_
                              refine ziaload (k := 104) rfl ar_330 ⟨by omega, by omega⟩ ?_
                              rw [hc2_q j (by omega)]
                              refine ziconst (k := 105) rfl (by decide) ?_
                              refine ziaddB (k := 106) rfl (by omega) ?_
                              refine zaload_n (k := 107) rfl rfl ?_
                              refine zaload_n (k := 108) rfl rfl ?_
                              refine zgF 63 (k := 109) rfl ob_289 fl_12_204 rfl fx_289_63 ?_
                              refine ziload (k := 110) rfl rfl ?_
                              refine ziaload (k := 111) rfl ar_329 ⟨by omega, by omega⟩ ?_
                              rw [f2_q 329 _ (by omega)]
                              refine ziload (k := 112) rfl rfl ?_
                              refine zfV1 (k := 113) rfl (c_M_wayBy s2_q.2.2.1 hb1_q (by omega) (by omega)) fm_M_wayBy lk_12_439 rfl rfl ob_289 ⟨_, rfl, rfl⟩ (Nat.le_of_ble_eq_true rfl) (by decide) ⟨by decide, by decide⟩ ?_
                              rw [way_r s2_q hWI rj ri]
                              refine ziaddB (k := 114) rfl (by omega) ?_
                              refine zaload_n (k := 115) rfl rfl ?_
                              refine zgF 24 (k := 116) rfl ob_289 fl_12_84 rfl fx_289_24 ?_
                              refine zaload_n (k := 117) rfl rfl ?_
                              refine zgI 13 (k := 118) rfl ob_289 fl_12_51 rfl fx_289_13 ?_
                              rw [s2_q.2.2.1]
                              refine ziaload (k := 119) rfl ar_301 ⟨by omega, by omega⟩ ?_
                              rw [f2_q 301 b (by omega), h0_q.2.1.1.2.2.2]
                              refine ziaddB (k := 120) rfl (by omega) ?_
                              refine zaload_n (k := 121) rfl rfl ?_
                              refine zgF 64 (k := 122) rfl ob_289 fl_12_207 rfl fx_289_64 ?_
                              refine ziload_n (k := 123) rfl rfl ?_
                              refine ziaload (k := 124) rfl ar_330 ⟨by omega, by omega⟩ ?_
                              rw [hv2_q]
                              refine zicmp_gt (k := 125) rfl rfl (fun c19_q => ?_) (fun c19_q => ?_)
                              · skip
                                refine ziincB (k := 128) (ls' := [_, _, _, _, _, _, _]) rfl rfl (by decide) (by omega) rfl ?_
                                refine zgoto (k := 129) rfl rfl ?_
                                refine ih150_q (j + 1) (by omega) (by omega) (fun u hu => ?_)
                                by_cases e : u = j
                                · rw [e]; omega
                                · exact hle u (by omega)
                              · skip
                                refine ziconst (k := 126) rfl (by decide) ?_
                                refine zzreturn (k := 127) rfl rfl (by first | exact Or.inl rfl | exact Or.inr rfl | omega) rfl ?_
                                rw [← hQ]
                                refine ⟨rfl, _, rfl, f2_q, Or.inr ⟨rfl, vOK_no (i := i) (by omega) (fun q => ?_)⟩⟩
                                have q1_q := (q.2.2.2 _ (pL_m.mpr ⟨j, by omega, rfl⟩)).2
                                dsimp only at q1_q
                                omega
                      exact lp150_q _ 0 (Nat.lt_succ_self _) (by omega) (fun u hu => absurd hu (Nat.not_lt_zero _))
                    · skip
                      refine ziconst (k := 85) rfl (by decide) ?_
                      refine zzreturn (k := 86) rfl rfl (by first | exact Or.inl rfl | exact Or.inr rfl | omega) rfl ?_
                      rw [← hQ]
                      refine ⟨rfl, _, rfl, f2_q, Or.inr ⟨rfl, vOK_no (i := i) (by omega) (fun q => ?_)⟩⟩
                      exact absurd (zB_t (by assumption)) (by rw [q.2.2.1]; decide)
                  · skip
                    refine zaload_n (k := 42) rfl rfl ?_
                    refine zgF 63 (k := 43) rfl ob_289 fl_12_204 rfl fx_289_63 ?_
                    refine ziload (k := 44) rfl rfl ?_
                    refine ziaload (k := 45) rfl ar_329 ⟨by omega, by omega⟩ ?_
                    rw [f1_q 329 _ (by omega)]
                    refine ziload (k := 46) rfl rfl ?_
                    refine zicmp_ne (k := 47) rfl rfl (fun c20_q => ?_) (fun c20_q => ?_)
                    · skip
                      refine ziincB (k := 50) (ls' := [_, _, _, _, _, _, _]) rfl rfl (by decide) (by omega) rfl ?_
                      refine zgoto (k := 51) rfl rfl ?_
                      refine ih67_q (j + 1) (by omega) (by omega) (fun u hu => ?_)
                      by_cases e : u = j
                      · rw [e]; assumption
                      · exact hne u (by omega)
                    · skip
                      refine ziconst (k := 48) rfl (by decide) ?_
                      refine zzreturn (k := 49) rfl rfl (by first | exact Or.inl rfl | exact Or.inr rfl | omega) rfl ?_
                      rw [← hQ]
                      refine ⟨rfl, _, rfl, f1_q, Or.inr ⟨rfl, vOK_no (i := i) (by omega) (fun q => ?_)⟩⟩
                      exact (q.2.2.2 _ (pL_m.mpr ⟨j, by omega, rfl⟩)).1 (by assumption)
              exact lp67_q _ 0 (Nat.lt_succ_self _) (by omega) (fun u hu => absurd hu (Nat.not_lt_zero _))
            · skip
              refine ziconst (k := 35) rfl (by decide) ?_
              refine zzreturn (k := 36) rfl rfl (by first | exact Or.inl rfl | exact Or.inr rfl | omega) rfl ?_
              rw [← hQ]
              refine ⟨rfl, _, rfl, f1_q, Or.inr ⟨rfl, vOK_no (i := i) (by omega) (fun q => ?_)⟩⟩
              have q1_q := q.1
              have q2_q := q.2.1
              rw [hcm] at q1_q
              omega
  exact lp2_q _ 0 _ (Nat.lt_succ_self _) (by omega) (fun _ _ _ => rfl) trivial (fun j hj => absurd hj (Nat.not_lt_zero _))
