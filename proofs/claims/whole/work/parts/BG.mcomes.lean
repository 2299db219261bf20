theorem dn_sum {T : Int → Int} {σ : zv_H} {n : Int} (h : ∀ k, 0 ≤ k → k < n → σ 290 k = T k ∧ 0 ≤ T k ∧ T k ≤ 255) : ∀ k : Nat, (k : Int) ≤ n → imS (σ 290) k = imS T k := fun k hk => imS_c k (fun i hi => (h i (by omega) (by omega)).1)
/-- only version 1 is touched -/
def only1 (σ σ' : zv_H) : Prop := ∀ x k, ¬ inV 1 x k → σ' x k = σ x k
theorem okC_s {T : Int → Int} {Wm : zv_H} (j : Nat) : okC T Wm (j + 1) = (okC T Wm j ∧ (0 ≤ T (2 + 4 * j) ∧ T (2 + 4 * j) ≤ Wm 2 j) ∧ (0 ≤ 256 * T (2 + 4 * j + 1) + T (2 + 4 * j + 2) ∧ 256 * T (2 + 4 * j + 1) + T (2 + 4 * j + 2) ≤ 999) ∧ (0 ≤ T (2 + 4 * j + 3) ∧ T (2 + 4 * j + 3) ≤ 9)) := rfl
theorem okC_le {T : Int → Int} {Wm : zv_H} {j : Nat} : ∀ d : Nat, okC T Wm (j + d) → okC T Wm j
  | 0, h => h
  | d + 1, h => okC_le d (by rw [show j + (d + 1) = j + d + 1 by omega, okC_s] at h; exact h.1)
theorem okM_s {T : Int → Int} {nc : Int} (j : Nat) : okM T nc (j + 1) = (okM T nc j ∧ okP T nc (pM nc j) ∧ okK T (pM nc j + 6) nc.toNat) := rfl
theorem okM_le {T : Int → Int} {nc : Int} {j : Nat} : ∀ d : Nat, okM T nc (j + d) → okM T nc j
  | 0, h => h
  | d + 1, h => okM_le d (by rw [show j + (d + 1) = j + d + 1 by omega, okM_s] at h; exact h.1)
theorem okK_b {T : Int → Int} {p : Int} : ∀ n : Nat, (∀ c, 0 ≤ c → c < (n : Int) → 0 ≤ T (p + c) ∧ T (p + c) ≤ 255) → okK T p n
  | 0, _ => trivial
  | n + 1, h => ⟨okK_b n (fun c q1_q q2_q => h c q1_q (by omega)), h n (by omega) (by omega)⟩
theorem k_mcopy1 {Γ : zv_M} {L : Int} {σ Wm S : zv_H} {t f : Int} (ht : 0 ≤ t ∧ t < 22) (hf : 0 ≤ f ∧ f < 22) (hne : t ≠ f) (hr : rM σ (Wm 0 1) (Wm 0 3) f S) (h12_q : 0 ≤ S 0 12 ∧ S 0 12 ≤ 60) : zC Γ m_M_copies 0 0 0 (GM L) [zR 289, zI t, zI f] σ (zP0 (GM L) (fun σ' => σ' = σ' ∧ ∀ x k, ¬ inV t x k → σ' x k = σ x k)) := by
  refine zC_mono (fun q G' σ' hq => ?_) (c_M_copies ht hf hne (by rw [hr.1.2]; exact h12_q))
  obtain ⟨g1_q, g2_q, h1_q, h2_q, h3_q⟩ := hq
  exact ⟨g1_q, g2_q, rfl, fun x k a => h1_q.1 x k a⟩
set_option maxHeartbeats 4000000 in
set_option maxRecDepth 20000 in
theorem c_M_comesOn {Γ : zv_M} {L : Int} {σ Wm S : zv_H} {b : Int} (hb1_q : b = 0 ∨ b = 1) (h0_q : stM σ σ b 0 Wm S) (hSI : SI (Wm 0 1) (Wm 0 3) S) (hWI : WI Wm) {T : Int → Int} {n : Int} {A : zv_H} (hnb : 0 ≤ n ∧ n ≤ 1600) (hT : ∀ k, 0 ≤ k → k < n → σ 290 k = T k ∧ 0 ≤ T k ∧ T k ≤ 255)  : zC Γ m_M_comesOn 2 0 0 (GM L) [zR 289, zI n] σ (zPI (GM L) (fun z σ' => (z = 0 ∧ ¬ okA T Wm n ∧ only1 σ σ') ∨ (z = 1 ∧ okA T Wm n ∧ stM σ σ' b 1 Wm (rdA T Wm (sttF Wm A))))) := by
  refine zC_of (ls0 := [_, _, _, _, _, _]) zm_M_comesOn (by decide) rfl (Nat.le_of_ble_eq_true rfl) ?_
  generalize hQ : (zPI (GM L) (fun z σ' => (z = 0 ∧ ¬ okA T Wm n ∧ only1 σ σ') ∨ (z = 1 ∧ okA T Wm n ∧ stM σ σ' b 1 Wm (rdA T Wm (sttF Wm A))))) = Q
  have hb := h0_q.2.2.1
  have w1_q := hWI.1
  have w3_q := hWI.2.2.1
  have r0_q := rM_0 h0_q.1
  have b00_q := hSI.1
  have b12_q := hSI.2.2.1
  have bc := hSI.2.2.2.1
  have bm := hSI.2.2.2.2.1
  have bl := hSI.2.2.2.2.2.1
  have mb0_q : 0 ≤ (6 + Wm 0 1) * Wm 0 3 := Int.mul_nonneg (by omega) w3_q.1
  have mb1_q : (6 + Wm 0 1) * Wm 0 3 ≤ 13 * 6 := Int.mul_le_mul (by omega) w3_q.2 w3_q.1 (by omega)
  have mcm : (6 + Wm 0 1) * Wm 0 3 = Wm 0 3 * (6 + Wm 0 1) := Int.mul_comm _ _
  have T0 := hT 0
  have T1 := hT 1
  refine ziconst (k := 0) rfl (by decide) ?_
  refine ziconst (k := 1) rfl (by decide) ?_
  refine zaload_n (k := 2) rfl rfl ?_
  refine zgF 14 (k := 3) rfl ob_289 fl_12_54 rfl fx_289_14 ?_
  refine zaload_n (k := 4) rfl rfl ?_
  refine zgI 13 (k := 5) rfl ob_289 fl_12_51 rfl fx_289_13 ?_
  rw [hb]
  refine ziaload (k := 6) rfl ar_291 ⟨by omega, by omega⟩ ?_
  rw [h0_q.2.1.1.1]
  refine zimulB (k := 7) rfl (by omega) ?_
  refine ziaddB (k := 8) rfl (by omega) ?_
  refine zistore_n (k := 9) (ls' := [_, _, _, _, _, _]) rfl (Nat.le_of_ble_eq_true rfl) rfl ?_
  refine zbipush (k := 10) rfl rfl ?_
  refine zaload_n (k := 11) rfl rfl ?_
  refine zgF 14 (k := 12) rfl ob_289 fl_12_54 rfl fx_289_14 ?_
  refine zaload_n (k := 13) rfl rfl ?_
  refine zgI 13 (k := 14) rfl ob_289 fl_12_51 rfl fx_289_13 ?_
  rw [hb]
  refine ziaload (k := 15) rfl ar_291 ⟨by omega, by omega⟩ ?_
  rw [h0_q.2.1.1.1]
  refine ziaddB (k := 16) rfl (by omega) ?_
  refine zistore_n (k := 17) (ls' := [_, _, _, _, _, _]) rfl (Nat.le_of_ble_eq_true rfl) rfl ?_
  refine ziload_n (k := 18) rfl rfl ?_
  refine ziload_n (k := 19) rfl rfl ?_
  refine ziload_n (k := 20) rfl rfl ?_
  refine zaload_n (k := 21) rfl rfl ?_
  refine zgF 21 (k := 22) rfl ob_289 fl_12_75 rfl fx_289_21 ?_
  refine zaload_n (k := 23) rfl rfl ?_
  refine zgI 13 (k := 24) rfl ob_289 fl_12_51 rfl fx_289_13 ?_
  rw [hb]
  refine ziaload (k := 25) rfl ar_298 ⟨by omega, by omega⟩ ?_
  rw [h0_q.2.1.1.2.2.1]
  refine zimulB (k := 26) rfl (by omega) ?_
  refine ziaddB (k := 27) rfl (by omega) ?_
  refine ziconst (k := 28) rfl (by decide) ?_
  refine ziaddB (k := 29) rfl (by omega) ?_
  refine zicmp_ne (k := 30) rfl rfl (fun c1_q => ?_) (fun c1_q => ?_)
  · skip
    refine ziconst (k := 36) rfl (by decide) ?_
    refine zzreturn (k := 37) rfl rfl (by first | exact Or.inl rfl | exact Or.inr rfl | omega) rfl ?_
    rw [← hQ]
    exact ⟨rfl, _, rfl, Or.inl ⟨rfl, fun q => by have q1_q := q.1.1; have q2_q := q.2.1; omega, fun _ _ _ => rfl⟩⟩
  · skip
    have hn : n = 3 + 4 * Wm 0 1 + Wm 0 3 * (6 + Wm 0 1) := by omega
    have t0_q := T0 (by omega) (by omega)
    have t1_q := T1 (by omega) (by omega)
    refine zaload_n (k := 31) rfl rfl ?_
    refine ziconst (k := 32) rfl (by decide) ?_
    refine zfV1 (k := 33) rfl (c_M_twoBytes (p := 0) (by rw [t0_q.1]; omega) (by rw [show (0 : Int) + 1 = 1 from rfl, t1_q.1]; omega) (by omega)) fm_M_twoBytes lk_12_545 rfl rfl ob_289 ⟨_, rfl, rfl⟩ (Nat.le_of_ble_eq_true rfl) (by decide) ⟨by decide, by decide⟩ ?_
    rw [show (0 : Int) + 1 = 1 from rfl, t0_q.1, t1_q.1]
    refine zsipush (k := 34) rfl rfl ?_
    refine zicmp_le (k := 35) rfl rfl (fun c2_q => ?_) (fun c2_q => ?_)
    · skip
      refine zsipush (k := 38) rfl rfl ?_
      refine zistore (k := 39) (ls' := [_, _, _, _, _, _]) rfl (Nat.le_of_ble_eq_true rfl) rfl ?_
      refine ziconst (k := 40) rfl (by decide) ?_
      refine zistore (k := 41) (ls' := [_, _, _, _, _, _]) rfl (Nat.le_of_ble_eq_true rfl) rfl ?_
      have lp67_q : ∀ (g : Nat) (k : Nat), ((n - 1).toNat - k) < g → ((k : Int) ≤ n - 1) → zV Γ m_M_comesOn 2 0 0 Q (GM L) (0, 0) 67 [some (zR 289), some (zI n), some (zI (2 + 4 * Wm 0 1)), some (zI (6 + Wm 0 1)), some (zI (imS (σ 290) k)), some (zI k)] [] σ := by
        intro g
        induction g with
        | zero => intro k hg; exact absurd hg (Nat.not_lt_zero _)
        | succ g ih67_q =>
          intro k hg hk
          have sb := imS_b (σ 290) k
          refine ziload (k := 42) rfl rfl ?_
          refine ziload_n (k := 43) rfl rfl ?_
          refine ziconst (k := 44) rfl (by decide) ?_
          refine zisubB (k := 45) rfl (by omega) ?_
          refine zicmp_ge (k := 46) rfl rfl (fun c3_q => ?_) (fun c3_q => ?_)
          · skip
            have hs : imS (σ 290) (n - 1).toNat = imS T (n - 1).toNat := dn_sum hT _ (by omega)
            rw [show k = (n - 1).toNat by omega, hs]
            refine zaload_n (k := 60) rfl rfl ?_
            refine zgF 0 (k := 61) rfl ob_289 fl_12_7 rfl fx_289_0 ?_
            refine ziload_n (k := 62) rfl rfl ?_
            refine ziconst (k := 63) rfl (by decide) ?_
            refine zisubB (k := 64) rfl (by omega) ?_
            refine ziaload (k := 65) rfl ar_290 ⟨by omega, by omega⟩ ?_
            have tn := hT (n - 1) (by omega) (by omega)
            rw [tn.1]
            refine ziload (k := 66) rfl rfl ?_
            refine zicmp_eq (k := 67) rfl rfl (fun c4_q => ?_) (fun c4_q => ?_)
            · skip
              have okh : okH T Wm n := ⟨hn, by omega⟩
              obtain ⟨wk, ewk⟩ : ∃ wk : Int, wk = 256 * T 0 + T 1 := ⟨_, rfl⟩
              refine zaload_n (k := 70) rfl rfl ?_
              refine ziconst (k := 71) rfl (by decide) ?_
              refine ziconst (k := 72) rfl (by decide) ?_
              refine zpV0 (k := 73) rfl (k_mcopy1 (t := 1) (f := 0) ⟨by omega, by omega⟩ ⟨by omega, by omega⟩ (by omega) h0_q.1 b12_q) fm_M_copies lk_12_420 rfl rfl ob_289 ⟨_, rfl, rfl⟩ (Nat.le_of_ble_eq_true rfl) (by decide) ⟨by decide, by decide⟩ (fun σ1 h1_q => ?_)
              refine zaload_n (k := 74) rfl rfl ?_
              refine zgF 45 (k := 75) rfl ob_289 fl_12_150 rfl fx_289_45 ?_
              refine ziconst (k := 76) rfl (by decide) ?_
              refine zaload_n (k := 77) rfl rfl ?_
              refine ziconst (k := 78) rfl (by decide) ?_
              refine zfV1 (k := 79) rfl (c_M_twoBytes (p := 0) (by rw [h1_q.2 290 0 (by unfold inV; omega), t0_q.1]; omega) (by rw [show (0 : Int) + 1 = 1 from rfl, h1_q.2 290 1 (by unfold inV; omega), t1_q.1]; omega) (by omega)) fm_M_twoBytes lk_12_545 rfl rfl ob_289 ⟨_, rfl, rfl⟩ (Nat.le_of_ble_eq_true rfl) (by decide) ⟨by decide, by decide⟩ ?_
              rw [show (0 : Int) + 1 = 1 from rfl, h1_q.2 290 0 (by unfold inV; omega), h1_q.2 290 1 (by unfold inV; omega), t0_q.1, t1_q.1, ← ewk]
              refine ziastore (k := 80) rfl ar_315 ⟨by omega, by omega⟩ (by omega) ?_
              refine zaload_n (k := 81) rfl rfl ?_
              refine zgF 55 (k := 82) rfl ob_289 fl_12_180 rfl fx_289_55 ?_
              refine ziconst (k := 83) rfl (by decide) ?_
              refine ziconst (k := 84) rfl (by decide) ?_
              refine ziastore (k := 85) rfl ar_325 ⟨by omega, by omega⟩ (by omega) ?_
              have ob9_q : only1 σ (zup (zup σ1 315 1 wk) 325 1 0) := fun x k q => by rw [zup_n (fun e => q (by unfold inV; omega)), zup_n (fun e => q (by unfold inV; omega))]; exact h1_q.2 x k q
              refine ziconst (k := 86) rfl (by decide) ?_
              refine zistore (k := 87) (ls' := [_, _, _, _, _, _]) rfl (Nat.le_of_ble_eq_true rfl) rfl ?_
              refine zforget (ls' := [_, _, _, _, _, _]) 4 rfl ?_
              have lp141_q : ∀ (g : Nat) (j : Nat) (σ2 : zv_H), ((Wm 0 1).toNat - j) < g → ((j : Int) ≤ Wm 0 1) → (only1 σ σ2) → (stC T σ2 j) → (σ2 315 1 = wk ∧ σ2 325 1 = 0) → (okC T Wm j) → zV Γ m_M_comesOn 2 0 0 Q (GM L) (0, 0) 141 [some (zR 289), some (zI n), some (zI (2 + 4 * Wm 0 1)), some (zI (6 + Wm 0 1)), none, some (zI j)] [] σ2 := by
                intro g
                induction g with
                | zero => intro j σ2 hg; exact absurd hg (Nat.not_lt_zero _)
                | succ g ih141_q =>
                  intro j σ2 hg hj o2_q hC e15_q hoc
                  have n291_q : σ2 291 b = Wm 0 1 := by rw [o2_q 291 b (by unfold inV; omega)]; exact h0_q.2.1.1.1
                  have n298_q : σ2 298 b = Wm 0 3 := by rw [o2_q 298 b (by unfold inV; omega)]; exact h0_q.2.1.1.2.2.1
                  have bk2_q : σ2 289 13 = b := (o2_q 289 13 (by unfold inV; omega)).trans hb
                  have q292_q : ∀ c, 0 ≤ c → c < Wm 0 1 → σ2 292 (7 * b + c) = Wm 2 c := fun c q1_q q2_q => by rw [o2_q 292 _ (by unfold inV; omega)]; exact (h0_q.2.1.2.1 c q1_q q2_q).1
                  refine ziload (k := 88) rfl rfl ?_
                  refine zaload_n (k := 89) rfl rfl ?_
                  refine zgF 14 (k := 90) rfl ob_289 fl_12_54 rfl fx_289_14 ?_
                  refine zaload_n (k := 91) rfl rfl ?_
                  refine zgI 13 (k := 92) rfl ob_289 fl_12_51 rfl fx_289_13 ?_
                  rw [bk2_q]
                  refine ziaload (k := 93) rfl ar_291 ⟨by omega, by omega⟩ ?_
                  rw [n291_q]
                  refine zicmp_ge (k := 94) rfl rfl (fun c5_q => ?_) (fun c5_q => ?_)
                  · skip
                    refine ziconst (k := 108) rfl (by decide) ?_
                    refine zistore (k := 109) (ls' := [_, _, _, _, _, _]) rfl (Nat.le_of_ble_eq_true rfl) rfl ?_
                    have ej : (j : Int) = Wm 0 1 := by omega
                    rw [ej] at hC
                    have hoc2_q : okC T Wm (Wm 0 1).toNat := by rw [show (Wm 0 1).toNat = j by omega]; exact hoc
                    have lp181_q : ∀ (g : Nat) (m : Nat) (σ2 : zv_H), ((Wm 0 3).toNat - m) < g → ((m : Int) ≤ Wm 0 3) → (only1 σ σ2) → (stC T σ2 (Wm 0 1)) → (stP T (Wm 0 1) wk σ2 m) → (σ2 315 1 = wk ∧ σ2 325 1 = 0) → (okM T (Wm 0 1) m) → zV Γ m_M_comesOn 2 0 0 Q (GM L) (0, 0) 181 [some (zR 289), some (zI n), some (zI (2 + 4 * Wm 0 1)), some (zI (6 + Wm 0 1)), none, some (zI m)] [] σ2 := by
                      intro g
                      induction g with
                      | zero => intro m σ2 hg; exact absurd hg (Nat.not_lt_zero _)
                      | succ g ih181_q =>
                        intro m σ2 hg hm o2_q hC hP e15_q hom
                        have n298_q : σ2 298 b = Wm 0 3 := by rw [o2_q 298 b (by unfold inV; omega)]; exact h0_q.2.1.1.2.2.1
                        have bk2_q : σ2 289 13 = b := (o2_q 289 13 (by unfold inV; omega)).trans hb
                        have pe : 2 + 4 * Wm 0 1 + (6 + Wm 0 1) * m = pM (Wm 0 1) m := sum_c
                        have pb := pM_b (nc := Wm 0 1) (m := m) w1_q (by omega)
                        have pn : pM (Wm 0 1) (Wm 0 3) = n - 1 := by unfold pM; omega
                        refine ziload (k := 110) rfl rfl ?_
                        refine zaload_n (k := 111) rfl rfl ?_
                        refine zgF 21 (k := 112) rfl ob_289 fl_12_75 rfl fx_289_21 ?_
                        refine zaload_n (k := 113) rfl rfl ?_
                        refine zgI 13 (k := 114) rfl ob_289 fl_12_51 rfl fx_289_13 ?_
                        rw [bk2_q]
                        refine ziaload (k := 115) rfl ar_298 ⟨by omega, by omega⟩ ?_
                        rw [n298_q]
                        refine zicmp_ge (k := 116) rfl rfl (fun c6_q => ?_) (fun c6_q => ?_)
                        · skip
                          refine ziconst (k := 130) rfl (by decide) ?_
                          refine zzreturn (k := 131) rfl rfl (by first | exact Or.inl rfl | exact Or.inr rfl | omega) rfl ?_
                          rw [← hQ]
                          have em : (m : Int) = Wm 0 3 := by omega
                          rw [em] at hP
                          have hok : okA T Wm n := ⟨okh, ⟨by omega, by omega⟩, hoc2_q, by rw [show (Wm 0 3).toNat = m by omega]; exact hom⟩
                          exact ⟨rfl, _, rfl, Or.inr ⟨rfl, hok, rdA_rM hWI (fun k q1_q q2_q => (hT k q1_q q2_q).2) hok ewk hC hP e15_q.1 e15_q.2, wM_fr h0_q.2.1 (fun x k q1_q q2_q => o2_q x k (by unfold inV; omega)), bk2_q, fun x k q _ _ => o2_q x k q⟩⟩
                        · skip
                          refine zaload_n (k := 117) rfl rfl ?_
                          refine ziload (k := 118) rfl rfl ?_
                          refine ziload_n (k := 119) rfl rfl ?_
                          refine ziload_n (k := 120) rfl rfl ?_
                          refine ziload (k := 121) rfl rfl ?_
                          refine zimulB (k := 122) rfl (by omega) ?_
                          refine ziaddB (k := 123) rfl (by omega) ?_
                          have pl := pM_le (Wm 0 1) ((m : Int) + 1) (Wm 0 3) (by omega) w1_q.1
                          have ps := pM_s (Wm 0 1) m
                          rw [pe]
                          refine zpVI (k := 124) rfl (c_M_manOn (σ := σ2) (Wm := Wm) (b := b) (T := T) (wk := wk) ((o2_q 289 13 (by unfold inV; omega)).trans hb) hb1_q (by rw [o2_q 291 b (by unfold inV; omega)]; exact h0_q.2.1.1.1) w1_q e15_q.1 (by omega) ⟨by omega, by omega⟩ ⟨by omega, by omega⟩ (fun k q1_q q2_q => by rw [o2_q 290 k (by unfold inV; omega)]; exact hT k (by omega) (by omega))) fm_M_manOn lk_12_551 rfl rfl ob_289 ⟨_, rfl, rfl⟩ (Nat.le_of_ble_eq_true rfl) (by decide) ⟨by decide, by decide⟩ (fun z σ3 h3_q => ?_)
                          refine zif_ne (k := 125) rfl rfl (fun c7_q => ?_) (fun c7_q => ?_)
                          · skip
                            refine ziincB (k := 128) (ls' := [_, _, _, _, _, _]) rfl rfl (by decide) (by omega) rfl ?_
                            refine zgoto (k := 129) rfl rfl ?_
                            have cd := (mOK_P (fun i q1_q q2_q => (hT _ (by omega) (by omega)).2)).mp (h3_q.2.1.mp (by omega))
                            obtain ⟨_, _, h3e_q⟩ := h3_q
                            subst h3e_q
                            refine ih181_q (m + 1) _ (by omega) (by omega) (fun x k q => ?_) (stC_n hC (fun x k q1_q q2_q => ?_)) (stP_s w1_q hP) ⟨?_, ?_⟩ (by rw [okM_s]; exact ⟨hom, cd, okK_b _ (fun c q1_q q2_q => (hT _ (by omega) (by omega)).2)⟩)
                            · unfold duM
                              rw [if_neg (fun e => q (by unfold inV; omega)), zup_n (fun e => q (by unfold inV; omega)), zup_n (fun e => q (by unfold inV; omega)), zup_n (fun e => q (by unfold inV; omega)), zup_n (fun e => q (by unfold inV; omega)), zup_n (fun e => q (by unfold inV; omega))]
                              exact o2_q x k q
                            · rw [duM_n (by omega), zup_n (by omega), zup_n (by omega), zup_n (by omega), zup_n (by omega), zup_n (by omega)]
                            · rw [duM_n (by omega), zup_n (by omega), zup_n (by omega), zup_n (by omega), zup_n (by omega), zup_n (by omega)]; exact e15_q.1
                            · rw [duM_n (by omega), zup_n (by omega), zup_n (by omega), zup_n (by omega), zup_n (by omega), zup_n (by omega)]; exact e15_q.2
                          · skip
                            refine ziconst (k := 126) rfl (by decide) ?_
                            refine zzreturn (k := 127) rfl rfl (by first | exact Or.inl rfl | exact Or.inr rfl | omega) rfl ?_
                            rw [← hQ]
                            refine ⟨rfl, _, rfl, Or.inl ⟨rfl, fun q => ?_, fun x k i => ?_⟩⟩
                            · have qm := okM_le (j := m + 1) ((Wm 0 3).toNat - (m + 1)) (by rw [show m + 1 + ((Wm 0 3).toNat - (m + 1)) = (Wm 0 3).toNat by omega]; exact q.2.2.2)
                              rw [okM_s] at qm
                              have := h3_q.2.1.mpr ((mOK_P (fun i q1_q q2_q => (hT _ (by omega) (by omega)).2)).mpr qm.2.1)
                              omega
                            · rw [h3_q.2.2]
                              unfold duM
                              rw [if_neg (fun e => i (by unfold inV; omega)), zup_n (fun e => i (by unfold inV; omega)), zup_n (fun e => i (by unfold inV; omega)), zup_n (fun e => i (by unfold inV; omega)), zup_n (fun e => i (by unfold inV; omega)), zup_n (fun e => i (by unfold inV; omega))]
                              exact o2_q x k i
                    exact lp181_q _ 0 _ (Nat.lt_succ_self _) (by omega) o2_q hC (fun m q1_q q2_q => by omega) e15_q trivial
                  · skip
                    refine zaload_n (k := 95) rfl rfl ?_
                    refine ziload (k := 96) rfl rfl ?_
                    refine ziconst (k := 97) rfl (by decide) ?_
                    refine ziconst (k := 98) rfl (by decide) ?_
                    refine ziload (k := 99) rfl rfl ?_
                    refine zimulB (k := 100) rfl (by omega) ?_
                    refine ziaddB (k := 101) rfl (by omega) ?_
                    refine zpVI (k := 102) rfl (c_M_countyOn (σ := σ2) (Wm := Wm) (b := b) (T := T) ((o2_q 289 13 (by unfold inV; omega)).trans hb) hb1_q ⟨by omega, by omega⟩ ⟨by omega, by omega⟩ (fun k q1_q q2_q => by rw [o2_q 290 k (by unfold inV; omega)]; exact hT k (by omega) (by omega))) fm_M_countyOn lk_12_548 rfl rfl ob_289 ⟨_, rfl, rfl⟩ (Nat.le_of_ble_eq_true rfl) (by decide) ⟨by decide, by decide⟩ (fun z σ3 h3_q => ?_)
                    refine zif_ne (k := 103) rfl rfl (fun c8_q => ?_) (fun c8_q => ?_)
                    · skip
                      refine ziincB (k := 106) (ls' := [_, _, _, _, _, _]) rfl rfl (by decide) (by omega) rfl ?_
                      refine zgoto (k := 107) rfl rfl ?_
                      have tj : ∀ i : Int, 0 ≤ i → i < 4 → 0 ≤ T (2 + 4 * (j : Int) + i) ∧ T (2 + 4 * (j : Int) + i) ≤ 255 := fun i q1_q q2_q => (hT _ (by omega) (by omega)).2
                      have tj0_q := tj 0 (by omega) (by omega)
                      have tj1_q := tj 1 (by omega) (by omega)
                      have tj2_q := tj 2 (by omega) (by omega)
                      have tj3_q := tj 3 (by omega) (by omega)
                      rw [Int.add_zero] at tj0_q
                      have cd := h3_q.2.1.mp (by omega)
                      rw [q292_q j (by omega) (by omega)] at cd
                      obtain ⟨_, _, h3e_q⟩ := h3_q
                      subst h3e_q
                      refine ih141_q (j + 1) _ (by omega) (by omega) (fun x k q => ?_) (stC_s hC) ⟨by rw [zup_n (by omega), zup_n (by omega), zup_n (by omega)]; exact e15_q.1, by rw [zup_n (by omega), zup_n (by omega), zup_n (by omega)]; exact e15_q.2⟩ (by rw [okC_s]; exact ⟨hoc, ⟨tj0_q.1, cd.1⟩, ⟨by omega, cd.2.1⟩, ⟨tj3_q.1, cd.2.2⟩⟩)
                      rw [zup_n (fun e => q (by unfold inV; omega)), zup_n (fun e => q (by unfold inV; omega)), zup_n (fun e => q (by unfold inV; omega))]
                      exact o2_q x k q
                    · skip
                      refine ziconst (k := 104) rfl (by decide) ?_
                      refine zzreturn (k := 105) rfl rfl (by first | exact Or.inl rfl | exact Or.inr rfl | omega) rfl ?_
                      rw [← hQ]
                      refine ⟨rfl, _, rfl, Or.inl ⟨rfl, fun q => ?_, fun x k i => ?_⟩⟩
                      · have qc := okC_le (j := j + 1) ((Wm 0 1).toNat - (j + 1)) (by rw [show j + 1 + ((Wm 0 1).toNat - (j + 1)) = (Wm 0 1).toNat by omega]; exact q.2.2.1)
                        rw [okC_s] at qc
                        have := h3_q.2.1.mpr ⟨by rw [q292_q j (by omega) (by omega)]; exact qc.2.1.2, qc.2.2.1.2, qc.2.2.2.2⟩
                        omega
                      · rw [h3_q.2.2, zup_n (fun e => i (by unfold inV; omega)), zup_n (fun e => i (by unfold inV; omega)), zup_n (fun e => i (by unfold inV; omega))]
                        exact o2_q x k i
              exact lp141_q _ 0 _ (Nat.lt_succ_self _) (by omega) ob9_q (fun c q1_q q2_q => by omega) ⟨by rw [zup_n (by omega), zup_s], by rw [zup_s]⟩ trivial
            · skip
              refine ziconst (k := 68) rfl (by decide) ?_
              refine zzreturn (k := 69) rfl rfl (by first | exact Or.inl rfl | exact Or.inr rfl | omega) rfl ?_
              rw [← hQ]
              exact ⟨rfl, _, rfl, Or.inl ⟨rfl, fun q => by have q1_q := q.1.2; omega, fun _ _ _ => rfl⟩⟩
          · skip
            refine ziconst (k := 47) rfl (by decide) ?_
            refine ziload (k := 48) rfl rfl ?_
            refine zimulB (k := 49) rfl (by omega) ?_
            refine zaload_n (k := 50) rfl rfl ?_
            refine zgF 0 (k := 51) rfl ob_289 fl_12_7 rfl fx_289_0 ?_
            refine ziload (k := 52) rfl rfl ?_
            refine ziaload (k := 53) rfl ar_290 ⟨by omega, by omega⟩ ?_
            have tk := hT k (by omega) (by omega)
            refine ziaddB (k := 54) rfl (by omega) ?_
            refine zsipush (k := 55) rfl rfl ?_
            refine ziremP (k := 56) rfl (by omega) ?_
            refine zistore (k := 57) (ls' := [_, _, _, _, _, _]) rfl (Nat.le_of_ble_eq_true rfl) rfl ?_
            refine ziincB (k := 58) (ls' := [_, _, _, _, _, _]) rfl rfl (by decide) (by omega) rfl ?_
            refine zgoto (k := 59) rfl rfl ?_
            exact ih67_q (k + 1) (by omega) (by omega)
      exact lp67_q _ 0 (Nat.lt_succ_self _) (by omega)
    · skip
      refine ziconst (k := 36) rfl (by decide) ?_
      refine zzreturn (k := 37) rfl rfl (by first | exact Or.inl rfl | exact Or.inr rfl | omega) rfl ?_
      rw [← hQ]
      exact ⟨rfl, _, rfl, Or.inl ⟨rfl, fun q => by have q1_q := q.1.1; have q2_q := q.2.1; omega, fun _ _ _ => rfl⟩⟩
