/-! behind a STATEMENT -/
theorem tK_nz {T : Int → Int} {p : Int} (h : T (tQ T p) ≠ -1) : tK T p ≠ 0 := by
  by_cases a : alnm (T (tQ T p))
  · by_cases b : tS T p
    · rw [tK_4 h a b]; decide
    · rw [tK_k h a b]
      unfold tK0
      split
      · split <;> decide
      · split <;> decide
  · rw [tK_3 h a]; decide
noncomputable def fnR (T : Int → Int) (p m : Int) : zX Int := @ite (zX Int) (isSg T p 59 ∧ m = 80 ∧ tK T (tN T p) ≠ 0) (Classical.propDecidable _) (Sum.inr (6, tQ T (tN T p))) (tkSign T 59 p)
set_option maxHeartbeats 4000000 in
set_option maxRecDepth 20000 in
theorem g_fin5 {Γ : zv_M} {L : Int} {s : zSpan} {σ : zv_H} {T : Int → Int} {n i p m : Int} {A : zv_H} (h : rdR s σ T n i A (Sum.inl p)) (k4_q : tK T p ≠ 4) (hm : 0 ≤ m ∧ m ≤ 100)  : zC Γ m_M_finishes 4 0 0 (GM L) [zR 289, zI m] σ (zP0 (GM L) (fun σ' => rdR s σ' T n i A (fnR T p m) ∧ sfe σ σ')) := by
  refine zC_of (ls0 := [_, _, _]) zm_M_finishes (by decide) rfl (Nat.le_of_ble_eq_true rfl) ?_
  generalize hQ : (zP0 (GM L) (fun σ' => rdR s σ' T n i A (fnR T p m) ∧ sfe σ σ')) = Q
  have hc : rdR s σ T n i A (Sum.inl p) ∧ True := ⟨h, trivial⟩
  have f8_q := hc.1.2.2.2.2.1
  have sq := hc.1.2.2.2.2.2.2.1
  have tr := h.2.1
  have hTT := tr.2.1
  have hpp := h.2.2.2.2.2.1
  have h5_q := (h.2.2.2.2.2.2.2.2.1 k4_q).2.2
  have hT0 := hTT.1
  have hP : 0 ≤ tN T p ∧ (tK T p = 3 → tN T p ≤ n) ∧ tN T p ≤ 3200 := by
    have r := tK_r T p
    by_cases k0_q : tK T p = 0
    · have sb := skp_b (T := T) 1600 p
      rw [show skp T 1600 p = tQ T p from rfl] at sb
      have e : tN T p = tQ T p := if_pos k0_q
      omega
    · have t := tN_c hTT hpp (by omega)
      omega
  refine zaload_n (k := 0) rfl rfl ?_
  refine zpV0 (k := 1) rfl (q_lex h) fm_M_lex lk_12_250 rfl rfl ob_289 ⟨_, rfl, rfl⟩ (Nat.le_of_ble_eq_true rfl) (by decide) ⟨by decide, by decide⟩ (fun σ1 l1_q => ?_)
  obtain ⟨_, rfl⟩ : tK T p ≠ 4 ∧ σ = σ1 := by
    rcases l1_q with q | q
    · exact ⟨q.1, q.2.symm⟩
    · exact absurd q.1 k4_q
  refine zaload_n (k := 2) rfl rfl ?_
  refine zgI 8 (k := 3) rfl ob_289 fl_12_36 rfl fx_289_8 ?_
  rw [f8_q]
  refine zif_le (k := 4) rfl rfl (fun c1_q => ?_) (fun c1_q => ?_)
  · skip
    refine zaload_n (k := 6) rfl rfl ?_
    refine zgI 5 (k := 7) rfl ob_289 fl_12_26 rfl fx_289_5 ?_
    rw [h5_q]
    refine zistore_n (k := 8) (ls' := [_, _, _]) rfl (Nat.le_of_ble_eq_true rfl) rfl ?_
    have lp17_q : ∀ (g : Nat) (j : Nat), ((n - tN T p).toNat - j) < g → ((j : Int) = 0 ∨ tN T p + (j : Int) ≤ n) → (∀ i, tN T p ≤ i → i < tN T p + j → T i = 10 ∨ T i = 32) → zV Γ m_M_finishes 4 0 0 Q (GM L) (0, 0) 17 [some (zR 289), some (zI m), some (zI (tN T p + j))] [] σ := by
      intro g
      induction g with
      | zero => intro j hg; exact absurd hg (Nat.not_lt_zero _)
      | succ g ih17_q =>
        intro j hg hj hbl
        refine ziload_n (k := 9) rfl rfl ?_
        refine zaload_n (k := 10) rfl rfl ?_
        refine zgI 2 (k := 11) rfl ob_289 fl_12_17 rfl fx_289_2 ?_
        rw [tr.1]
        refine zicmp_ge (k := 12) rfl rfl (fun c2_q => ?_) (fun c2_q => ?_)
        · skip
          -- ENDED
          refine zaload_n (k := 27) rfl rfl ?_
          refine zbipush (k := 28) rfl rfl ?_
          refine zfV1 (k := 29) rfl c_M_isSign fm_M_isSign lk_12_253 rfl rfl ob_289 ⟨_, rfl, rfl⟩ (Nat.le_of_ble_eq_true rfl) (by decide) ⟨by decide, by decide⟩ ?_
          rw [isS_e hc.1.2.2.2.2.2.2 k4_q]
          obtain ⟨z56_q, e56_q⟩ : ∃ z : Int, z = (if isSg T p 59 then 1 else 0) := ⟨_, rfl⟩
          rw [← e56_q]
          have l56_q := ite_o e56_q
          clear e56_q
          refine zif_eq (k := 30) rfl rfl (fun c3_q => ?_) (fun c3_q => ?_)
          · skip
            -- NOSG
            have w56_q := or_0 l56_q (by assumption)
            clear l56_q
            refine zaload_n (k := 42) rfl rfl ?_
            refine zbipush (k := 43) rfl rfl ?_
            refine zpV0 (k := 44) rfl (q_must h) fm_M_must lk_12_402 rfl rfl ob_289 ⟨_, rfl, rfl⟩ (Nat.le_of_ble_eq_true rfl) (by decide) ⟨by decide, by decide⟩ (fun σ3 b3_q => ?_)
            obtain ⟨h3_q, e3_q⟩ := b3_q
            refine zreturn (k := 45) rfl rfl rfl ?_
            rw [← hQ]
            refine ⟨rfl, rfl, ?_⟩
            unfold fnR
            rw [if_neg (fun q => w56_q q.1)]
            exact ⟨h3_q, e3_q⟩
          · skip
            have w56_q := or_1 l56_q (by assumption)
            clear l56_q
            refine ziload_n (k := 31) rfl rfl ?_
            refine zbipush (k := 32) rfl rfl ?_
            refine zicmp_ne (k := 33) rfl rfl (fun c4_q => ?_) (fun c4_q => ?_)
            · skip
              -- NO80
              refine zaload_n (k := 42) rfl rfl ?_
              refine zbipush (k := 43) rfl rfl ?_
              refine zpV0 (k := 44) rfl (q_must h) fm_M_must lk_12_402 rfl rfl ob_289 ⟨_, rfl, rfl⟩ (Nat.le_of_ble_eq_true rfl) (by decide) ⟨by decide, by decide⟩ (fun σ3 b3_q => ?_)
              obtain ⟨h3_q, e3_q⟩ := b3_q
              refine zreturn (k := 45) rfl rfl rfl ?_
              rw [← hQ]
              refine ⟨rfl, rfl, ?_⟩
              unfold fnR
              rw [if_neg (fun q => absurd q.2.1 (by omega))]
              exact ⟨h3_q, e3_q⟩
            · skip
              refine ziload_n (k := 34) rfl rfl ?_
              refine zaload_n (k := 35) rfl rfl ?_
              refine zgI 2 (k := 36) rfl ob_289 fl_12_17 rfl fx_289_2 ?_
              rw [tr.1]
              refine zicmp_ge (k := 37) rfl rfl (fun c5_q => ?_) (fun c5_q => ?_)
              · skip
                refine zaload_n (k := 42) rfl rfl ?_
                refine zbipush (k := 43) rfl rfl ?_
                refine zpV0 (k := 44) rfl (q_must h) fm_M_must lk_12_402 rfl rfl ob_289 ⟨_, rfl, rfl⟩ (Nat.le_of_ble_eq_true rfl) (by decide) ⟨by decide, by decide⟩ (fun σ3 b3_q => ?_)
                obtain ⟨h3_q, e3_q⟩ := b3_q
                refine zreturn (k := 45) rfl rfl rfl ?_
                have eq : tQ T (tN T p) = tN T p + (j : Int) := skp_u (T := T) (g := 1600) (p := tN T p) (q := tN T p + j) (by omega) hbl (by
                  have q := hTT.2.2 (tN T p + j) (by omega); omega) (by have q := hTT.2.2 (tN T p + ((1600 : Nat) : Int)) (by omega); omega)
                have hnz : tK T (tN T p) = 0 := tK_0 (by rw [eq]; exact hTT.2.2 _ (by omega))
                rw [← hQ]
                refine ⟨rfl, rfl, ?_⟩
                unfold fnR
                rw [if_neg (fun q => q.2.2 hnz)]
                exact ⟨h3_q, e3_q⟩
              · exfalso; omega
        · skip
          refine zaload_n (k := 13) rfl rfl ?_
          refine zgF 0 (k := 14) rfl ob_289 fl_12_7 rfl fx_289_0 ?_
          refine ziload_n (k := 15) rfl rfl ?_
          refine ziaload (k := 16) rfl ar_290 ⟨by omega, by omega⟩ ?_
          rw [tr.2.2 _ (by omega) (by omega)]
          refine zbipush (k := 17) rfl rfl ?_
          refine zicmp_eq (k := 18) rfl rfl (fun c6_q => ?_) (fun c6_q => ?_)
          · skip
            refine ziincB (k := 25) (ls' := [_, _, _]) rfl rfl (by decide) (by omega) rfl ?_
            refine zgoto (k := 26) rfl rfl ?_
            have rr := ih17_q (j + 1) (by omega) (by omega) (fun i q1_q q2_q => by
              by_cases e : i = tN T p + j
              · rw [e]; omega
              · exact hbl i q1_q (by omega))
            rw [show tN T p + ((j + 1 : Nat) : Int) = tN T p + j + 1 by omega] at rr
            exact rr
          · skip
            refine zaload_n (k := 19) rfl rfl ?_
            refine zgF 0 (k := 20) rfl ob_289 fl_12_7 rfl fx_289_0 ?_
            refine ziload_n (k := 21) rfl rfl ?_
            refine ziaload (k := 22) rfl ar_290 ⟨by omega, by omega⟩ ?_
            rw [tr.2.2 _ (by omega) (by omega)]
            refine zbipush (k := 23) rfl rfl ?_
            refine zicmp_ne (k := 24) rfl rfl (fun c7_q => ?_) (fun c7_q => ?_)
            · skip
              refine zaload_n (k := 27) rfl rfl ?_
              refine zbipush (k := 28) rfl rfl ?_
              refine zfV1 (k := 29) rfl c_M_isSign fm_M_isSign lk_12_253 rfl rfl ob_289 ⟨_, rfl, rfl⟩ (Nat.le_of_ble_eq_true rfl) (by decide) ⟨by decide, by decide⟩ ?_
              rw [isS_e hc.1.2.2.2.2.2.2 k4_q]
              obtain ⟨z56_q, e56_q⟩ : ∃ z : Int, z = (if isSg T p 59 then 1 else 0) := ⟨_, rfl⟩
              rw [← e56_q]
              have l56_q := ite_o e56_q
              clear e56_q
              refine zif_eq (k := 30) rfl rfl (fun c8_q => ?_) (fun c8_q => ?_)
              · skip
                -- NOSG
                have w56_q := or_0 l56_q (by assumption)
                clear l56_q
                refine zaload_n (k := 42) rfl rfl ?_
                refine zbipush (k := 43) rfl rfl ?_
                refine zpV0 (k := 44) rfl (q_must h) fm_M_must lk_12_402 rfl rfl ob_289 ⟨_, rfl, rfl⟩ (Nat.le_of_ble_eq_true rfl) (by decide) ⟨by decide, by decide⟩ (fun σ3 b3_q => ?_)
                obtain ⟨h3_q, e3_q⟩ := b3_q
                refine zreturn (k := 45) rfl rfl rfl ?_
                rw [← hQ]
                refine ⟨rfl, rfl, ?_⟩
                unfold fnR
                rw [if_neg (fun q => w56_q q.1)]
                exact ⟨h3_q, e3_q⟩
              · skip
                have w56_q := or_1 l56_q (by assumption)
                clear l56_q
                refine ziload_n (k := 31) rfl rfl ?_
                refine zbipush (k := 32) rfl rfl ?_
                refine zicmp_ne (k := 33) rfl rfl (fun c9_q => ?_) (fun c9_q => ?_)
                · skip
                  -- NO80
                  refine zaload_n (k := 42) rfl rfl ?_
                  refine zbipush (k := 43) rfl rfl ?_
                  refine zpV0 (k := 44) rfl (q_must h) fm_M_must lk_12_402 rfl rfl ob_289 ⟨_, rfl, rfl⟩ (Nat.le_of_ble_eq_true rfl) (by decide) ⟨by decide, by decide⟩ (fun σ3 b3_q => ?_)
                  obtain ⟨h3_q, e3_q⟩ := b3_q
                  refine zreturn (k := 45) rfl rfl rfl ?_
                  rw [← hQ]
                  refine ⟨rfl, rfl, ?_⟩
                  unfold fnR
                  rw [if_neg (fun q => absurd q.2.1 (by omega))]
                  exact ⟨h3_q, e3_q⟩
                · skip
                  refine ziload_n (k := 34) rfl rfl ?_
                  refine zaload_n (k := 35) rfl rfl ?_
                  refine zgI 2 (k := 36) rfl ob_289 fl_12_17 rfl fx_289_2 ?_
                  rw [tr.1]
                  refine zicmp_ge (k := 37) rfl rfl (fun c10_q => ?_) (fun c10_q => ?_)
                  · exfalso; omega
                  refine zaload_n (k := 38) rfl rfl ?_
                  refine zbipush (k := 39) rfl rfl ?_
                  refine ziload_n (k := 40) rfl rfl ?_
                  refine zpV0 (k := 41) rfl (q_blm (k := 6) (pl := tN T p + j) h f8_q (by omega)) fm_M_blame lk_12_239 rfl rfl ob_289 ⟨_, rfl, rfl⟩ (Nat.le_of_ble_eq_true rfl) (by decide) ⟨by decide, by decide⟩ (fun σ2 b2_q => ?_)
                  -- BLAMED
                  obtain ⟨h2_q, f9_q, fx⟩ := b2_q
                  refine zaload_n (k := 42) rfl rfl ?_
                  refine zbipush (k := 43) rfl rfl ?_
                  refine zpV0 (k := 44) rfl (q_must h2_q) fm_M_must lk_12_402 rfl rfl ob_289 ⟨_, rfl, rfl⟩ (Nat.le_of_ble_eq_true rfl) (by decide) ⟨by decide, by decide⟩ (fun σ3 b3_q => ?_)
                  obtain ⟨h3_q, e3_q⟩ := b3_q
                  refine zreturn (k := 45) rfl rfl rfl ?_
                  have eq : tQ T (tN T p) = tN T p + (j : Int) := skp_u (T := T) (g := 1600) (p := tN T p) (q := tN T p + j) (by omega) hbl (by
                    omega) (by have q := hTT.2.2 (tN T p + ((1600 : Nat) : Int)) (by omega); omega)
                  have hnz : tK T (tN T p) ≠ 0 := tK_nz (by rw [eq]; have q := hTT.2.1 (tN T p + j) (by omega) (by omega); omega)
                  rw [← hQ]
                  refine ⟨rfl, rfl, ?_⟩
                  unfold fnR
                  rw [if_pos ⟨w56_q, by omega, hnz⟩, eq]
                  exact ⟨h3_q, sfe_tr (fun x k q => fx x k (by omega)) e3_q⟩
            · skip
              refine ziincB (k := 25) (ls' := [_, _, _]) rfl rfl (by decide) (by omega) rfl ?_
              refine zgoto (k := 26) rfl rfl ?_
              have rr := ih17_q (j + 1) (by omega) (by omega) (fun i q1_q q2_q => by
                by_cases e : i = tN T p + j
                · rw [e]; omega
                · exact hbl i q1_q (by omega))
              rw [show tN T p + ((j + 1 : Nat) : Int) = tN T p + j + 1 by omega] at rr
              exact rr
    have rr := lp17_q ((n - tN T p).toNat + 1) 0 (by omega) (by omega) (fun i q1_q q2_q => by omega)
    rw [show tN T p + ((0 : Nat) : Int) = tN T p by omega] at rr
    exact rr
  · exfalso; omega
set_option maxHeartbeats 4000000 in
set_option maxRecDepth 20000 in
theorem g_fin4 {Γ : zv_M} {L : Int} {s : zSpan} {σ : zv_H} {T : Int → Int} {n i p m : Int} {A : zv_H} (h : rdR s σ T n i A (Sum.inl p)) (k4_q : tK T p = 4)  : zC Γ m_M_finishes 4 0 0 (GM L) [zR 289, zI m] σ (zP0 (GM L) (fun σ' => rdR s σ' T n i A (fnR T p m) ∧ sfe σ σ')) := by
  refine zC_of (ls0 := [_, _, _]) zm_M_finishes (by decide) rfl (Nat.le_of_ble_eq_true rfl) ?_
  generalize hQ : (zP0 (GM L) (fun σ' => rdR s σ' T n i A (fnR T p m) ∧ sfe σ σ')) = Q
  refine zaload_n (k := 0) rfl rfl ?_
  refine zpV0 (k := 1) rfl (q_lex h) fm_M_lex lk_12_250 rfl rfl ob_289 ⟨_, rfl, rfl⟩ (Nat.le_of_ble_eq_true rfl) (by decide) ⟨by decide, by decide⟩ (fun σ1 l1_q => ?_)
  obtain ⟨h1_q, f8_q, e1_q⟩ : rdR s σ1 T n i A (Sum.inr (1, tP T p)) ∧ σ1 289 8 = 1 ∧ sfe σ σ1 := by
    rcases l1_q with q | q
    · exact absurd k4_q q.1
    · exact q.2
  refine zaload_n (k := 2) rfl rfl ?_
  refine zgI 8 (k := 3) rfl ob_289 fl_12_36 rfl fx_289_8 ?_
  rw [f8_q]
  refine zif_le (k := 4) rfl rfl (fun c1_q => ?_) (fun c1_q => ?_)
  · exfalso; omega
  refine zreturn (k := 5) rfl rfl rfl ?_
  rw [← hQ]
  refine ⟨rfl, rfl, ?_⟩
  unfold fnR
  rw [if_neg (fun q => by have := q.1.1; omega), show tkSign T 59 p = Sum.inr (1, tP T p) from if_neg (fun q => by have q1_q := q.1; omega)]
  exact ⟨h1_q, e1_q⟩
set_option maxHeartbeats 4000000 in
set_option maxRecDepth 20000 in
theorem b_fin {Γ : zv_M} {L : Int} {σ : zv_H} (f8_q : 0 < σ 289 8) {m : Int}  : zC Γ m_M_finishes 4 0 0 (GM L) [zR 289, zI m] σ (zFn none (GM L) σ) := by
  refine zC_of (ls0 := [_, _, _]) zm_M_finishes (by decide) rfl (Nat.le_of_ble_eq_true rfl) ?_
  generalize hQ : (zFn none (GM L) σ) = Q
  refine zaload_n (k := 0) rfl rfl ?_
  refine zfV0 (k := 1) rfl (bad_lex f8_q) fm_M_lex lk_12_250 rfl rfl ob_289 ⟨_, rfl, rfl⟩ (Nat.le_of_ble_eq_true rfl) (by decide) ⟨by decide, by decide⟩ ?_
  refine zaload_n (k := 2) rfl rfl ?_
  refine zgI 8 (k := 3) rfl ob_289 fl_12_36 rfl fx_289_8 ?_
  refine zif_le (k := 4) rfl rfl (fun c1_q => ?_) (fun c1_q => ?_)
  · exfalso; omega
  refine zreturn (k := 5) rfl rfl rfl ?_
  rw [← hQ]
  exact ⟨rfl, rfl, rfl⟩
theorem c_M_finishes {Γ : zv_M} {L : Int} {s : zSpan} {σ : zv_H} {T : Int → Int} {n i p m : Int} {A : zv_H} (h : rdR s σ T n i A (Sum.inl p)) (hm : 0 ≤ m ∧ m ≤ 100) : zC Γ m_M_finishes 4 0 0 (GM L) [zR 289, zI m] σ (zP0 (GM L) (fun σ' => rdR s σ' T n i A (fnR T p m) ∧ sfe σ σ')) := by
  by_cases k4_q : tK T p = 4
  · exact g_fin4 h k4_q
  · exact g_fin5 h k4_q hm
