set_option maxHeartbeats 4000000 in
set_option maxRecDepth 20000 in
theorem g_stm5 {Γ : zv_M} {L : Int} {s : zSpan} {σ : zv_H} {T : Int → Int} {n i p : Int} {A : zv_H} {J K out : List (Int × Int)} {res : zX zSt} (hi1_q : i = 0 ∨ i = 1) (hs : ∀ x k, inZt i x k → s.2 x k) (hc : stS s σ T n i A J K out p) (hres : stR T n p A J K res) (k4_q : tK T p ≠ 4)  : zC Γ m_M_statement 6 0 0 (GM L) [zR 289] σ (zP0 (GM L) (fun σ' => stE s σ' T n i res)) := by
  refine zC_of (ls0 := [_]) zm_M_statement (by decide) rfl (Nat.le_of_ble_eq_true rfl) ?_
  generalize hQ : (zP0 (GM L) (fun σ' => stE s σ' T n i res)) = Q
  have f8_q := hc.1.2.2.2.2.1
  have sq := hc.1.2.2.2.2.2.2.1
  have hTT := hc.1.2.1.2.1
  have hpp := hc.1.2.2.2.2.2.1
  refine zaload_n (k := 0) rfl rfl ?_
  refine zpV0 (k := 1) rfl (q_lex hc.1) fm_M_lex lk_12_250 rfl rfl ob_289 ⟨_, rfl, rfl⟩ (Nat.le_of_ble_eq_true rfl) (by decide) ⟨by decide, by decide⟩ (fun σ1 l1_q => ?_)
  obtain ⟨_, rfl⟩ : tK T p ≠ 4 ∧ σ = σ1 := by
    rcases l1_q with q | q
    · exact ⟨q.1, q.2.symm⟩
    · exact absurd q.1 k4_q
  refine zaload_n (k := 2) rfl rfl ?_
  refine zgI 8 (k := 3) rfl ob_289 fl_12_36 rfl fx_289_8 ?_
  rw [f8_q]
  refine zif_le (k := 4) rfl rfl (fun c1_q => ?_) (fun c1_q => ?_)
  · skip
    refine zaload_n (k := 6) rfl rfl ?_
    refine zldc2 (k := 7) (z := 109330362692729) rfl kc_12_259 rfl ?_
    refine zfV1 (k := 8) rfl c_M_isWord fm_M_isWord lk_12_331 rfl rfl ob_289 ⟨_, rfl, rfl⟩ (Nat.le_of_ble_eq_true rfl) (by decide) ⟨by decide, by decide⟩ ?_
    rw [isW_e (w := 109330362692729) (u := 0) hc.1.2.2.2.2.2.2 k4_q (by omega) rfl]
    obtain ⟨z16_q, e16_q⟩ : ∃ z : Int, z = (if isOw T p 0 then 1 else 0) := ⟨_, rfl⟩
    rw [← e16_q]
    have l16_q := ite_o e16_q
    clear e16_q
    refine zif_eq (k := 9) rfl rfl (fun c2_q => ?_) (fun c2_q => ?_)
    · skip
      have w16_q := or_0 l16_q (by assumption)
      clear l16_q
      refine zaload_n (k := 13) rfl rfl ?_
      refine zldc2 (k := 14) (z := 1918986604) rfl kc_12_267 rfl ?_
      refine zfV1 (k := 15) rfl c_M_isWord fm_M_isWord lk_12_331 rfl rfl ob_289 ⟨_, rfl, rfl⟩ (Nat.le_of_ble_eq_true rfl) (by decide) ⟨by decide, by decide⟩ ?_
      rw [isW_e (w := 1918986604) (u := 4) hc.1.2.2.2.2.2.2 k4_q (by omega) rfl]
      obtain ⟨z33_q, e33_q⟩ : ∃ z : Int, z = (if isOw T p 4 then 1 else 0) := ⟨_, rfl⟩
      rw [← e33_q]
      have l33_q := ite_o e33_q
      clear e33_q
      refine zif_eq (k := 16) rfl rfl (fun c3_q => ?_) (fun c3_q => ?_)
      · skip
        have w33_q := or_0 l33_q (by assumption)
        clear l33_q
        refine zaload_n (k := 20) rfl rfl ?_
        refine zldc2 (k := 21) (z := 7168366) rfl kc_12_273 rfl ?_
        refine zfV1 (k := 22) rfl c_M_isWord fm_M_isWord lk_12_331 rfl rfl ob_289 ⟨_, rfl, rfl⟩ (Nat.le_of_ble_eq_true rfl) (by decide) ⟨by decide, by decide⟩ ?_
        rw [isW_e (w := 7168366) (u := 7) hc.1.2.2.2.2.2.2 k4_q (by omega) rfl]
        obtain ⟨z50_q, e50_q⟩ : ∃ z : Int, z = (if isOw T p 7 then 1 else 0) := ⟨_, rfl⟩
        rw [← e50_q]
        have l50_q := ite_o e50_q
        clear e50_q
        refine zif_eq (k := 23) rfl rfl (fun c4_q => ?_) (fun c4_q => ?_)
        · skip
          have w50_q := or_0 l50_q (by assumption)
          clear l50_q
          refine zaload_n (k := 27) rfl rfl ?_
          refine zldc2 (k := 28) (z := 457236639859) rfl kc_12_279 rfl ?_
          refine zfV1 (k := 29) rfl c_M_isWord fm_M_isWord lk_12_331 rfl rfl ob_289 ⟨_, rfl, rfl⟩ (Nat.le_of_ble_eq_true rfl) (by decide) ⟨by decide, by decide⟩ ?_
          rw [isW_e (w := 457236639859) (u := 10) hc.1.2.2.2.2.2.2 k4_q (by omega) rfl]
          obtain ⟨z67_q, e67_q⟩ : ∃ z : Int, z = (if isOw T p 10 then 1 else 0) := ⟨_, rfl⟩
          rw [← e67_q]
          have l67_q := ite_o e67_q
          clear e67_q
          refine zif_eq (k := 30) rfl rfl (fun c5_q => ?_) (fun c5_q => ?_)
          · skip
            have w67_q := or_0 l67_q (by assumption)
            clear l67_q
            refine zaload_n (k := 35) rfl rfl ?_
            refine zldc2 (k := 36) (z := 465625113971) rfl kc_12_281 rfl ?_
            refine zfV1 (k := 37) rfl c_M_isWord fm_M_isWord lk_12_331 rfl rfl ob_289 ⟨_, rfl, rfl⟩ (Nat.le_of_ble_eq_true rfl) (by decide) ⟨by decide, by decide⟩ ?_
            rw [isW_e (w := 465625113971) (u := 11) hc.1.2.2.2.2.2.2 k4_q (by omega) rfl]
            obtain ⟨z85_q, e85_q⟩ : ∃ z : Int, z = (if isOw T p 11 then 1 else 0) := ⟨_, rfl⟩
            rw [← e85_q]
            have l85_q := ite_o e85_q
            clear e85_q
            refine zif_eq (k := 38) rfl rfl (fun c6_q => ?_) (fun c6_q => ?_)
            · skip
              have w85_q := or_0 l85_q (by assumption)
              clear l85_q
              refine zaload_n (k := 43) rfl rfl ?_
              refine zldc2 (k := 44) (z := 1886352244) rfl kc_12_283 rfl ?_
              refine zfV1 (k := 45) rfl c_M_isWord fm_M_isWord lk_12_331 rfl rfl ob_289 ⟨_, rfl, rfl⟩ (Nat.le_of_ble_eq_true rfl) (by decide) ⟨by decide, by decide⟩ ?_
              rw [isW_e (w := 1886352244) (u := 12) hc.1.2.2.2.2.2.2 k4_q (by omega) rfl]
              obtain ⟨z103_q, e103_q⟩ : ∃ z : Int, z = (if isOw T p 12 then 1 else 0) := ⟨_, rfl⟩
              rw [← e103_q]
              have l103_q := ite_o e103_q
              clear e103_q
              refine zif_eq (k := 46) rfl rfl (fun c7_q => ?_) (fun c7_q => ?_)
              · skip
                have w103_q := or_0 l103_q (by assumption)
                clear l103_q
                refine zaload_n (k := 50) rfl rfl ?_
                refine ziconst (k := 51) rfl (by decide) ?_
                refine zaload_n (k := 52) rfl rfl ?_
                refine zgI 4 (k := 53) rfl ob_289 fl_12_23 rfl fx_289_4 ?_
                rw [sq]
                refine zpV0 (k := 54) rfl (q_blm (k := 1) (pl := tQ T p) hc.1 f8_q (by omega)) fm_M_blame lk_12_239 rfl rfl ob_289 ⟨_, rfl, rfl⟩ (Nat.le_of_ble_eq_true rfl) (by decide) ⟨by decide, by decide⟩ (fun σ2 b2_q => ?_)
                obtain ⟨h2_q, f9_q, fx⟩ := b2_q
                refine zreturn (k := 55) rfl rfl rfl ?_
                rw [← hQ]
                refine ⟨rfl, rfl, ?_⟩
                have tq := tPQ k4_q
                have ho := tO_n (T := T) (p := p)
                have hb : ¬ bgS (tO T p) := fun q => by
                  by_cases k1_q : tK T p = 1
                  · rcases q with q | q | q | q | q | q
                    · exact w16_q ⟨k1_q, q⟩
                    · exact w33_q ⟨k1_q, q⟩
                    · exact w50_q ⟨k1_q, q⟩
                    · exact w67_q ⟨k1_q, q⟩
                    · exact w85_q ⟨k1_q, q⟩
                    · exact w103_q ⟨k1_q, q⟩
                  · have := ho k1_q; omega
                rcases hres with ⟨a, e⟩ | ⟨a, e⟩ | ⟨a, e⟩
                · rw [e, tq]; exact ⟨A, h2_q⟩
                · exfalso; omega
                · exfalso
                  rcases e with e | e | e | e | e | e <;> (have e1_q := e.1; omega)
              · skip
                have w103_q := or_1 l103_q (by assumption)
                clear l103_q
                refine zaload_n (k := 47) rfl rfl ?_
                refine zpV0 (k := 48) rfl (c_M_posting (s := (σ, inW i)) (rdR_sf hc.1 (inW i)) hi1_q hc.2.1 (fun x k q => q) w103_q.1) fm_M_posting lk_12_399 rfl rfl ob_289 ⟨_, rfl, rfl⟩ (Nat.le_of_ble_eq_true rfl) (by decide) ⟨by decide, by decide⟩ (fun σ2 x2_q => ?_)
                -- c_M_posting
                refine zgoto (k := 49) rfl rfl ?_
                refine zreturn (k := 55) rfl rfl rfl ?_
                rw [← hQ]
                refine ⟨rfl, rfl, ?_⟩
                rw [stR_12 hres k4_q w103_q.2]
                exact stE_x hc hs x2_q (fun x q => by
                  have t0_q := tN_c hTT hpp (Or.inl w103_q.1)
                  have q2_q := pstF_p hTT (p := tN T p) (by omega) q
                  omega) (fun x q => rlA_p hc.2.2.2.2.2.2.2.2 q)
            · skip
              have w85_q := or_1 l85_q (by assumption)
              clear l85_q
              refine zaload_n (k := 39) rfl rfl ?_
              refine ziconst (k := 40) rfl (by decide) ?_
              refine zpV0 (k := 41) rfl (q_likes hi1_q hs hc hres w85_q.1 w85_q.2) fm_M_reading lk_12_396 rfl rfl ob_289 ⟨_, rfl, rfl⟩ (Nat.le_of_ble_eq_true rfl) (by decide) ⟨by decide, by decide⟩ (fun σ2 x2_q => ?_)
              -- READ
              refine zgoto (k := 42) rfl rfl ?_
              refine zreturn (k := 55) rfl rfl rfl ?_
              rw [← hQ]
              exact ⟨rfl, rfl, x2_q⟩
          · skip
            have w67_q := or_1 l67_q (by assumption)
            clear l67_q
            refine zaload_n (k := 31) rfl rfl ?_
            refine ziconst (k := 32) rfl (by decide) ?_
            refine zpV0 (k := 33) rfl (q_jumps hi1_q hs hc hres w67_q.1 w67_q.2) fm_M_reading lk_12_396 rfl rfl ob_289 ⟨_, rfl, rfl⟩ (Nat.le_of_ble_eq_true rfl) (by decide) ⟨by decide, by decide⟩ (fun σ2 x2_q => ?_)
            -- READ
            refine zgoto (k := 34) rfl rfl ?_
            refine zreturn (k := 55) rfl rfl rfl ?_
            rw [← hQ]
            exact ⟨rfl, rfl, x2_q⟩
        · skip
          have w50_q := or_1 l50_q (by assumption)
          clear l50_q
          refine zaload_n (k := 24) rfl rfl ?_
          refine zpV0 (k := 25) rfl (c_M_manning (s := (σ, inW i)) (rdR_sf hc.1 (inW i)) hi1_q hc.2.1 (fun x k q => q) w50_q.1) fm_M_manning lk_12_393 rfl rfl ob_289 ⟨_, rfl, rfl⟩ (Nat.le_of_ble_eq_true rfl) (by decide) ⟨by decide, by decide⟩ (fun σ2 x2_q => ?_)
          -- c_M_manning
          refine zgoto (k := 26) rfl rfl ?_
          refine zreturn (k := 55) rfl rfl rfl ?_
          rw [← hQ]
          refine ⟨rfl, rfl, ?_⟩
          rw [stR_7 hres k4_q w50_q.2]
          exact stE_x hc hs x2_q (fun x q => by
            have t0_q := tN_c hTT hpp (Or.inl w50_q.1)
            by_cases c : 6 ≤ A 0 3
            · rw [if_pos c] at q; cases q
            · rw [if_neg c] at q
              have q2_q := mnnF_p hTT (p := tN T p) (by omega) q
              omega) (fun x q => by
            by_cases c : 6 ≤ A 0 3
            · rw [if_pos c] at q; cases q
            · rw [if_neg c] at q
              exact rlA_m hc.2.2.2.2.2.2.2.2 q)
      · skip
        have w33_q := or_1 l33_q (by assumption)
        clear l33_q
        refine zaload_n (k := 17) rfl rfl ?_
        refine zpV0 (k := 18) rfl (c_M_railing (s := (σ, inW i)) (rdR_sf hc.1 (inW i)) hi1_q hc.2.1 (fun x k q => q) w33_q.1) fm_M_railing lk_12_390 rfl rfl ob_289 ⟨_, rfl, rfl⟩ (Nat.le_of_ble_eq_true rfl) (by decide) ⟨by decide, by decide⟩ (fun σ2 x2_q => ?_)
        -- c_M_railing
        refine zgoto (k := 19) rfl rfl ?_
        refine zreturn (k := 55) rfl rfl rfl ?_
        rw [← hQ]
        refine ⟨rfl, rfl, ?_⟩
        rw [stR_4 hres k4_q w33_q.2]
        exact stE_x hc hs x2_q (fun x q => by
          have t0_q := tN_c hTT hpp (Or.inl w33_q.1)
          by_cases c : 12 ≤ A 0 2
          · rw [if_pos c] at q; cases q
          · rw [if_neg c] at q
            have q2_q := ralF_p hTT (p := tN T p) (by omega) q
            omega) (fun x q => by
          by_cases c : 12 ≤ A 0 2
          · rw [if_pos c] at q; cases q
          · rw [if_neg c] at q
            exact rlA_r hc.2.1 hc.2.2.2.2.2.2.2.2 q)
    · skip
      have w16_q := or_1 l16_q (by assumption)
      clear l16_q
      refine zaload_n (k := 10) rfl rfl ?_
      refine zpV0 (k := 11) rfl (c_M_countying (s := (σ, inW i)) (rdR_sf hc.1 (inW i)) hi1_q hc.2.1 (fun x k q => q) w16_q.1) fm_M_countying lk_12_387 rfl rfl ob_289 ⟨_, rfl, rfl⟩ (Nat.le_of_ble_eq_true rfl) (by decide) ⟨by decide, by decide⟩ (fun σ2 x2_q => ?_)
      -- c_M_countying
      refine zgoto (k := 12) rfl rfl ?_
      refine zreturn (k := 55) rfl rfl rfl ?_
      rw [← hQ]
      refine ⟨rfl, rfl, ?_⟩
      rw [stR_0 hres k4_q w16_q.2]
      exact stE_x hc hs x2_q (fun x q => by
        have t0_q := tN_c hTT hpp (Or.inl w16_q.1)
        by_cases c : 7 ≤ A 0 1
        · rw [if_pos c] at q; cases q
        · rw [if_neg c] at q
          have q2_q := ctyF_p hTT (p := tN T p) (by omega) q
          omega) (fun x q => by
        by_cases c : 7 ≤ A 0 1
        · rw [if_pos c] at q; cases q
        · rw [if_neg c] at q
          exact rlA_c hc.2.2.2.2.2.2.2.2 q)
  · exfalso; omega
set_option maxHeartbeats 4000000 in
set_option maxRecDepth 20000 in
theorem g_stm4 {Γ : zv_M} {L : Int} {s : zSpan} {σ : zv_H} {T : Int → Int} {n i p : Int} {A : zv_H} {J K out : List (Int × Int)} {res : zX zSt} (hi1_q : i = 0 ∨ i = 1) (hs : ∀ x k, inZt i x k → s.2 x k) (hc : stS s σ T n i A J K out p) (hres : stR T n p A J K res) (k4_q : tK T p = 4)  : zC Γ m_M_statement 6 0 0 (GM L) [zR 289] σ (zP0 (GM L) (fun σ' => stE s σ' T n i res)) := by
  refine zC_of (ls0 := [_]) zm_M_statement (by decide) rfl (Nat.le_of_ble_eq_true rfl) ?_
  generalize hQ : (zP0 (GM L) (fun σ' => stE s σ' T n i res)) = Q
  refine zaload_n (k := 0) rfl rfl ?_
  refine zpV0 (k := 1) rfl (q_lex hc.1) fm_M_lex lk_12_250 rfl rfl ob_289 ⟨_, rfl, rfl⟩ (Nat.le_of_ble_eq_true rfl) (by decide) ⟨by decide, by decide⟩ (fun σ1 l1_q => ?_)
  obtain ⟨h1_q, f8_q⟩ : rdR s σ1 T n i A (Sum.inr (1, tP T p)) ∧ σ1 289 8 = 1 := by
    rcases l1_q with q | q
    · exact absurd k4_q q.1
    · exact ⟨q.2.1, q.2.2.1⟩
  refine zaload_n (k := 2) rfl rfl ?_
  refine zgI 8 (k := 3) rfl ob_289 fl_12_36 rfl fx_289_8 ?_
  rw [f8_q]
  refine zif_le (k := 4) rfl rfl (fun c1_q => ?_) (fun c1_q => ?_)
  · exfalso; omega
  refine zreturn (k := 5) rfl rfl rfl ?_
  rw [← hQ]
  refine ⟨rfl, rfl, ?_⟩
  have ho := tO_n (T := T) (p := p) (by omega)
  rcases hres with ⟨a, e⟩ | ⟨a, e⟩ | ⟨a, e⟩
  · rw [e]; exact ⟨A, h1_q⟩
  · exfalso; omega
  · exfalso
    rcases e with e | e | e | e | e | e <;> (have e1_q := e.1; omega)
theorem c_M_statement {Γ : zv_M} {L : Int} {s : zSpan} {σ : zv_H} {T : Int → Int} {n i p : Int} {A : zv_H} {J K out : List (Int × Int)} {res : zX zSt} (hi1_q : i = 0 ∨ i = 1) (hs : ∀ x k, inZt i x k → s.2 x k) (hc : stS s σ T n i A J K out p) (hres : stR T n p A J K res) : zC Γ m_M_statement 6 0 0 (GM L) [zR 289] σ (zP0 (GM L) (fun σ' => stE s σ' T n i res)) := by
  by_cases k4_q : tK T p = 4
  · exact g_stm4 hi1_q hs hc hres k4_q
  · exact g_stm5 hi1_q hs hc hres k4_q
