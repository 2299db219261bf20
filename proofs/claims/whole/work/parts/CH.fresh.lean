set_option maxHeartbeats 4000000 in
set_option maxRecDepth 20000 in
theorem g_new4 {Γ : zv_M} {L : Int} {σ0 : zSpan} {σ : zv_H} {T : Int → Int} {n i p : Int} {A : zv_H} (h : rdR σ0 σ T n i A (Sum.inl p)) (hi1_q : i = 0 ∨ i = 1) (hA : AI T A) (k4_q : tK T p = 4)  : zC Γ m_M_fresh 3 0 0 (GM L) [zR 289] σ (zPL (GM L) (fun z σ' => rdR σ0 σ' T n i A (tkNew T A p) ∧ ∀ q, tkNew T A p = Sum.inl q → z = tNw T p)) := by
  refine zC_of (ls0 := [_, _, _]) zm_M_fresh (by decide) rfl (Nat.le_of_ble_eq_true rfl) ?_
  generalize hQ : (zPL (GM L) (fun z σ' => rdR σ0 σ' T n i A (tkNew T A p) ∧ ∀ q, tkNew T A p = Sum.inl q → z = tNw T p)) = Q
  obtain ⟨a1_q, a2_q, a3_q, a4_q, f8_q, hp, hm⟩ := h
  have h : rdR σ0 σ T n i A (Sum.inl p) := ⟨a1_q, a2_q, a3_q, a4_q, f8_q, hp, hm⟩
  have tp := tP_0 (T := T) hp
  have hn := a2_q.2.1.1
  refine zaload_n (k := 0) rfl rfl ?_
  refine zpV0 (k := 1) rfl (k_lex h) fm_M_lex lk_12_250 rfl rfl ob_289 ⟨_, rfl, rfl⟩ (Nat.le_of_ble_eq_true rfl) (by decide) ⟨by decide, by decide⟩ (fun σ1 l1_q => ?_)
  -- BLAMED
  obtain ⟨_, h1_q, f8_q⟩ : tK T p = 4 ∧ rdR σ0 σ1 T n i A (Sum.inr (1, tP T p)) ∧ σ1 289 8 = 1 := by
    rcases l1_q with q | q
    · exact absurd k4_q q.1
    · exact q
  refine zaload_n (k := 2) rfl rfl ?_
  refine zgI 8 (k := 3) rfl ob_289 fl_12_36 rfl fx_289_8 ?_
  rw [f8_q]
  refine zif_le (k := 4) rfl rfl (fun c1_q => ?_) (fun c1_q => ?_)
  · exfalso; omega
  refine zlconst (k := 5) (z := 0) rfl rfl ?_
  refine zlreturn (k := 6) rfl rfl rfl ?_
  rw [← hQ]
  have e : tkNew T A p = Sum.inr (1, tP T p) := if_pos (fun q => by have q1_q := q.1; omega)
  refine ⟨rfl, _, rfl, ?_, fun q hq => by have h9_q := e.symm.trans hq; cases h9_q⟩
  rw [e]
  exact h1_q
set_option maxHeartbeats 4000000 in
set_option maxRecDepth 20000 in
theorem g_new5 {Γ : zv_M} {L : Int} {σ0 : zSpan} {σ : zv_H} {T : Int → Int} {n i p : Int} {A : zv_H} (h : rdR σ0 σ T n i A (Sum.inl p)) (hi1_q : i = 0 ∨ i = 1) (hA : AI T A) (k4_q : tK T p ≠ 4)  : zC Γ m_M_fresh 3 0 0 (GM L) [zR 289] σ (zPL (GM L) (fun z σ' => rdR σ0 σ' T n i A (tkNew T A p) ∧ ∀ q, tkNew T A p = Sum.inl q → z = tNw T p)) := by
  refine zC_of (ls0 := [_, _, _]) zm_M_fresh (by decide) rfl (Nat.le_of_ble_eq_true rfl) ?_
  generalize hQ : (zPL (GM L) (fun z σ' => rdR σ0 σ' T n i A (tkNew T A p) ∧ ∀ q, tkNew T A p = Sum.inl q → z = tNw T p)) = Q
  obtain ⟨a1_q, a2_q, a3_q, a4_q, f8_q, hp, hm⟩ := h
  have h : rdR σ0 σ T n i A (Sum.inl p) := ⟨a1_q, a2_q, a3_q, a4_q, f8_q, hp, hm⟩
  have tp := tP_0 (T := T) hp
  have hn := a2_q.2.1.1
  have sg := (hm.2.2.1 k4_q).2.1
  have sn := (hm.2.2.1 k4_q).2.2
  have sq := hm.1
  have tpq : tP T p = tQ T p := tPQ k4_q
  have hA1 := hA.2.1
  have hA3 := hA.2.2.2.1
  have hA5 := hA.2.2.2.2.2.1
  have hA6 := hA.2.2.2.2.2.2.1
  refine zaload_n (k := 0) rfl rfl ?_
  refine zpV0 (k := 1) rfl (k_lex h) fm_M_lex lk_12_250 rfl rfl ob_289 ⟨_, rfl, rfl⟩ (Nat.le_of_ble_eq_true rfl) (by decide) ⟨by decide, by decide⟩ (fun σ1 l1_q => ?_)
  obtain ⟨_, rfl⟩ : tK T p ≠ 4 ∧ σ = σ1 := by
    rcases l1_q with q | q
    · exact ⟨q.1, q.2.symm⟩
    · exact absurd q.1 k4_q
  refine zaload_n (k := 2) rfl rfl ?_
  refine zgI 8 (k := 3) rfl ob_289 fl_12_36 rfl fx_289_8 ?_
  rw [f8_q]
  refine zif_le (k := 4) rfl rfl (fun c1_q => ?_) (fun c1_q => ?_)
  · skip
    refine zaload_n (k := 7) rfl rfl ?_
    refine zgI 3 (k := 8) rfl ob_289 fl_12_20 rfl fx_289_3 ?_
    rw [sg]
    refine ziconst (k := 9) rfl (by decide) ?_
    refine zicmp_ne (k := 10) rfl rfl (fun c2_q => ?_) (fun c2_q => ?_)
    · skip
      refine zaload_n (k := 16) rfl rfl ?_
      refine ziconst (k := 17) rfl (by decide) ?_
      refine zaload_n (k := 18) rfl rfl ?_
      refine zgI 4 (k := 19) rfl ob_289 fl_12_23 rfl fx_289_4 ?_
      rw [sq]
      refine zpV0 (k := 20) rfl (k_blm (k := 1) (pl := (tQ T p)) h f8_q (by omega)) fm_M_blame lk_12_239 rfl rfl ob_289 ⟨_, rfl, rfl⟩ (Nat.le_of_ble_eq_true rfl) (by decide) ⟨by decide, by decide⟩ (fun σ2 b2_q => ?_)
      -- BLAMED
      obtain ⟨h2_q, f8_q, fx⟩ := b2_q
      refine ziconst (k := 21) rfl (by decide) ?_
      refine zistore_n (k := 22) (ls' := [_, _, _]) rfl (Nat.le_of_ble_eq_true rfl) rfl ?_
      refine ziload_n (k := 23) rfl rfl ?_
      refine ziconst (k := 24) rfl (by decide) ?_
      refine zicmp_gt (k := 25) rfl rfl (fun c3_q => ?_) (fun c3_q => ?_)
      · exact absurd c3_q (by omega)
      refine zaload_n (k := 26) rfl rfl ?_
      refine zgI 8 (k := 27) rfl ob_289 fl_12_36 rfl fx_289_8 ?_
      rw [f8_q]
      refine zif_ne (k := 28) rfl rfl (fun c4_q => ?_) (fun c4_q => ?_)
      · skip
        refine zaload_n (k := 43) rfl rfl ?_
        refine zgL 7 (k := 44) rfl ob_289 fl_12_32 rfl fx_289_7 ?_
        first | rw [hw7_q] | rw [fx 289 7 (by omega)] | skip
        first | rw [(hm.2.2.2.2.2.1 (by assumption)).2] | skip
        refine zlstore_n (k := 45) (ls' := [_, _, _]) rfl (Nat.le_of_ble_eq_true rfl) rfl ?_
        refine zaload_n (k := 46) rfl rfl ?_
        refine zgI 8 (k := 47) rfl ob_289 fl_12_36 rfl fx_289_8 ?_
        rw [f8_q]
        refine zif_ne (k := 48) rfl rfl (fun c5_q => ?_) (fun c5_q => ?_)
        · skip
          refine zlload_n (k := 51) rfl rfl ?_
          refine zlreturn (k := 52) rfl rfl rfl ?_
          rw [← hQ]
          have e1_q : ¬ isOw T p (-1) := fun q => by
            have q1_q := q.1
            first
            | (exfalso; omega)
            | (have m1_q : tNw T p ∈ OWNW := by rcases h9_q with r | r; exact r.2; exfalso; omega
               obtain ⟨k, k2_q, k3_q, k4_q⟩ := own_mem.mp m1_q
               exact (ow_no q1_q).mp q.2 k k2_q k3_q k4_q)
          have e : tkNew T A p = Sum.inr (1, tP T p) := by
            unfold tkNew
            rw [if_pos e1_q]
          refine ⟨rfl, _, rfl, ?_, fun q hq => by have h9_q := e.symm.trans hq; cases h9_q⟩
          rw [e, tpq]
          exact h2_q
        · exfalso; omega
      · exfalso; omega
    · skip
      first
      | (have k1_q : tK T p = 1 := by omega
         have hw7_q := (hm.2.2.2.2.2.1 k1_q).2)
      | skip
      refine zaload_n (k := 11) rfl rfl ?_
      refine zaload_n (k := 12) rfl rfl ?_
      refine zgL 7 (k := 13) rfl ob_289 fl_12_32 rfl fx_289_7 ?_
      rw [hw7_q]
      refine zpVI (k := 14) rfl c_M_isOwn fm_M_isOwn lk_12_350 rfl rfl ob_289 ⟨_, rfl, rfl⟩ (Nat.le_of_ble_eq_true rfl) (by decide) ⟨by decide, by decide⟩ (fun z9_q σ9 h9_q => ?_)
      obtain ⟨h9e_q, h9_q⟩ := h9_q
      rw [h9e_q]
      refine zif_eq (k := 15) rfl rfl (fun c6_q => ?_) (fun c6_q => ?_)
      · skip
        refine ziconst (k := 21) rfl (by decide) ?_
        refine zistore_n (k := 22) (ls' := [_, _, _]) rfl (Nat.le_of_ble_eq_true rfl) rfl ?_
        refine ziload_n (k := 23) rfl rfl ?_
        refine ziconst (k := 24) rfl (by decide) ?_
        refine zicmp_gt (k := 25) rfl rfl (fun c7_q => ?_) (fun c7_q => ?_)
        · exact absurd c7_q (by omega)
        refine zaload_n (k := 26) rfl rfl ?_
        refine zgI 8 (k := 27) rfl ob_289 fl_12_36 rfl fx_289_8 ?_
        rw [f8_q]
        refine zif_ne (k := 28) rfl rfl (fun c8_q => ?_) (fun c8_q => ?_)
        · exfalso; omega
        first
        | (have e1_q : isOw T p (-1) := ⟨k1_q, (ow_no k1_q).mpr (fun k q1_q q2_q q3_q => by
             rcases h9_q with r | r
             · exfalso; omega
             · exact r.2 (own_mem.mpr ⟨k, q1_q, q2_q, q3_q⟩))⟩)
        | skip
        refine zaload_n (k := 29) rfl rfl ?_
        refine ziload_n (k := 30) rfl rfl ?_
        refine zaload_n (k := 31) rfl rfl ?_
        refine zgL 7 (k := 32) rfl ob_289 fl_12_32 rfl fx_289_7 ?_
        rw [hw7_q]
        refine zfV1 (k := 33) rfl (c_M_named a3_q hi1_q ⟨by rw [a4_q.1.1]; omega, by rw [a4_q.1.2.2.1]; omega⟩) fm_M_named lk_12_353 rfl rfl ob_289 ⟨_, rfl, rfl⟩ (Nat.le_of_ble_eq_true rfl) (by decide) ⟨by decide, by decide⟩ ?_
        have ec : ixF (fun k => if (0 : Int) = 0 then σ 306 (7 * i + k) else σ 307 (6 * i + k)) (tNw T p) (if (0 : Int) = 0 then σ 291 i else σ 298 i).toNat 0 = cyI T A p := by
          rw [if_pos (c := (0 : Int) = 0) rfl, a4_q.1.1]
          exact cy_w k1_q (fun c q1_q q2_q => (hA5 c q1_q q2_q).1) (fun c q1_q q2_q => by (try dsimp only); rw [if_pos (c := (0 : Int) = 0) rfl]; exact (a4_q.2.1 c q1_q q2_q).2.2.2)
        rw [ec]
        refine ziconst (k := 34) rfl (by decide) ?_
        refine zicmp_eq (k := 35) rfl rfl (fun c9_q => ?_) (fun c9_q => ?_)
        · skip
          refine ziincB (k := 41) (ls' := [_, _, _]) rfl rfl (by decide) (by omega) rfl ?_
          refine zgoto (k := 42) rfl rfl ?_
          refine ziload_n (k := 23) rfl rfl ?_
          refine ziconst (k := 24) rfl (by decide) ?_
          refine zicmp_gt (k := 25) rfl rfl (fun c10_q => ?_) (fun c10_q => ?_)
          · exact absurd c10_q (by omega)
          refine zaload_n (k := 26) rfl rfl ?_
          refine zgI 8 (k := 27) rfl ob_289 fl_12_36 rfl fx_289_8 ?_
          rw [f8_q]
          refine zif_ne (k := 28) rfl rfl (fun c11_q => ?_) (fun c11_q => ?_)
          · exfalso; omega
          first
          | (have e1_q : isOw T p (-1) := ⟨k1_q, (ow_no k1_q).mpr (fun k q1_q q2_q q3_q => by
               rcases h9_q with r | r
               · exfalso; omega
               · exact r.2 (own_mem.mpr ⟨k, q1_q, q2_q, q3_q⟩))⟩)
          | skip
          refine zaload_n (k := 29) rfl rfl ?_
          refine ziload_n (k := 30) rfl rfl ?_
          refine zaload_n (k := 31) rfl rfl ?_
          refine zgL 7 (k := 32) rfl ob_289 fl_12_32 rfl fx_289_7 ?_
          rw [hw7_q]
          refine zfV1 (k := 33) rfl (c_M_named a3_q hi1_q ⟨by rw [a4_q.1.1]; omega, by rw [a4_q.1.2.2.1]; omega⟩) fm_M_named lk_12_353 rfl rfl ob_289 ⟨_, rfl, rfl⟩ (Nat.le_of_ble_eq_true rfl) (by decide) ⟨by decide, by decide⟩ ?_
          have em : ixF (fun k => if (1 : Int) = 0 then σ 306 (7 * i + k) else σ 307 (6 * i + k)) (tNw T p) (if (1 : Int) = 0 then σ 291 i else σ 298 i).toNat 0 = mnI T A p := by
            rw [if_neg (c := (1 : Int) = 0) (by decide), a4_q.1.2.2.1]
            exact mn_w k1_q (fun c q1_q q2_q => (hA6 c q1_q q2_q).1) (fun c q1_q q2_q => by (try dsimp only); rw [if_neg (c := (1 : Int) = 0) (by decide)]; exact (a4_q.2.2.1 c q1_q q2_q).2.2)
          try rw [show (0 + 1 : Int) = 1 from rfl]
          rw [em]
          refine ziconst (k := 34) rfl (by decide) ?_
          refine zicmp_eq (k := 35) rfl rfl (fun c12_q => ?_) (fun c12_q => ?_)
          · skip
            refine ziincB (k := 41) (ls' := [_, _, _]) rfl rfl (by decide) (by omega) rfl ?_
            refine zgoto (k := 42) rfl rfl ?_
            refine ziload_n (k := 23) rfl rfl ?_
            refine ziconst (k := 24) rfl (by decide) ?_
            refine zicmp_gt (k := 25) rfl rfl (fun c13_q => ?_) (fun c13_q => ?_)
            · skip
              refine zaload_n (k := 43) rfl rfl ?_
              refine zgL 7 (k := 44) rfl ob_289 fl_12_32 rfl fx_289_7 ?_
              first | rw [hw7_q] | rw [fx 289 7 (by omega)] | skip
              first | rw [(hm.2.2.2.2.2.1 (by assumption)).2] | skip
              refine zlstore_n (k := 45) (ls' := [_, _, _]) rfl (Nat.le_of_ble_eq_true rfl) rfl ?_
              refine zaload_n (k := 46) rfl rfl ?_
              refine zgI 8 (k := 47) rfl ob_289 fl_12_36 rfl fx_289_8 ?_
              rw [f8_q]
              refine zif_ne (k := 48) rfl rfl (fun c14_q => ?_) (fun c14_q => ?_)
              · exfalso; omega
              refine zaload_n (k := 49) rfl rfl ?_
              refine zpV0 (k := 50) rfl (k_ahd h f8_q sn hp (Or.inl k1_q)) fm_M_ahead lk_12_256 rfl rfl ob_289 ⟨_, rfl, rfl⟩ (Nat.le_of_ble_eq_true rfl) (by decide) ⟨by decide, by decide⟩ (fun σ3 h3_q => ?_)
              refine zlload_n (k := 51) rfl rfl ?_
              refine zlreturn (k := 52) rfl rfl rfl ?_
              rw [← hQ]
              have e : tkNew T A p = Sum.inl (tN T p) := by
                unfold tkNew
                rw [if_neg (fun q => q e1_q), if_neg (by omega)]
              refine ⟨rfl, _, rfl, ?_, fun q hq => rfl⟩
              rw [e]
              exact h3_q
            · exact absurd c13_q (by omega)
          · skip
            refine zaload_n (k := 36) rfl rfl ?_
            refine ziconst (k := 37) rfl (by decide) ?_
            refine zaload_n (k := 38) rfl rfl ?_
            refine zgI 4 (k := 39) rfl ob_289 fl_12_23 rfl fx_289_4 ?_
            rw [sq]
            refine zpV0 (k := 40) rfl (k_blm (k := 2) (pl := (tQ T p)) h f8_q (by omega)) fm_M_blame lk_12_239 rfl rfl ob_289 ⟨_, rfl, rfl⟩ (Nat.le_of_ble_eq_true rfl) (by decide) ⟨by decide, by decide⟩ (fun σ2 b2_q => ?_)
            -- BLAMED
            obtain ⟨h2_q, f8_q, fx⟩ := b2_q
            refine ziincB (k := 41) (ls' := [_, _, _]) rfl rfl (by decide) (by omega) rfl ?_
            refine zgoto (k := 42) rfl rfl ?_
            refine ziload_n (k := 23) rfl rfl ?_
            refine ziconst (k := 24) rfl (by decide) ?_
            refine zicmp_gt (k := 25) rfl rfl (fun c15_q => ?_) (fun c15_q => ?_)
            · skip
              refine zaload_n (k := 43) rfl rfl ?_
              refine zgL 7 (k := 44) rfl ob_289 fl_12_32 rfl fx_289_7 ?_
              first | rw [hw7_q] | rw [fx 289 7 (by omega)] | skip
              first | rw [(hm.2.2.2.2.2.1 (by assumption)).2] | skip
              refine zlstore_n (k := 45) (ls' := [_, _, _]) rfl (Nat.le_of_ble_eq_true rfl) rfl ?_
              refine zaload_n (k := 46) rfl rfl ?_
              refine zgI 8 (k := 47) rfl ob_289 fl_12_36 rfl fx_289_8 ?_
              rw [f8_q]
              refine zif_ne (k := 48) rfl rfl (fun c16_q => ?_) (fun c16_q => ?_)
              · skip
                refine zlload_n (k := 51) rfl rfl ?_
                refine zlreturn (k := 52) rfl rfl rfl ?_
                rw [← hQ]
                have e : tkNew T A p = Sum.inr (2, tP T p) := by
                  unfold tkNew
                  rw [if_neg (fun q => q e1_q), if_pos (by omega)]
                refine ⟨rfl, _, rfl, ?_, fun q hq => by have h9_q := e.symm.trans hq; cases h9_q⟩
                rw [e, tpq]
                exact h2_q
              · exfalso; omega
            · exact absurd c15_q (by omega)
        · skip
          refine zaload_n (k := 36) rfl rfl ?_
          refine ziconst (k := 37) rfl (by decide) ?_
          refine zaload_n (k := 38) rfl rfl ?_
          refine zgI 4 (k := 39) rfl ob_289 fl_12_23 rfl fx_289_4 ?_
          rw [sq]
          refine zpV0 (k := 40) rfl (k_blm (k := 2) (pl := (tQ T p)) h f8_q (by omega)) fm_M_blame lk_12_239 rfl rfl ob_289 ⟨_, rfl, rfl⟩ (Nat.le_of_ble_eq_true rfl) (by decide) ⟨by decide, by decide⟩ (fun σ2 b2_q => ?_)
          -- BLAMED
          obtain ⟨h2_q, f8_q, fx⟩ := b2_q
          refine ziincB (k := 41) (ls' := [_, _, _]) rfl rfl (by decide) (by omega) rfl ?_
          refine zgoto (k := 42) rfl rfl ?_
          refine ziload_n (k := 23) rfl rfl ?_
          refine ziconst (k := 24) rfl (by decide) ?_
          refine zicmp_gt (k := 25) rfl rfl (fun c17_q => ?_) (fun c17_q => ?_)
          · exact absurd c17_q (by omega)
          refine zaload_n (k := 26) rfl rfl ?_
          refine zgI 8 (k := 27) rfl ob_289 fl_12_36 rfl fx_289_8 ?_
          rw [f8_q]
          refine zif_ne (k := 28) rfl rfl (fun c18_q => ?_) (fun c18_q => ?_)
          · skip
            refine zaload_n (k := 43) rfl rfl ?_
            refine zgL 7 (k := 44) rfl ob_289 fl_12_32 rfl fx_289_7 ?_
            first | rw [hw7_q] | rw [fx 289 7 (by omega)] | skip
            first | rw [(hm.2.2.2.2.2.1 (by assumption)).2] | skip
            refine zlstore_n (k := 45) (ls' := [_, _, _]) rfl (Nat.le_of_ble_eq_true rfl) rfl ?_
            refine zaload_n (k := 46) rfl rfl ?_
            refine zgI 8 (k := 47) rfl ob_289 fl_12_36 rfl fx_289_8 ?_
            rw [f8_q]
            refine zif_ne (k := 48) rfl rfl (fun c19_q => ?_) (fun c19_q => ?_)
            · skip
              refine zlload_n (k := 51) rfl rfl ?_
              refine zlreturn (k := 52) rfl rfl rfl ?_
              rw [← hQ]
              have e : tkNew T A p = Sum.inr (2, tP T p) := by
                unfold tkNew
                rw [if_neg (fun q => q e1_q), if_pos (by omega)]
              refine ⟨rfl, _, rfl, ?_, fun q hq => by have h9_q := e.symm.trans hq; cases h9_q⟩
              rw [e, tpq]
              exact h2_q
            · exfalso; omega
          · exfalso; omega
      · skip
        refine zaload_n (k := 16) rfl rfl ?_
        refine ziconst (k := 17) rfl (by decide) ?_
        refine zaload_n (k := 18) rfl rfl ?_
        refine zgI 4 (k := 19) rfl ob_289 fl_12_23 rfl fx_289_4 ?_
        rw [sq]
        refine zpV0 (k := 20) rfl (k_blm (k := 1) (pl := (tQ T p)) h f8_q (by omega)) fm_M_blame lk_12_239 rfl rfl ob_289 ⟨_, rfl, rfl⟩ (Nat.le_of_ble_eq_true rfl) (by decide) ⟨by decide, by decide⟩ (fun σ2 b2_q => ?_)
        -- BLAMED
        obtain ⟨h2_q, f8_q, fx⟩ := b2_q
        refine ziconst (k := 21) rfl (by decide) ?_
        refine zistore_n (k := 22) (ls' := [_, _, _]) rfl (Nat.le_of_ble_eq_true rfl) rfl ?_
        refine ziload_n (k := 23) rfl rfl ?_
        refine ziconst (k := 24) rfl (by decide) ?_
        refine zicmp_gt (k := 25) rfl rfl (fun c20_q => ?_) (fun c20_q => ?_)
        · exact absurd c20_q (by omega)
        refine zaload_n (k := 26) rfl rfl ?_
        refine zgI 8 (k := 27) rfl ob_289 fl_12_36 rfl fx_289_8 ?_
        rw [f8_q]
        refine zif_ne (k := 28) rfl rfl (fun c21_q => ?_) (fun c21_q => ?_)
        · skip
          refine zaload_n (k := 43) rfl rfl ?_
          refine zgL 7 (k := 44) rfl ob_289 fl_12_32 rfl fx_289_7 ?_
          first | rw [hw7_q] | rw [fx 289 7 (by omega)] | skip
          first | rw [(hm.2.2.2.2.2.1 (by assumption)).2] | skip
          refine zlstore_n (k := 45) (ls' := [_, _, _]) rfl (Nat.le_of_ble_eq_true rfl) rfl ?_
          refine zaload_n (k := 46) rfl rfl ?_
          refine zgI 8 (k := 47) rfl ob_289 fl_12_36 rfl fx_289_8 ?_
          rw [f8_q]
          refine zif_ne (k := 48) rfl rfl (fun c22_q => ?_) (fun c22_q => ?_)
          · skip
            refine zlload_n (k := 51) rfl rfl ?_
            refine zlreturn (k := 52) rfl rfl rfl ?_
            rw [← hQ]
            have e1_q : ¬ isOw T p (-1) := fun q => by
              have q1_q := q.1
              first
              | (exfalso; omega)
              | (have m1_q : tNw T p ∈ OWNW := by rcases h9_q with r | r; exact r.2; exfalso; omega
                 obtain ⟨k, k2_q, k3_q, k4_q⟩ := own_mem.mp m1_q
                 exact (ow_no q1_q).mp q.2 k k2_q k3_q k4_q)
            have e : tkNew T A p = Sum.inr (1, tP T p) := by
              unfold tkNew
              rw [if_pos e1_q]
            refine ⟨rfl, _, rfl, ?_, fun q hq => by have h9_q := e.symm.trans hq; cases h9_q⟩
            rw [e, tpq]
            exact h2_q
          · exfalso; omega
        · exfalso; omega
  · exfalso; omega
