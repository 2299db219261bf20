/-! a WEEK passes -/
theorem gon_00 {Wm S : zv_H} {m : Int} : gonF Wm S m 0 0 = S 0 0 := by
  unfold gonF
  split
  · exact zup_n (by omega)
  · rw [zup_n (by omega), zup_n (by omega), zup_n (by omega)]
theorem man_00 {Wm S : zv_H} {m : Int} : (manF Wm S m).1 0 0 = S 0 0 := by
  unfold manF
  split
  · show walF S m 0 0 = _
    unfold walF
    split
    · rw [zup_n (by omega), zup_n (by omega)]
    · exact zup_n (by omega)
  · split
    · show ridF Wm S m 0 0 = _
      unfold ridF
      split
      · rw [kep_n (by omega) (by omega), zup_n (by omega)]
      · rw [gon_00, kep_n (by omega) (by omega), sds_00 (by omega)]
    · split
      · unfold metF
        split
        · show kepF _ _ 0 0 = _
          rw [kep_n (by omega) (by omega), zup_n (by omega)]
        · split
          · exact gon_00
          · show kepF _ _ 0 0 = _
            rw [kep_n (by omega) (by omega), zup_n (by omega), zup_n (by omega), zup_n (by omega), zup_n (by omega)]
      · rfl
theorem men_00 {Wm S : zv_H} : ∀ n : Nat, (menF Wm S n).1 0 0 = S 0 0
  | 0 => rfl
  | t + 1 => by
    show (manF Wm (menF Wm S t).1 t).1 0 0 = _
    rw [man_00, men_00 t]
theorem stM_e0 {σ0 σ Wm S : zv_H} {b v e2 : Int} (h : stM σ0 σ b v Wm S) : stM (zup σ0 289 62 e2) (zup σ 289 62 e2) b v Wm S := by
  rw [← zup_id (σ := σ0) (a := 289) (k := 62) rfl] at h
  exact stM_e h
theorem stM_wk {σ0 σ Wm S : zv_H} {b v x : Int} (h : stM σ0 σ b v Wm S) : stM σ0 (zup σ 315 v x) b v Wm (zup S 0 0 x) := by
  obtain ⟨⟨p1, p2⟩, p3, p4, p5, p6⟩ := h.1
  refine stM_s h ⟨⟨by rw [zup_s, zup_s], by rw [zup_n (by omega), zup_n (by omega)]; exact p2⟩, fun c q1 q2 => ?_, fun c q1 q2 => ?_, fun m c q1 q2 q3 q4 => ?_, fun k q1 q2 => ?_⟩ (fun g k a c d => zup_n (fun q => a (by unfold inV; omega)))
  · rw [zup_n (by omega), zup_n (by omega), zup_n (by omega), zup_n (by omega), zup_n (by omega), zup_n (by omega)]; exact p3 c q1 q2
  · rw [zup_n (by omega), zup_n (by omega), zup_n (by omega), zup_n (by omega), zup_n (by omega), zup_n (by omega), zup_n (by omega), zup_n (by omega), zup_n (by omega), zup_n (by omega)]; exact p4 c q1 q2
  · rw [zup_n (by omega), zup_n (by omega)]; exact p5 m c q1 q2 q3 q4
  · have e : ∀ g k, ¬ (g = 0 ∧ k = 0) → zup S 0 0 x g k = S g k := fun g k q => zup_n q
    rw [e 0 12 (by omega)] at q2
    rw [e 0 11 (by omega), e 10 _ (by omega), zup_n (by omega), zup_n (by omega), zup_n (by omega), zup_n (by omega)]
    exact p6 k q1 q2
set_option maxHeartbeats 4000000 in
set_option maxRecDepth 20000 in
theorem c_M_pass9 {Γ : zv_M} {L : Int} {σ0 σ Wm S : zv_H} {b v : Int} (hb1 : b = 0 ∨ b = 1) (hv : 0 ≤ v ∧ v < 22) (h0 : stM σ0 σ b v Wm S) (hSI : SI (Wm 0 1) (Wm 0 3) S) (hWI : WI Wm)  : zC Γ m_M_passes 7 0 0 (GM L) [zR 289, zI v] σ (zP0 (GM L) (fun σ' => stM (zup σ0 289 62 (pasF Wm S).2) σ' b v Wm (zup (menF Wm S (Wm 0 3).toNat).1 0 0 (S 0 0 + 1)))) := by
  refine zC_of (ls0 := [_, _, _, _]) zm_M_passes (by decide) rfl (Nat.le_of_ble_eq_true rfl) ?_
  generalize hQ : (zP0 (GM L) (fun σ' => stM (zup σ0 289 62 (pasF Wm S).2) σ' b v Wm (zup (menF Wm S (Wm 0 3).toNat).1 0 0 (S 0 0 + 1)))) = Q
  have hb := h0.2.2.1
  have w1 := hWI.1
  have w3 := hWI.2.2.1
  have b00 := hSI.1
  have g0 := stM_e0 (e2 := 0) h0
  refine zaload_n (k := 0) rfl rfl ?_
  refine ziconst (k := 1) rfl (by decide) ?_
  refine zpI 62 (k := 2) rfl ob_289 fl_12_201 ⟨_, rfl, rfl⟩ rfl (by omega) rfl fx_289_62 ?_
  refine ziconst (k := 3) rfl (by decide) ?_
  refine zistore_n (k := 4) (ls' := [_, _, _, _]) rfl (Nat.le_of_ble_eq_true rfl) rfl ?_
  have lp7 : ∀ (g : Nat) (j : Nat) (σ1 : zv_H), ((Wm 0 3).toNat - j) < g → ((j : Int) ≤ Wm 0 3) → (stM (zup σ0 289 62 (menF Wm S j).2) σ1 b v Wm (menF Wm S j).1) → zV Γ m_M_passes 7 0 0 Q (GM L) (0, 0) 7 [some (zR 289), some (zI v), some (zI j), none] [] σ1 := by
    intro g
    induction g with
    | zero => intro j σ1 hg; exact absurd hg (Nat.not_lt_zero _)
    | succ g ih7 =>
      intro j σ1 hg hj h0
      have hb := h0.2.2.1
      have hs := SI_men hWI hSI j hj
      have hc9 := men_c Wm S j
      generalize hT : menF Wm S j = T at h0 hs hc9
      refine ziload_n (k := 5) rfl rfl ?_
      refine zaload_n (k := 6) rfl rfl ?_
      refine zgF 21 (k := 7) rfl ob_289 fl_12_75 rfl fx_289_21 ?_
      refine zaload_n (k := 8) rfl rfl ?_
      refine zgI 13 (k := 9) rfl ob_289 fl_12_51 rfl fx_289_13 ?_
      rw [hb]
      refine ziaload (k := 10) rfl ar_298 ⟨by omega, by omega⟩ ?_
      rw [h0.2.1.1.2.2.1]
      refine zicmp_ge (k := 11) rfl rfl (fun c1 => ?_) (fun c1 => ?_)
      · skip
        refine zaload_n (k := 65) rfl rfl ?_
        refine zgF 45 (k := 66) rfl ob_289 fl_12_150 rfl fx_289_45 ?_
        refine ziload_n (k := 67) rfl rfl ?_
        refine zdup2 (k := 68) rfl rfl rfl ?_
        refine ziaload (k := 69) rfl ar_315 ⟨by omega, by omega⟩ ?_
        rw [h0.1.1.1]
        have w9 : T.1 0 0 = S 0 0 := by rw [← hT]; exact men_00 j
        refine ziconst (k := 70) rfl (by decide) ?_
        refine ziaddB (k := 71) rfl (by omega) ?_
        refine ziastore (k := 72) rfl ar_315 ⟨by omega, by omega⟩ (by omega) ?_
        refine zreturn (k := 73) rfl rfl rfl ?_
        rw [← hQ]
        refine ⟨rfl, rfl, ?_⟩
        have h6 := stM_wk (x := T.1 0 0 + 1) h0
        unfold pasF
        rw [show (Wm 0 3).toNat = j by omega, hT, ← w9]
        exact h6
      · skip
        refine zbipush (k := 12) rfl rfl ?_
        refine ziload_n (k := 13) rfl rfl ?_
        refine zimulB (k := 14) rfl (by omega) ?_
        refine ziload_n (k := 15) rfl rfl ?_
        refine ziaddB (k := 16) rfl (by omega) ?_
        refine zistore_n (k := 17) (ls' := [_, _, _, _]) rfl (Nat.le_of_ble_eq_true rfl) rfl ?_
        refine zaload_n (k := 18) rfl rfl ?_
        refine zgF 50 (k := 19) rfl ob_289 fl_12_165 rfl fx_289_50 ?_
        refine ziload_n (k := 20) rfl rfl ?_
        refine ziaload (k := 21) rfl ar_320 ⟨by omega, by omega⟩ ?_
        have rm := h0.1.2.2.1 j (by omega) (by omega)
        have bm := hs.2.2.2.2.1 j (by omega) (by omega)
        rw [rm.2.1]
        refine ziconst (k := 22) rfl (by decide) ?_
        refine zicmp_ne (k := 23) rfl rfl (fun c2 => ?_) (fun c2 => ?_)
        · skip
          refine zaload_n (k := 43) rfl rfl ?_
          refine zgF 50 (k := 44) rfl ob_289 fl_12_165 rfl fx_289_50 ?_
          refine ziload_n (k := 45) rfl rfl ?_
          refine ziaload (k := 46) rfl ar_320 ⟨by omega, by omega⟩ ?_
          rw [rm.2.1]
          refine zif_ne (k := 47) rfl rfl (fun c3 => ?_) (fun c3 => ?_)
          · skip
            refine zaload_n (k := 53) rfl rfl ?_
            refine zgF 50 (k := 54) rfl ob_289 fl_12_165 rfl fx_289_50 ?_
            refine ziload_n (k := 55) rfl rfl ?_
            refine ziaload (k := 56) rfl ar_320 ⟨by omega, by omega⟩ ?_
            rw [rm.2.1]
            refine ziconst (k := 57) rfl (by decide) ?_
            refine zicmp_ne (k := 58) rfl rfl (fun c4 => ?_) (fun c4 => ?_)
            · skip
              refine ziincB (k := 63) (ls' := [_, _, _, _]) rfl rfl (by decide) (by omega) rfl ?_
              refine zgoto (k := 64) rfl rfl ?_
              refine zforget (ls' := [_, _, _, _]) 3 rfl ?_
              first
              | (have en : manF Wm T.1 j = (walF T.1 j, 0) := by
                   unfold manF
                   rw [if_pos (by omega)]
                 have r := ih7 (j + 1) _ (by omega) (by omega) (by
                   rw [show menF Wm S (j + 1) = ((manF Wm (menF Wm S j).1 j).1, (menF Wm S j).2 + (manF Wm (menF Wm S j).1 j).2) from rfl, hT, en]
                   unfold walF
                   rw [show max 0 (T.1 6 j - 1) = T.1 6 j - 1 by omega, if_pos (by omega)]
                   rw [show T.2 + (0 : Int) = T.2 from Int.add_zero _]
                   exact stM_m (f := 5) (stM_m (f := 6) h0 (by omega) ⟨by omega, by omega⟩ w3.2) (by omega) ⟨by omega, by omega⟩ w3.2)
                 exact r)
              | (have en : manF Wm T.1 j = (walF T.1 j, 0) := by
                   unfold manF
                   rw [if_pos (by omega)]
                 have r := ih7 (j + 1) _ (by omega) (by omega) (by
                   rw [show menF Wm S (j + 1) = ((manF Wm (menF Wm S j).1 j).1, (menF Wm S j).2 + (manF Wm (menF Wm S j).1 j).2) from rfl, hT, en]
                   unfold walF
                   rw [show max 0 (T.1 6 j - 1) = T.1 6 j - 1 by omega, if_neg (by omega)]
                   rw [show T.2 + (0 : Int) = T.2 from Int.add_zero _]
                   exact stM_m (f := 6) h0 (by omega) ⟨by omega, by omega⟩ w3.2)
                 exact r)
              | (have en : manF Wm T.1 j = (ridF Wm T.1 j, 0) := by
                   unfold manF
                   rw [if_neg (by omega), if_pos (by omega)]
                 have r := ih7 (j + 1) _ (by omega) (by omega) (by
                   rw [show menF Wm S (j + 1) = ((manF Wm (menF Wm S j).1 j).1, (menF Wm S j).2 + (manF Wm (menF Wm S j).1 j).2) from rfl, hT, en]
                   rw [show T.2 + (0 : Int) = T.2 from Int.add_zero _]
                   exact h2)
                 exact r)
              | (have en : manF Wm T.1 j = ((metF Wm T.1 j).1, (metF Wm T.1 j).2) := by
                   unfold manF
                   rw [if_neg (by omega), if_neg (by omega), if_pos (by omega)]
                 have r := ih7 (j + 1) _ (by omega) (by omega) (by
                   rw [show menF Wm S (j + 1) = ((manF Wm (menF Wm S j).1 j).1, (menF Wm S j).2 + (manF Wm (menF Wm S j).1 j).2) from rfl, hT, en]
                   exact h2)
                 exact r)
              | (have en : manF Wm T.1 j = (T.1, 0) := by
                   unfold manF
                   rw [if_neg (by omega), if_neg (by omega), if_neg (by omega)]
                 have r := ih7 (j + 1) _ (by omega) (by omega) (by
                   rw [show menF Wm S (j + 1) = ((manF Wm (menF Wm S j).1 j).1, (menF Wm S j).2 + (manF Wm (menF Wm S j).1 j).2) from rfl, hT, en]
                   rw [show T.2 + (0 : Int) = T.2 from Int.add_zero _]
                   exact h0)
                 exact r)
            · skip
              refine zaload_n (k := 59) rfl rfl ?_
              refine ziload_n (k := 60) rfl rfl ?_
              refine ziload_n (k := 61) rfl rfl ?_
              refine zpV0 (k := 62) rfl (c_M_isInTrain hb1 hv h0 hs hWI ⟨by omega, by omega⟩ (by omega)) fm_M_isInTrain lk_12_481 rfl rfl ob_289 ⟨_, rfl, rfl⟩ (Nat.le_of_ble_eq_true rfl) (by decide) ⟨by decide, by decide⟩ (fun σ2 h2 => ?_)
              refine ziincB (k := 63) (ls' := [_, _, _, _]) rfl rfl (by decide) (by omega) rfl ?_
              refine zgoto (k := 64) rfl rfl ?_
              refine zforget (ls' := [_, _, _, _]) 3 rfl ?_
              first
              | (have en : manF Wm T.1 j = (walF T.1 j, 0) := by
                   unfold manF
                   rw [if_pos (by omega)]
                 have r := ih7 (j + 1) _ (by omega) (by omega) (by
                   rw [show menF Wm S (j + 1) = ((manF Wm (menF Wm S j).1 j).1, (menF Wm S j).2 + (manF Wm (menF Wm S j).1 j).2) from rfl, hT, en]
                   unfold walF
                   rw [show max 0 (T.1 6 j - 1) = T.1 6 j - 1 by omega, if_pos (by omega)]
                   rw [show T.2 + (0 : Int) = T.2 from Int.add_zero _]
                   exact stM_m (f := 5) (stM_m (f := 6) h0 (by omega) ⟨by omega, by omega⟩ w3.2) (by omega) ⟨by omega, by omega⟩ w3.2)
                 exact r)
              | (have en : manF Wm T.1 j = (walF T.1 j, 0) := by
                   unfold manF
                   rw [if_pos (by omega)]
                 have r := ih7 (j + 1) _ (by omega) (by omega) (by
                   rw [show menF Wm S (j + 1) = ((manF Wm (menF Wm S j).1 j).1, (menF Wm S j).2 + (manF Wm (menF Wm S j).1 j).2) from rfl, hT, en]
                   unfold walF
                   rw [show max 0 (T.1 6 j - 1) = T.1 6 j - 1 by omega, if_neg (by omega)]
                   rw [show T.2 + (0 : Int) = T.2 from Int.add_zero _]
                   exact stM_m (f := 6) h0 (by omega) ⟨by omega, by omega⟩ w3.2)
                 exact r)
              | (have en : manF Wm T.1 j = (ridF Wm T.1 j, 0) := by
                   unfold manF
                   rw [if_neg (by omega), if_pos (by omega)]
                 have r := ih7 (j + 1) _ (by omega) (by omega) (by
                   rw [show menF Wm S (j + 1) = ((manF Wm (menF Wm S j).1 j).1, (menF Wm S j).2 + (manF Wm (menF Wm S j).1 j).2) from rfl, hT, en]
                   rw [show T.2 + (0 : Int) = T.2 from Int.add_zero _]
                   exact h2)
                 exact r)
              | (have en : manF Wm T.1 j = ((metF Wm T.1 j).1, (metF Wm T.1 j).2) := by
                   unfold manF
                   rw [if_neg (by omega), if_neg (by omega), if_pos (by omega)]
                 have r := ih7 (j + 1) _ (by omega) (by omega) (by
                   rw [show menF Wm S (j + 1) = ((manF Wm (menF Wm S j).1 j).1, (menF Wm S j).2 + (manF Wm (menF Wm S j).1 j).2) from rfl, hT, en]
                   exact h2)
                 exact r)
              | (have en : manF Wm T.1 j = (T.1, 0) := by
                   unfold manF
                   rw [if_neg (by omega), if_neg (by omega), if_neg (by omega)]
                 have r := ih7 (j + 1) _ (by omega) (by omega) (by
                   rw [show menF Wm S (j + 1) = ((manF Wm (menF Wm S j).1 j).1, (menF Wm S j).2 + (manF Wm (menF Wm S j).1 j).2) from rfl, hT, en]
                   rw [show T.2 + (0 : Int) = T.2 from Int.add_zero _]
                   exact h0)
                 exact r)
          · skip
            refine zaload_n (k := 48) rfl rfl ?_
            refine ziload_n (k := 49) rfl rfl ?_
            refine ziload_n (k := 50) rfl rfl ?_
            refine zpV0 (k := 51) rfl (c_M_isFree hb1 hv h0 hs hWI ⟨by omega, by omega⟩ ⟨by omega, by omega⟩ (by omega)) fm_M_isFree lk_12_478 rfl rfl ob_289 ⟨_, rfl, rfl⟩ (Nat.le_of_ble_eq_true rfl) (by decide) ⟨by decide, by decide⟩ (fun σ2 h2 => ?_)
            refine zgoto (k := 52) rfl rfl ?_
            refine ziincB (k := 63) (ls' := [_, _, _, _]) rfl rfl (by decide) (by omega) rfl ?_
            refine zgoto (k := 64) rfl rfl ?_
            refine zforget (ls' := [_, _, _, _]) 3 rfl ?_
            first
            | (have en : manF Wm T.1 j = (walF T.1 j, 0) := by
                 unfold manF
                 rw [if_pos (by omega)]
               have r := ih7 (j + 1) _ (by omega) (by omega) (by
                 rw [show menF Wm S (j + 1) = ((manF Wm (menF Wm S j).1 j).1, (menF Wm S j).2 + (manF Wm (menF Wm S j).1 j).2) from rfl, hT, en]
                 unfold walF
                 rw [show max 0 (T.1 6 j - 1) = T.1 6 j - 1 by omega, if_pos (by omega)]
                 rw [show T.2 + (0 : Int) = T.2 from Int.add_zero _]
                 exact stM_m (f := 5) (stM_m (f := 6) h0 (by omega) ⟨by omega, by omega⟩ w3.2) (by omega) ⟨by omega, by omega⟩ w3.2)
               exact r)
            | (have en : manF Wm T.1 j = (walF T.1 j, 0) := by
                 unfold manF
                 rw [if_pos (by omega)]
               have r := ih7 (j + 1) _ (by omega) (by omega) (by
                 rw [show menF Wm S (j + 1) = ((manF Wm (menF Wm S j).1 j).1, (menF Wm S j).2 + (manF Wm (menF Wm S j).1 j).2) from rfl, hT, en]
                 unfold walF
                 rw [show max 0 (T.1 6 j - 1) = T.1 6 j - 1 by omega, if_neg (by omega)]
                 rw [show T.2 + (0 : Int) = T.2 from Int.add_zero _]
                 exact stM_m (f := 6) h0 (by omega) ⟨by omega, by omega⟩ w3.2)
               exact r)
            | (have en : manF Wm T.1 j = (ridF Wm T.1 j, 0) := by
                 unfold manF
                 rw [if_neg (by omega), if_pos (by omega)]
               have r := ih7 (j + 1) _ (by omega) (by omega) (by
                 rw [show menF Wm S (j + 1) = ((manF Wm (menF Wm S j).1 j).1, (menF Wm S j).2 + (manF Wm (menF Wm S j).1 j).2) from rfl, hT, en]
                 rw [show T.2 + (0 : Int) = T.2 from Int.add_zero _]
                 exact h2)
               exact r)
            | (have en : manF Wm T.1 j = ((metF Wm T.1 j).1, (metF Wm T.1 j).2) := by
                 unfold manF
                 rw [if_neg (by omega), if_neg (by omega), if_pos (by omega)]
               have r := ih7 (j + 1) _ (by omega) (by omega) (by
                 rw [show menF Wm S (j + 1) = ((manF Wm (menF Wm S j).1 j).1, (menF Wm S j).2 + (manF Wm (menF Wm S j).1 j).2) from rfl, hT, en]
                 exact h2)
               exact r)
            | (have en : manF Wm T.1 j = (T.1, 0) := by
                 unfold manF
                 rw [if_neg (by omega), if_neg (by omega), if_neg (by omega)]
               have r := ih7 (j + 1) _ (by omega) (by omega) (by
                 rw [show menF Wm S (j + 1) = ((manF Wm (menF Wm S j).1 j).1, (menF Wm S j).2 + (manF Wm (menF Wm S j).1 j).2) from rfl, hT, en]
                 rw [show T.2 + (0 : Int) = T.2 from Int.add_zero _]
                 exact h0)
               exact r)
        · skip
          refine zaload_n (k := 24) rfl rfl ?_
          refine zgF 51 (k := 25) rfl ob_289 fl_12_168 rfl fx_289_51 ?_
          refine ziload_n (k := 26) rfl rfl ?_
          refine zdup2 (k := 27) rfl rfl rfl ?_
          refine ziaload (k := 28) rfl ar_321 ⟨by omega, by omega⟩ ?_
          rw [rm.2.2.1]
          refine ziconst (k := 29) rfl (by decide) ?_
          refine zisubB (k := 30) rfl (by omega) ?_
          refine ziastore (k := 31) rfl ar_321 ⟨by omega, by omega⟩ (by omega) ?_
          refine zaload_n (k := 32) rfl rfl ?_
          refine zgF 51 (k := 33) rfl ob_289 fl_12_168 rfl fx_289_51 ?_
          refine ziload_n (k := 34) rfl rfl ?_
          refine ziaload (k := 35) rfl ar_321 ⟨by omega, by omega⟩ ?_
          rw [zup_s]
          refine zif_ne (k := 36) rfl rfl (fun c5 => ?_) (fun c5 => ?_)
          · skip
            refine ziincB (k := 63) (ls' := [_, _, _, _]) rfl rfl (by decide) (by omega) rfl ?_
            refine zgoto (k := 64) rfl rfl ?_
            refine zforget (ls' := [_, _, _, _]) 3 rfl ?_
            first
            | (have en : manF Wm T.1 j = (walF T.1 j, 0) := by
                 unfold manF
                 rw [if_pos (by omega)]
               have r := ih7 (j + 1) _ (by omega) (by omega) (by
                 rw [show menF Wm S (j + 1) = ((manF Wm (menF Wm S j).1 j).1, (menF Wm S j).2 + (manF Wm (menF Wm S j).1 j).2) from rfl, hT, en]
                 unfold walF
                 rw [show max 0 (T.1 6 j - 1) = T.1 6 j - 1 by omega, if_pos (by omega)]
                 rw [show T.2 + (0 : Int) = T.2 from Int.add_zero _]
                 exact stM_m (f := 5) (stM_m (f := 6) h0 (by omega) ⟨by omega, by omega⟩ w3.2) (by omega) ⟨by omega, by omega⟩ w3.2)
               exact r)
            | (have en : manF Wm T.1 j = (walF T.1 j, 0) := by
                 unfold manF
                 rw [if_pos (by omega)]
               have r := ih7 (j + 1) _ (by omega) (by omega) (by
                 rw [show menF Wm S (j + 1) = ((manF Wm (menF Wm S j).1 j).1, (menF Wm S j).2 + (manF Wm (menF Wm S j).1 j).2) from rfl, hT, en]
                 unfold walF
                 rw [show max 0 (T.1 6 j - 1) = T.1 6 j - 1 by omega, if_neg (by omega)]
                 rw [show T.2 + (0 : Int) = T.2 from Int.add_zero _]
                 exact stM_m (f := 6) h0 (by omega) ⟨by omega, by omega⟩ w3.2)
               exact r)
            | (have en : manF Wm T.1 j = (ridF Wm T.1 j, 0) := by
                 unfold manF
                 rw [if_neg (by omega), if_pos (by omega)]
               have r := ih7 (j + 1) _ (by omega) (by omega) (by
                 rw [show menF Wm S (j + 1) = ((manF Wm (menF Wm S j).1 j).1, (menF Wm S j).2 + (manF Wm (menF Wm S j).1 j).2) from rfl, hT, en]
                 rw [show T.2 + (0 : Int) = T.2 from Int.add_zero _]
                 exact h2)
               exact r)
            | (have en : manF Wm T.1 j = ((metF Wm T.1 j).1, (metF Wm T.1 j).2) := by
                 unfold manF
                 rw [if_neg (by omega), if_neg (by omega), if_pos (by omega)]
               have r := ih7 (j + 1) _ (by omega) (by omega) (by
                 rw [show menF Wm S (j + 1) = ((manF Wm (menF Wm S j).1 j).1, (menF Wm S j).2 + (manF Wm (menF Wm S j).1 j).2) from rfl, hT, en]
                 exact h2)
               exact r)
            | (have en : manF Wm T.1 j = (T.1, 0) := by
                 unfold manF
                 rw [if_neg (by omega), if_neg (by omega), if_neg (by omega)]
               have r := ih7 (j + 1) _ (by omega) (by omega) (by
                 rw [show menF Wm S (j + 1) = ((manF Wm (menF Wm S j).1 j).1, (menF Wm S j).2 + (manF Wm (menF Wm S j).1 j).2) from rfl, hT, en]
                 rw [show T.2 + (0 : Int) = T.2 from Int.add_zero _]
                 exact h0)
               exact r)
          · skip
            refine zaload_n (k := 37) rfl rfl ?_
            refine zgF 50 (k := 38) rfl ob_289 fl_12_165 rfl fx_289_50 ?_
            refine ziload_n (k := 39) rfl rfl ?_
            refine ziconst (k := 40) rfl (by decide) ?_
            refine ziastore (k := 41) rfl ar_320 ⟨by omega, by omega⟩ (by omega) ?_
            refine zgoto (k := 42) rfl rfl ?_
            refine ziincB (k := 63) (ls' := [_, _, _, _]) rfl rfl (by decide) (by omega) rfl ?_
            refine zgoto (k := 64) rfl rfl ?_
            refine zforget (ls' := [_, _, _, _]) 3 rfl ?_
            first
            | (have en : manF Wm T.1 j = (walF T.1 j, 0) := by
                 unfold manF
                 rw [if_pos (by omega)]
               have r := ih7 (j + 1) _ (by omega) (by omega) (by
                 rw [show menF Wm S (j + 1) = ((manF Wm (menF Wm S j).1 j).1, (menF Wm S j).2 + (manF Wm (menF Wm S j).1 j).2) from rfl, hT, en]
                 unfold walF
                 rw [show max 0 (T.1 6 j - 1) = T.1 6 j - 1 by omega, if_pos (by omega)]
                 rw [show T.2 + (0 : Int) = T.2 from Int.add_zero _]
                 exact stM_m (f := 5) (stM_m (f := 6) h0 (by omega) ⟨by omega, by omega⟩ w3.2) (by omega) ⟨by omega, by omega⟩ w3.2)
               exact r)
            | (have en : manF Wm T.1 j = (walF T.1 j, 0) := by
                 unfold manF
                 rw [if_pos (by omega)]
               have r := ih7 (j + 1) _ (by omega) (by omega) (by
                 rw [show menF Wm S (j + 1) = ((manF Wm (menF Wm S j).1 j).1, (menF Wm S j).2 + (manF Wm (menF Wm S j).1 j).2) from rfl, hT, en]
                 unfold walF
                 rw [show max 0 (T.1 6 j - 1) = T.1 6 j - 1 by omega, if_neg (by omega)]
                 rw [show T.2 + (0 : Int) = T.2 from Int.add_zero _]
                 exact stM_m (f := 6) h0 (by omega) ⟨by omega, by omega⟩ w3.2)
               exact r)
            | (have en : manF Wm T.1 j = (ridF Wm T.1 j, 0) := by
                 unfold manF
                 rw [if_neg (by omega), if_pos (by omega)]
               have r := ih7 (j + 1) _ (by omega) (by omega) (by
                 rw [show menF Wm S (j + 1) = ((manF Wm (menF Wm S j).1 j).1, (menF Wm S j).2 + (manF Wm (menF Wm S j).1 j).2) from rfl, hT, en]
                 rw [show T.2 + (0 : Int) = T.2 from Int.add_zero _]
                 exact h2)
               exact r)
            | (have en : manF Wm T.1 j = ((metF Wm T.1 j).1, (metF Wm T.1 j).2) := by
                 unfold manF
                 rw [if_neg (by omega), if_neg (by omega), if_pos (by omega)]
               have r := ih7 (j + 1) _ (by omega) (by omega) (by
                 rw [show menF Wm S (j + 1) = ((manF Wm (menF Wm S j).1 j).1, (menF Wm S j).2 + (manF Wm (menF Wm S j).1 j).2) from rfl, hT, en]
                 exact h2)
               exact r)
            | (have en : manF Wm T.1 j = (T.1, 0) := by
                 unfold manF
                 rw [if_neg (by omega), if_neg (by omega), if_neg (by omega)]
               have r := ih7 (j + 1) _ (by omega) (by omega) (by
                 rw [show menF Wm S (j + 1) = ((manF Wm (menF Wm S j).1 j).1, (menF Wm S j).2 + (manF Wm (menF Wm S j).1 j).2) from rfl, hT, en]
                 rw [show T.2 + (0 : Int) = T.2 from Int.add_zero _]
                 exact h0)
               exact r)
  exact lp7 _ 0 _ (Nat.lt_succ_self _) (by omega) g0
theorem c_M_passes {Γ : zv_M} {L : Int} {σ0 σ Wm S : zv_H} {b v : Int} (hb1 : b = 0 ∨ b = 1) (hv : 0 ≤ v ∧ v < 22) (h0 : stM σ0 σ b v Wm S) (hSI : SI (Wm 0 1) (Wm 0 3) S) (hWI : WI Wm) (hw : S 0 0 ≤ 998) : zC Γ m_M_passes 7 0 0 (GM L) [zR 289, zI v] σ (zP0 (GM L) (fun σ' => stM (zup σ0 289 62 (pasF Wm S).2) σ' b v Wm (pasF Wm S).1)) := by
  refine zC_mono (fun q G' σ' hq => ?_) (c_M_pass9 hb1 hv h0 hSI hWI)
  obtain ⟨g1, g2, g3⟩ := hq
  refine ⟨g1, g2, ?_⟩
  rw [show (pasF Wm S).1 = zup (menF Wm S (Wm 0 3).toNat).1 0 0 (S 0 0 + 1) from by
    show zup (menF Wm S (Wm 0 3).toNat).1 0 0 (min 999 ((menF Wm S (Wm 0 3).toNat).1 0 0 + 1)) = _
    rw [men_00, show min 999 (S 0 0 + 1) = S 0 0 + 1 by omega]]
  exact g3
