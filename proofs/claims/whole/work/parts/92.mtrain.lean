/-! a MAN in the TRAIN -/
theorem dst_0 {Wm : zv_H} (h : WI Wm) {f : Int} (hf : 0 ≤ f ∧ f < Wm 0 1) : dstF Wm f f = 0 := by
  have q := (h.2.2.2.2.2.2.2.2.2 f f hf.1 hf.2 hf.1 hf.2).2.2.2 rfl
  unfold dstF
  rw [if_pos ⟨hf, hf, by omega⟩, q]
theorem ent_b {nc nm : Int} {S : zv_H} (h : SI nc nm S) {m c t : Int} (hm : 0 ≤ m ∧ m < 6) (hc : 0 ≤ c ∧ c < 7) (ht : 0 ≤ t ∧ t ≤ 9) : 0 ≤ entF S m c t ∧ entF S m c t ≤ 999999 := by
  have := h.1
  unfold entF
  omega
set_option maxHeartbeats 4000000 in
set_option maxRecDepth 20000 in
theorem c_M_isInTrain {Γ : zv_M} {L : Int} {σ0 σ Wm S : zv_H} {b v : Int} (hb1 : b = 0 ∨ b = 1) (hv : 0 ≤ v ∧ v < 22) (h0 : stM σ0 σ b v Wm S) (hSI : SI (Wm 0 1) (Wm 0 3) S) (hWI : WI Wm) {m : Int} (hm : 0 ≤ m ∧ m < Wm 0 3) (h5 : S 5 m = 2)  : zC Γ m_M_isInTrain 6 0 0 (GM L) [zR 289, zI v, zI m] σ (zP0 (GM L) (fun σ' => stM σ0 σ' b v Wm (ridF Wm S m))) := by
  refine zC_of (ls0 := [_, _, _, _, _]) zm_M_isInTrain (by decide) rfl (Nat.le_of_ble_eq_true rfl) ?_
  generalize hQ : (zP0 (GM L) (fun σ' => stM σ0 σ' b v Wm (ridF Wm S m))) = Q
  have hb := h0.2.2.1
  have w1 := hWI.1
  have w3 := hWI.2.2.1
  have bm := hSI.2.2.2.2.1 m hm.1 hm.2
  have bc := hSI.2.2.2.1 (S 4 m) bm.1.1 bm.1.2
  have b00 := hSI.1
  have rm := h0.1.2.2.1 m hm.1 hm.2
  refine zaload_n (k := 0) rfl rfl ?_
  refine zgF 49 (k := 1) rfl ob_289 fl_12_162 rfl fx_289_49 ?_
  refine zbipush (k := 2) rfl rfl ?_
  refine ziload_n (k := 3) rfl rfl ?_
  refine zimulB (k := 4) rfl (by omega) ?_
  refine ziload_n (k := 5) rfl rfl ?_
  refine ziaddB (k := 6) rfl (by omega) ?_
  refine ziaload (k := 7) rfl ar_319 ⟨by omega, by omega⟩ ?_
  rw [rm.1]
  refine zistore_n (k := 8) (ls' := [_, _, _, _, _]) rfl (Nat.le_of_ble_eq_true rfl) rfl ?_
  refine zaload_n (k := 9) rfl rfl ?_
  refine ziload_n (k := 10) rfl rfl ?_
  refine ziload_n (k := 11) rfl rfl ?_
  refine ziload_n (k := 12) rfl rfl ?_
  refine zpV0 (k := 13) rfl (c_M_tells hb1 hv h0 hSI hWI hm ⟨bm.1.1, bm.1.2⟩) fm_M_tells lk_12_445 rfl rfl ob_289 ⟨_, rfl, rfl⟩ (Nat.le_of_ble_eq_true rfl) (by decide) ⟨by decide, by decide⟩ (fun σ2 h2 => ?_)
  clear h0
  have h0 := h2.1
  have hE := h2.2
  rw [dst_0 hWI bm.1, if_neg (by omega)] at hE
  have hb := h0.2.2.1
  have hf1 := h0.2.1.2.2.2.2.1
  refine zaload_n (k := 14) rfl rfl ?_
  refine ziconst (k := 15) rfl (by decide) ?_
  refine zfV1 (k := 16) rfl (c_M_isTold hb hb1 (by omega)) fm_M_isTold lk_12_442 rfl rfl ob_289 ⟨_, rfl, rfl⟩ (Nat.le_of_ble_eq_true rfl) (by decide) ⟨by decide, by decide⟩ ?_
  refine zif_eq (k := 17) rfl rfl (fun c1 => ?_) (fun c1 => ?_)
  · skip
    first
    | (have hjt : jmpF Wm S m (S 4 m) = true := by rw [hjm]; exact decide_eq_true (by simp only [ne_eq, zcc2] at *; omega))
    | (have hjt : jmpF Wm S m (S 4 m) = true := jmpF_0 (by
         unfold fmM at hf1
         rcases hf1 with r | r
         · omega
         · obtain ⟨i0, f1, f2, f3⟩ := r.2; exfalso; omega))
    refine zaload_n (k := 39) rfl rfl ?_
    refine ziload_n (k := 40) rfl rfl ?_
    refine ziload_n (k := 41) rfl rfl ?_
    refine ziconst (k := 42) rfl (by decide) ?_
    refine zpV0 (k := 43) rfl (c_M_writesDown (t := 2) hb1 hv h0 hSI hWI hm (by omega)) fm_M_writesDown lk_12_469 rfl rfl ob_289 ⟨_, rfl, rfl⟩ (Nat.le_of_ble_eq_true rfl) (by decide) ⟨by decide, by decide⟩ (fun σ4 h4 => ?_)
    refine ziconst (k := 44) rfl (by decide) ?_
    refine zistore (k := 45) (ls' := [_, _, _, _, _]) rfl (Nat.le_of_ble_eq_true rfl) rfl ?_
    have lp67 : ∀ (g : Nat) (j : Nat) (σ1 : zv_H), ((Wm 0 1).toNat - j) < g → ((j : Int) ≤ Wm 0 1) → (stM σ0 σ1 b v Wm (sdsF Wm (kepF S (entF S m (S 4 m) 2)) m (S 4 m) j)) → zV Γ m_M_isInTrain 6 0 0 Q (GM L) (0, 0) 67 [some (zR 289), some (zI v), some (zI m), some (zI (S 4 m)), some (zI j)] [] σ1 := by
      intro g
      induction g with
      | zero => intro j σ1 hg; exact absurd hg (Nat.not_lt_zero _)
      | succ g ih67 =>
        intro j σ1 hg hj h0
        have hb := h0.2.2.1
        have hs := SI_sds (m := m) (c := S 4 m) hWI (SI_kep hSI (ent_b hSI (m := m) (c := S 4 m) (t := 2) (by omega) (by omega) (by omega))) j
        have b4 := hWI.2.2.2.1
        refine ziload (k := 46) rfl rfl ?_
        refine zaload_n (k := 47) rfl rfl ?_
        refine zgF 14 (k := 48) rfl ob_289 fl_12_54 rfl fx_289_14 ?_
        refine zaload_n (k := 49) rfl rfl ?_
        refine zgI 13 (k := 50) rfl ob_289 fl_12_51 rfl fx_289_13 ?_
        rw [hb]
        refine ziaload (k := 51) rfl ar_291 ⟨by omega, by omega⟩ ?_
        rw [h0.2.1.1.1]
        refine zicmp_ge (k := 52) rfl rfl (fun c2 => ?_) (fun c2 => ?_)
        · skip
          refine zaload_n (k := 81) rfl rfl ?_
          refine ziload_n (k := 82) rfl rfl ?_
          refine ziload_n (k := 83) rfl rfl ?_
          refine zpV0 (k := 84) rfl (c_M_goesOn hb1 hv h0 hs hWI hm) fm_M_goesOn_ lk_12_472 rfl rfl ob_289 ⟨_, rfl, rfl⟩ (Nat.le_of_ble_eq_true rfl) (by decide) ⟨by decide, by decide⟩ (fun σ5 h5b => ?_)
          refine zreturn (k := 85) rfl rfl rfl ?_
          rw [← hQ]
          refine ⟨rfl, rfl, ?_⟩
          unfold ridF
          rw [if_neg (by rw [hjt]; decide), ← sds_kep, show (Wm 0 1).toNat = j by omega]
          exact h5b
        · skip
          refine zaload_n (k := 53) rfl rfl ?_
          refine ziload_n (k := 54) rfl rfl ?_
          refine ziload (k := 55) rfl rfl ?_
          refine zfV1 (k := 56) rfl (c_M_wayBy hb hb1 (by omega) (by omega)) fm_M_wayBy lk_12_439 rfl rfl ob_289 ⟨_, rfl, rfl⟩ (Nat.le_of_ble_eq_true rfl) (by decide) ⟨by decide, by decide⟩ ?_
          rw [way_r h0 hWI bm.1 ⟨by omega, by omega⟩]
          have db := dst_b hWI (S 4 m) j
          refine zldcw (k := 57) (z := 100000000) rfl kc_12_404 rfl ?_
          refine zicmp_ge (k := 58) rfl rfl (fun c3 => ?_) (fun c3 => ?_)
          · skip
            refine ziincB (k := 79) (ls' := [_, _, _, _, _]) rfl rfl (by decide) (by omega) rfl ?_
            refine zgoto (k := 80) rfl rfl ?_
            first
            | (have en : sdsF Wm (kepF S (entF S m (S 4 m) 2)) m (S 4 m) (j + 1) = sdsF Wm (kepF S (entF S m (S 4 m) 2)) m (S 4 m) j := if_neg (fun q => by omega)
               have r := ih67 (j + 1) _ (by omega) (by omega) (by rw [en]; exact h0)
               exact r)
            | (have en : sdsF Wm (kepF S (entF S m (S 4 m) 2)) m (S 4 m) (j + 1) = sndF (sdsF Wm (kepF S (entF S m (S 4 m) 2)) m (S 4 m) j) m j (kepF S (entF S m (S 4 m) 2) 0 0 + dstF Wm (S 4 m) j + Wm 0 4) := if_pos (by omega)
               rw [kep_n (by omega) (by omega)] at en
               have r := ih67 (j + 1) _ (by omega) (by omega) (by rw [en]; exact h0)
               exact r)
          · skip
            refine zaload_n (k := 59) rfl rfl ?_
            refine ziload_n (k := 60) rfl rfl ?_
            refine ziload_n (k := 61) rfl rfl ?_
            refine ziload (k := 62) rfl rfl ?_
            refine zaload_n (k := 63) rfl rfl ?_
            refine zgF 45 (k := 64) rfl ob_289 fl_12_150 rfl fx_289_45 ?_
            refine ziload_n (k := 65) rfl rfl ?_
            refine ziaload (k := 66) rfl ar_315 ⟨by omega, by omega⟩ ?_
            rw [h0.1.1.1, sds_00 (by omega), kep_n (by omega) (by omega)]
            refine zaload_n (k := 67) rfl rfl ?_
            refine ziload_n (k := 68) rfl rfl ?_
            refine ziload (k := 69) rfl rfl ?_
            refine zfV1 (k := 70) rfl (c_M_wayBy hb hb1 (by omega) (by omega)) fm_M_wayBy lk_12_439 rfl rfl ob_289 ⟨_, rfl, rfl⟩ (Nat.le_of_ble_eq_true rfl) (by decide) ⟨by decide, by decide⟩ ?_
            rw [way_r h0 hWI bm.1 ⟨by omega, by omega⟩, if_neg (show ¬ dstF Wm (S 4 m) j = -1 by omega)]
            refine ziaddB (k := 71) rfl (by omega) ?_
            refine zaload_n (k := 72) rfl rfl ?_
            refine zgF 24 (k := 73) rfl ob_289 fl_12_84 rfl fx_289_24 ?_
            refine zaload_n (k := 74) rfl rfl ?_
            refine zgI 13 (k := 75) rfl ob_289 fl_12_51 rfl fx_289_13 ?_
            rw [hb]
            refine ziaload (k := 76) rfl ar_301 ⟨by omega, by omega⟩ ?_
            rw [h0.2.1.1.2.2.2]
            refine ziaddB (k := 77) rfl (by omega) ?_
            refine zpV0 (k := 78) rfl (c_M_sends hb1 hv h0 hs hWI hm ⟨by omega, by omega⟩ (by omega)) fm_M_sends lk_12_474 rfl rfl ob_289 ⟨_, rfl, rfl⟩ (Nat.le_of_ble_eq_true rfl) (by decide) ⟨by decide, by decide⟩ (fun σ5 h5b => ?_)
            clear h0
            have h0 := h5b
            refine ziincB (k := 79) (ls' := [_, _, _, _, _]) rfl rfl (by decide) (by omega) rfl ?_
            refine zgoto (k := 80) rfl rfl ?_
            first
            | (have en : sdsF Wm (kepF S (entF S m (S 4 m) 2)) m (S 4 m) (j + 1) = sdsF Wm (kepF S (entF S m (S 4 m) 2)) m (S 4 m) j := if_neg (fun q => by omega)
               have r := ih67 (j + 1) _ (by omega) (by omega) (by rw [en]; exact h0)
               exact r)
            | (have en : sdsF Wm (kepF S (entF S m (S 4 m) 2)) m (S 4 m) (j + 1) = sndF (sdsF Wm (kepF S (entF S m (S 4 m) 2)) m (S 4 m) j) m j (kepF S (entF S m (S 4 m) 2) 0 0 + dstF Wm (S 4 m) j + Wm 0 4) := if_pos (by omega)
               rw [kep_n (by omega) (by omega)] at en
               have r := ih67 (j + 1) _ (by omega) (by omega) (by rw [en]; exact h0)
               exact r)
    exact lp67 _ 0 _ (Nat.lt_succ_self _) (by omega) h4
  · skip
    have hq : 0 < Wm 8 1 := by
      unfold fmM at hf1
      rcases hf1 with r | r
      · exfalso; omega
      · exact r.1
    refine zaload_n (k := 18) rfl rfl ?_
    refine ziconst (k := 19) rfl (by decide) ?_
    refine zpVL (k := 20) rfl (k_mreck (gs := 9) (gl := 8) hb1 h0 (Or.inl ⟨rfl, rfl, rfl⟩) hq hWI.2.2.2.2.2.2.2.1 hE (env_b hSI hm bm.1 bc.2.1 ⟨by omega, by omega⟩)) fm_M_reckons lk_12_449 rfl rfl ob_289 ⟨_, rfl, rfl⟩ (Nat.le_of_ble_eq_true rfl) (by decide) ⟨by decide, by decide⟩ (fun z σ3 h3 => ?_)
    clear h0 hf1
    have h0 := h3.2
    have hb := h0.2.2.1
    have hjm : jmpF Wm S m (S 4 m) = decide (z ≠ 0) := by rw [jmpF_1 hq, h3.1]
    refine zlconst (k := 21) (z := 0) rfl rfl ?_
    refine zlcmp (k := 22) rfl ?_
    refine zif_ne (k := 23) rfl rfl (fun c4 => ?_) (fun c4 => ?_)
    · skip
      first
      | (have hjt : jmpF Wm S m (S 4 m) = true := by rw [hjm]; exact decide_eq_true (by simp only [ne_eq, zcc2] at *; omega))
      | (have hjt : jmpF Wm S m (S 4 m) = true := jmpF_0 (by
           unfold fmM at hf1
           rcases hf1 with r | r
           · omega
           · obtain ⟨i0, f1, f2, f3⟩ := r.2; exfalso; omega))
      refine zaload_n (k := 39) rfl rfl ?_
      refine ziload_n (k := 40) rfl rfl ?_
      refine ziload_n (k := 41) rfl rfl ?_
      refine ziconst (k := 42) rfl (by decide) ?_
      refine zpV0 (k := 43) rfl (c_M_writesDown (t := 2) hb1 hv h0 hSI hWI hm (by omega)) fm_M_writesDown lk_12_469 rfl rfl ob_289 ⟨_, rfl, rfl⟩ (Nat.le_of_ble_eq_true rfl) (by decide) ⟨by decide, by decide⟩ (fun σ4 h4 => ?_)
      refine ziconst (k := 44) rfl (by decide) ?_
      refine zistore (k := 45) (ls' := [_, _, _, _, _]) rfl (Nat.le_of_ble_eq_true rfl) rfl ?_
      have lp67 : ∀ (g : Nat) (j : Nat) (σ1 : zv_H), ((Wm 0 1).toNat - j) < g → ((j : Int) ≤ Wm 0 1) → (stM σ0 σ1 b v Wm (sdsF Wm (kepF S (entF S m (S 4 m) 2)) m (S 4 m) j)) → zV Γ m_M_isInTrain 6 0 0 Q (GM L) (0, 0) 67 [some (zR 289), some (zI v), some (zI m), some (zI (S 4 m)), some (zI j)] [] σ1 := by
        intro g
        induction g with
        | zero => intro j σ1 hg; exact absurd hg (Nat.not_lt_zero _)
        | succ g ih67 =>
          intro j σ1 hg hj h0
          have hb := h0.2.2.1
          have hs := SI_sds (m := m) (c := S 4 m) hWI (SI_kep hSI (ent_b hSI (m := m) (c := S 4 m) (t := 2) (by omega) (by omega) (by omega))) j
          have b4 := hWI.2.2.2.1
          refine ziload (k := 46) rfl rfl ?_
          refine zaload_n (k := 47) rfl rfl ?_
          refine zgF 14 (k := 48) rfl ob_289 fl_12_54 rfl fx_289_14 ?_
          refine zaload_n (k := 49) rfl rfl ?_
          refine zgI 13 (k := 50) rfl ob_289 fl_12_51 rfl fx_289_13 ?_
          rw [hb]
          refine ziaload (k := 51) rfl ar_291 ⟨by omega, by omega⟩ ?_
          rw [h0.2.1.1.1]
          refine zicmp_ge (k := 52) rfl rfl (fun c5 => ?_) (fun c5 => ?_)
          · skip
            refine zaload_n (k := 81) rfl rfl ?_
            refine ziload_n (k := 82) rfl rfl ?_
            refine ziload_n (k := 83) rfl rfl ?_
            refine zpV0 (k := 84) rfl (c_M_goesOn hb1 hv h0 hs hWI hm) fm_M_goesOn_ lk_12_472 rfl rfl ob_289 ⟨_, rfl, rfl⟩ (Nat.le_of_ble_eq_true rfl) (by decide) ⟨by decide, by decide⟩ (fun σ5 h5b => ?_)
            refine zreturn (k := 85) rfl rfl rfl ?_
            rw [← hQ]
            refine ⟨rfl, rfl, ?_⟩
            unfold ridF
            rw [if_neg (by rw [hjt]; decide), ← sds_kep, show (Wm 0 1).toNat = j by omega]
            exact h5b
          · skip
            refine zaload_n (k := 53) rfl rfl ?_
            refine ziload_n (k := 54) rfl rfl ?_
            refine ziload (k := 55) rfl rfl ?_
            refine zfV1 (k := 56) rfl (c_M_wayBy hb hb1 (by omega) (by omega)) fm_M_wayBy lk_12_439 rfl rfl ob_289 ⟨_, rfl, rfl⟩ (Nat.le_of_ble_eq_true rfl) (by decide) ⟨by decide, by decide⟩ ?_
            rw [way_r h0 hWI bm.1 ⟨by omega, by omega⟩]
            have db := dst_b hWI (S 4 m) j
            refine zldcw (k := 57) (z := 100000000) rfl kc_12_404 rfl ?_
            refine zicmp_ge (k := 58) rfl rfl (fun c6 => ?_) (fun c6 => ?_)
            · skip
              refine ziincB (k := 79) (ls' := [_, _, _, _, _]) rfl rfl (by decide) (by omega) rfl ?_
              refine zgoto (k := 80) rfl rfl ?_
              first
              | (have en : sdsF Wm (kepF S (entF S m (S 4 m) 2)) m (S 4 m) (j + 1) = sdsF Wm (kepF S (entF S m (S 4 m) 2)) m (S 4 m) j := if_neg (fun q => by omega)
                 have r := ih67 (j + 1) _ (by omega) (by omega) (by rw [en]; exact h0)
                 exact r)
              | (have en : sdsF Wm (kepF S (entF S m (S 4 m) 2)) m (S 4 m) (j + 1) = sndF (sdsF Wm (kepF S (entF S m (S 4 m) 2)) m (S 4 m) j) m j (kepF S (entF S m (S 4 m) 2) 0 0 + dstF Wm (S 4 m) j + Wm 0 4) := if_pos (by omega)
                 rw [kep_n (by omega) (by omega)] at en
                 have r := ih67 (j + 1) _ (by omega) (by omega) (by rw [en]; exact h0)
                 exact r)
            · skip
              refine zaload_n (k := 59) rfl rfl ?_
              refine ziload_n (k := 60) rfl rfl ?_
              refine ziload_n (k := 61) rfl rfl ?_
              refine ziload (k := 62) rfl rfl ?_
              refine zaload_n (k := 63) rfl rfl ?_
              refine zgF 45 (k := 64) rfl ob_289 fl_12_150 rfl fx_289_45 ?_
              refine ziload_n (k := 65) rfl rfl ?_
              refine ziaload (k := 66) rfl ar_315 ⟨by omega, by omega⟩ ?_
              rw [h0.1.1.1, sds_00 (by omega), kep_n (by omega) (by omega)]
              refine zaload_n (k := 67) rfl rfl ?_
              refine ziload_n (k := 68) rfl rfl ?_
              refine ziload (k := 69) rfl rfl ?_
              refine zfV1 (k := 70) rfl (c_M_wayBy hb hb1 (by omega) (by omega)) fm_M_wayBy lk_12_439 rfl rfl ob_289 ⟨_, rfl, rfl⟩ (Nat.le_of_ble_eq_true rfl) (by decide) ⟨by decide, by decide⟩ ?_
              rw [way_r h0 hWI bm.1 ⟨by omega, by omega⟩, if_neg (show ¬ dstF Wm (S 4 m) j = -1 by omega)]
              refine ziaddB (k := 71) rfl (by omega) ?_
              refine zaload_n (k := 72) rfl rfl ?_
              refine zgF 24 (k := 73) rfl ob_289 fl_12_84 rfl fx_289_24 ?_
              refine zaload_n (k := 74) rfl rfl ?_
              refine zgI 13 (k := 75) rfl ob_289 fl_12_51 rfl fx_289_13 ?_
              rw [hb]
              refine ziaload (k := 76) rfl ar_301 ⟨by omega, by omega⟩ ?_
              rw [h0.2.1.1.2.2.2]
              refine ziaddB (k := 77) rfl (by omega) ?_
              refine zpV0 (k := 78) rfl (c_M_sends hb1 hv h0 hs hWI hm ⟨by omega, by omega⟩ (by omega)) fm_M_sends lk_12_474 rfl rfl ob_289 ⟨_, rfl, rfl⟩ (Nat.le_of_ble_eq_true rfl) (by decide) ⟨by decide, by decide⟩ (fun σ5 h5b => ?_)
              clear h0
              have h0 := h5b
              refine ziincB (k := 79) (ls' := [_, _, _, _, _]) rfl rfl (by decide) (by omega) rfl ?_
              refine zgoto (k := 80) rfl rfl ?_
              first
              | (have en : sdsF Wm (kepF S (entF S m (S 4 m) 2)) m (S 4 m) (j + 1) = sdsF Wm (kepF S (entF S m (S 4 m) 2)) m (S 4 m) j := if_neg (fun q => by omega)
                 have r := ih67 (j + 1) _ (by omega) (by omega) (by rw [en]; exact h0)
                 exact r)
              | (have en : sdsF Wm (kepF S (entF S m (S 4 m) 2)) m (S 4 m) (j + 1) = sndF (sdsF Wm (kepF S (entF S m (S 4 m) 2)) m (S 4 m) j) m j (kepF S (entF S m (S 4 m) 2) 0 0 + dstF Wm (S 4 m) j + Wm 0 4) := if_pos (by omega)
                 rw [kep_n (by omega) (by omega)] at en
                 have r := ih67 (j + 1) _ (by omega) (by omega) (by rw [en]; exact h0)
                 exact r)
      exact lp67 _ 0 _ (Nat.lt_succ_self _) (by omega) h4
    · skip
      refine zaload_n (k := 24) rfl rfl ?_
      refine zgF 50 (k := 25) rfl ob_289 fl_12_165 rfl fx_289_50 ?_
      refine zbipush (k := 26) rfl rfl ?_
      refine ziload_n (k := 27) rfl rfl ?_
      refine zimulB (k := 28) rfl (by omega) ?_
      refine ziload_n (k := 29) rfl rfl ?_
      refine ziaddB (k := 30) rfl (by omega) ?_
      refine ziconst (k := 31) rfl (by decide) ?_
      refine ziastore (k := 32) rfl ar_320 ⟨by omega, by omega⟩ (by omega) ?_
      have g3 := stM_m (f := 5) (i := m) (x := 4) h0 (by omega) ⟨hm.1, by omega⟩ w3.2
      have s3 := SI_m (m := m) hSI (zup S 5 m 4) (fun g k q => zup_n (by omega)) (by simp [zup]; omega)
      have hjt : jmpF Wm S m (S 4 m) = false := by rw [hjm]; exact decide_eq_false (fun q => q (by simp only [ne_eq, zcc2] at *; omega))
      refine zaload_n (k := 33) rfl rfl ?_
      refine ziload_n (k := 34) rfl rfl ?_
      refine ziload_n (k := 35) rfl rfl ?_
      refine ziconst (k := 36) rfl (by decide) ?_
      refine zpV0 (k := 37) rfl (c_M_writesDown (t := 4) hb1 hv g3 s3 hWI hm (by omega)) fm_M_writesDown lk_12_469 rfl rfl ob_289 ⟨_, rfl, rfl⟩ (Nat.le_of_ble_eq_true rfl) (by decide) ⟨by decide, by decide⟩ (fun σ4 h4 => ?_)
      rw [entF_n (S := S) (by rw [zup_n (by omega)]), zup_n (a' := 4) (by omega)] at h4
      refine zreturn (k := 38) rfl rfl rfl ?_
      rw [← hQ]
      refine ⟨rfl, rfl, ?_⟩
      unfold ridF
      rw [if_pos hjt]
      exact h4
