theorem gtk_00 {S : zv_H} {s : Int} : ∀ j : Nat, (gtkF S s j).1 0 0 = S 0 0
  | 0 => rfl
  | j + 1 => by
    have ih := gtk_00 (S := S) (s := s) j
    rw [gtkF_s]
    unfold gtk1
    (repeat' split) <;> first | exact ih | (show kepF _ _ 0 0 = _; rw [kep_n (by omega) (by omega), zup_n (by omega)]; exact ih)
theorem chn_00 {Wm S : zv_H} {s : Int} (h : S 0 0 ≤ 999) : ∀ n : Nat, (chnF Wm S s n).1 0 0 = min 999 (S 0 0 + n)
  | 0 => by show S 0 0 = _; omega
  | n + 1 => by
    show (pasF Wm (gtkF (chnF Wm S s n).1 (chnF Wm S s n).2.1 (Wm 0 3).toNat).1).1 0 0 = _
    rw [pas_00, gtk_00, chn_00 h n]
    omega
/-- the count of the enlisted may be forgotten -/
theorem actP_2 {σ σ1 σ2 Wm S S2 : zv_H} {b e s : Int} {l : List zv_H} (hW : WI Wm) (h : actP σ σ1 b Wm S l) (h2_q : stM (zup (zup σ1 289 62 e) 289 59 s) σ2 b 0 Wm S2) : actP (zup σ 289 59 s) σ2 b Wm S2 l := by
  refine actP_59 (σ1 := zup σ1 289 62 e) (S := S) hW ?_ h2_q
  obtain ⟨⟨a1_q, a2_q, a3_q, _⟩, ⟨b1_q, b2_q, b3_q⟩, c⟩ := h
  refine ⟨⟨rM_x a1_q (fun x k q1_q q2_q => zup_n (by omega)), wM_fr a2_q (fun x k q1_q q2_q => zup_n (by omega)), by rw [zup_n (by omega)]; exact a3_q, fun _ _ _ _ _ => rfl⟩, ⟨by rw [zup_n (by omega)]; exact b1_q, by rw [zup_n (by omega)]; exact b2_q, fun j T hj => ?_⟩, fun x k q1_q q2_q => ?_⟩
  · rw [zup_n (by omega)]
    exact ⟨rM_x (b3_q j T hj).1 (fun x k q1_q q2_q => zup_n (by omega)), (b3_q j T hj).2⟩
  · rw [zup_n (by omega)]; exact c x k q1_q q2_q
set_option maxHeartbeats 4000000 in
set_option maxRecDepth 20000 in
theorem c_M_chance {Γ : zv_M} {L : Int} {σ Wm S : zv_H} {b : Int} (hb1_q : b = 0 ∨ b = 1) (h0_q : stM σ σ b 0 Wm S) (hSI : SI (Wm 0 1) (Wm 0 3) S) (hWI : WI Wm) {l : List zv_H} (hac : acM σ (Wm 0 1) (Wm 0 3) l) {u s : Int} (hsd : σ 289 59 = s) (hs : 0 ≤ s ∧ s ≤ 2147483647) (hZ : SZ S)  : zC Γ m_M_chance 8 0 0 (GM L) [zR 289, zI u] σ (zPI (GM L) (fun z σ' => (¬ (1 ≤ u ∧ u ≤ 100 ∧ u ≤ 999 - S 0 0) ∧ z = -1 ∧ σ' = rfM σ 2) ∨ ((1 ≤ u ∧ u ≤ 100 ∧ u ≤ 999 - S 0 0) ∧ z = (chnF Wm S s u.toNat).2.2 ∧ σ' 289 59 = (chnF Wm S s u.toNat).2.1 ∧ actP (zup σ 289 59 (chnF Wm S s u.toNat).2.1) σ' b Wm (chnF Wm S s u.toNat).1 ((S :: l).take 20)))) := by
  refine zC_of (ls0 := [_, _, _, _, _]) zm_M_chance (by decide) rfl (Nat.le_of_ble_eq_true rfl) ?_
  generalize hQ : (zPI (GM L) (fun z σ' => (¬ (1 ≤ u ∧ u ≤ 100 ∧ u ≤ 999 - S 0 0) ∧ z = -1 ∧ σ' = rfM σ 2) ∨ ((1 ≤ u ∧ u ≤ 100 ∧ u ≤ 999 - S 0 0) ∧ z = (chnF Wm S s u.toNat).2.2 ∧ σ' 289 59 = (chnF Wm S s u.toNat).2.1 ∧ actP (zup σ 289 59 (chnF Wm S s u.toNat).2.1) σ' b Wm (chnF Wm S s u.toNat).1 ((S :: l).take 20)))) = Q
  have hb := h0_q.2.2.1
  have w1_q := hWI.1
  have w3_q := hWI.2.2.1
  have r0_q := rM_0 h0_q.1
  have b00_q := hSI.1
  have b12_q := hSI.2.2.1
  have bc := hSI.2.2.2.1
  have bm := hSI.2.2.2.2.1
  have bl := hSI.2.2.2.2.2.1
  refine zaload_n (k := 0) rfl rfl ?_
  refine ziload_n (k := 1) rfl rfl ?_
  refine ziconst (k := 2) rfl (by decide) ?_
  refine zbipush (k := 3) rfl rfl ?_
  refine zfV1 (k := 4) rfl (c_M_isAh r0_q.1.1 b00_q (by omega)) fm_M_isAhead lk_12_498 rfl rfl ob_289 ⟨_, rfl, rfl⟩ (Nat.le_of_ble_eq_true rfl) (by decide) ⟨by decide, by decide⟩ ?_
  refine zif_ne (k := 5) rfl rfl (fun c1_q => ?_) (fun c1_q => ?_)
  · skip
    have hu : 1 ≤ u ∧ u ≤ 100 ∧ u ≤ 999 - S 0 0 := by omega
    obtain ⟨N, rfl⟩ : ∃ N : Nat, u = N := ⟨u.toNat, by omega⟩
    refine zaload_n (k := 10) rfl rfl ?_
    refine zpV0 (k := 11) rfl (c_M_keeps hb1_q h0_q hSI hWI hac) fm_M_keeps lk_12_522 rfl rfl ob_289 ⟨_, rfl, rfl⟩ (Nat.le_of_ble_eq_true rfl) (by decide) ⟨by decide, by decide⟩ (fun σ1 hk => ?_)
    clear h0_q r0_q hb
    have h0_q := hk.1
    have r0_q := rM_0 h0_q.1
    have hb := h0_q.2.2.1
    refine ziconst (k := 12) rfl (by decide) ?_
    refine zistore_n (k := 13) (ls' := [_, _, _, _, _]) rfl (Nat.le_of_ble_eq_true rfl) rfl ?_
    refine ziconst (k := 14) rfl (by decide) ?_
    refine zistore_n (k := 15) (ls' := [_, _, _, _, _]) rfl (Nat.le_of_ble_eq_true rfl) rfl ?_
    have lp25_q : ∀ (g : Nat) (k : Nat) (e : Int) (σ2 : zv_H), (N - k) < g → (k ≤ N) → (stM (zup (zup σ1 289 62 e) 289 59 (chnF Wm S s k).2.1) σ2 b 0 Wm (chnF Wm S s k).1) → zV Γ m_M_chance 8 0 0 Q (GM L) (0, 0) 25 [some (zR 289), some (zI N), some (zI (chnF Wm S s k).2.2), some (zI k), none] [] σ2 := by
      intro g
      induction g with
      | zero => intro k e σ2 hg; exact absurd hg (Nat.not_lt_zero _)
      | succ g ih25_q =>
        intro k e σ2 hg hj h0_q
        have cb := chn_b hWI hSI hs hZ k
        refine ziload_n (k := 16) rfl rfl ?_
        refine ziload_n (k := 17) rfl rfl ?_
        refine zicmp_ge (k := 18) rfl rfl (fun c2_q => ?_) (fun c2_q => ?_)
        · skip
          refine ziload_n (k := 66) rfl rfl ?_
          refine zireturn (k := 67) rfl rfl rfl ?_
          rw [← hQ]
          have hend := actP_2 hWI hk h0_q
          refine ⟨rfl, _, rfl, Or.inr ⟨hu, ?_, ?_, ?_⟩⟩
          · rw [show (N : Int).toNat = N from rfl, show k = N by omega]
          · rw [show (N : Int).toNat = N from rfl, show N = k by omega, h0_q.2.2.2 289 59 (by unfold inV; omega) (by omega) (by omega), zup_s]
          · rw [show (N : Int).toNat = N from rfl, show N = k by omega]
            exact hend
        · skip
          refine ziconst (k := 19) rfl (by decide) ?_
          refine zistore (k := 20) (ls' := [_, _, _, _, _]) rfl (Nat.le_of_ble_eq_true rfl) rfl ?_
          have lp33_q : ∀ (g : Nat) (j : Nat) (σ3 : zv_H), ((Wm 0 3).toNat - j) < g → ((j : Int) ≤ Wm 0 3) → (stM (zup (zup σ1 289 62 e) 289 59 (gtkF (chnF Wm S s k).1 (chnF Wm S s k).2.1 j).2.1) σ3 b 0 Wm (gtkF (chnF Wm S s k).1 (chnF Wm S s k).2.1 j).1) → zV Γ m_M_chance 8 0 0 Q (GM L) (0, 0) 33 [some (zR 289), some (zI N), some (zI ((chnF Wm S s k).2.2 + (gtkF (chnF Wm S s k).1 (chnF Wm S s k).2.1 j).2.2)), some (zI k), some (zI j)] [] σ3 := by
            intro g
            induction g with
            | zero => intro j σ3 hg; exact absurd hg (Nat.not_lt_zero _)
            | succ g ih33_q =>
              intro j σ3 hg hjj h0_q
              have hb := h0_q.2.2.1
              have gb := gtk_b w1_q.2 w3_q.2 cb.1 cb.2.1 j hjj
              have g59_q : σ3 289 59 = (gtkF (chnF Wm S s k).1 (chnF Wm S s k).2.1 j).2.1 := by rw [h0_q.2.2.2 289 59 (by unfold inV; omega) (by omega) (by omega), zup_s]
              refine ziload (k := 21) rfl rfl ?_
              refine zaload_n (k := 22) rfl rfl ?_
              refine zgF 21 (k := 23) rfl ob_289 fl_12_75 rfl fx_289_21 ?_
              refine zaload_n (k := 24) rfl rfl ?_
              refine zgI 13 (k := 25) rfl ob_289 fl_12_51 rfl fx_289_13 ?_
              rw [hb]
              refine ziaload (k := 26) rfl ar_298 ⟨by omega, by omega⟩ ?_
              rw [h0_q.2.1.1.2.2.1]
              refine zicmp_ge (k := 27) rfl rfl (fun c3_q => ?_) (fun c3_q => ?_)
              · skip
                obtain rfl : j = (Wm 0 3).toNat := by omega
                refine zaload_n (k := 61) rfl rfl ?_
                refine ziconst (k := 62) rfl (by decide) ?_
                refine zpV0 (k := 63) rfl (c_M_passes hb1_q ⟨by omega, by omega⟩ h0_q gb.1 hWI (by rw [gtk_00, chn_00 (by omega)]; omega)) fm_M_passes lk_12_501 rfl rfl ob_289 ⟨_, rfl, rfl⟩ (Nat.le_of_ble_eq_true rfl) (by decide) ⟨by decide, by decide⟩ (fun σ4 h4_q => ?_)
                rw [zup_c (by omega), zup_zup] at h4_q
                refine ziincB (k := 64) (ls' := [_, _, _, _, _]) rfl rfl (by decide) (by omega) rfl ?_
                refine zgoto (k := 65) rfl rfl ?_
                refine zforget (ls' := [_, _, _, _, _]) 4 rfl ?_
                exact ih25_q (k + 1) _ _ (by omega) (by omega) h4_q
              · skip
                refine zaload_n (k := 28) rfl rfl ?_
                refine zgF 50 (k := 29) rfl ob_289 fl_12_165 rfl fx_289_50 ?_
                refine ziload (k := 30) rfl rfl ?_
                refine ziaload (k := 31) rfl ar_320 ⟨by omega, by omega⟩ ?_
                have rj := (rM_0 h0_q.1).2.2.1 j (by omega) (by omega)
                have bj := gb.1.2.2.2.2.1 j (by omega) (by omega)
                have bcj := gb.1.2.2.2.1 _ bj.1.1 bj.1.2
                rw [rj.2.1]
                refine ziconst (k := 32) rfl (by decide) ?_
                refine zicmp_ne (k := 33) rfl rfl (fun c4_q => ?_) (fun c4_q => ?_)
                · skip
                  refine ziincB (k := 59) (ls' := [_, _, _, _, _]) rfl rfl (by decide) (by omega) rfl ?_
                  refine zgoto (k := 60) rfl rfl ?_
                  have es : gtkF (chnF Wm S s k).1 (chnF Wm S s k).2.1 (j + 1) = gtk1 (gtkF (chnF Wm S s k).1 (chnF Wm S s k).2.1 j) j := rfl
                  first
                  | (have en : gtkF (chnF Wm S s k).1 (chnF Wm S s k).2.1 (j + 1) = (gtkF (chnF Wm S s k).1 (chnF Wm S s k).2.1 j) := by rw [es]; unfold gtk1; rw [if_neg (by omega)]
                     have rr := ih33_q (j + 1) σ3 (by omega) (by omega) (by rw [en]; exact h0_q)
                     rw [en] at rr
                     exact rr)
                  | (have en : gtkF (chnF Wm S s k).1 (chnF Wm S s k).2.1 (j + 1) = ((gtkF (chnF Wm S s k).1 (chnF Wm S s k).2.1 j).1, drwF (gtkF (chnF Wm S s k).1 (chnF Wm S s k).2.1 j).2.1, (gtkF (chnF Wm S s k).1 (chnF Wm S s k).2.1 j).2.2) := by rw [es]; unfold gtk1; rw [if_pos (by omega), if_neg (by omega)]
                     have rr := ih33_q (j + 1) _ (by omega) (by omega) (by rw [en]; exact stM_k h0_q (by omega))
                     rw [en] at rr
                     exact rr)
                  | (have en : gtkF (chnF Wm S s k).1 (chnF Wm S s k).2.1 (j + 1) = (kepF (zup (gtkF (chnF Wm S s k).1 (chnF Wm S s k).2.1 j).1 5 j 4) (entF (gtkF (chnF Wm S s k).1 (chnF Wm S s k).2.1 j).1 j ((gtkF (chnF Wm S s k).1 (chnF Wm S s k).2.1 j).1 4 j) 4), drwF (gtkF (chnF Wm S s k).1 (chnF Wm S s k).2.1 j).2.1, (gtkF (chnF Wm S s k).1 (chnF Wm S s k).2.1 j).2.2 + 1) := by rw [es]; unfold gtk1; rw [if_pos (by omega), if_pos (by omega)]
                     have rr := ih33_q (j + 1) _ (by omega) (by omega) (by rw [en]; exact h4_q)
                     rw [en, show (chnF Wm S s k).2.2 + ((gtkF (chnF Wm S s k).1 (chnF Wm S s k).2.1 j).2.2 + 1) = (chnF Wm S s k).2.2 + (gtkF (chnF Wm S s k).1 (chnF Wm S s k).2.1 j).2.2 + 1 by omega] at rr
                     exact rr)
                · skip
                  refine zaload_n (k := 34) rfl rfl ?_
                  refine zbipush (k := 35) rfl rfl ?_
                  refine zfV1 (k := 36) rfl (c_M_draw g59_q gb.2.1 ⟨by omega, by omega⟩) fm_M_draw lk_12_533 rfl rfl ob_289 ⟨_, rfl, rfl⟩ (Nat.le_of_ble_eq_true rfl) (by decide) ⟨by decide, by decide⟩ ?_
                  refine zbipush (k := 37) rfl rfl ?_
                  refine zaload_n (k := 38) rfl rfl ?_
                  refine zgF 48 (k := 39) rfl ob_289 fl_12_159 rfl fx_289_48 ?_
                  refine zaload_n (k := 40) rfl rfl ?_
                  refine zgF 49 (k := 41) rfl ob_289 fl_12_162 rfl fx_289_49 ?_
                  refine ziload (k := 42) rfl rfl ?_
                  refine ziaload (k := 43) rfl ar_319 ⟨by omega, by omega⟩ ?_
                  rw [zup_n (by omega), rj.1]
                  refine ziaload (k := 44) rfl ar_318 ⟨by omega, by omega⟩ ?_
                  rw [zup_n (by omega), ((rM_0 h0_q.1).2.1 _ bj.1.1 bj.1.2).2.2]
                  refine zimulB (k := 45) rfl (by omega) ?_
                  refine zicmp_lt (k := 46) rfl rfl (fun c5_q => ?_) (fun c5_q => ?_)
                  · skip
                    refine zaload_n (k := 48) rfl rfl ?_
                    refine zgF 50 (k := 49) rfl ob_289 fl_12_165 rfl fx_289_50 ?_
                    refine ziload (k := 50) rfl rfl ?_
                    refine ziconst (k := 51) rfl (by decide) ?_
                    refine ziastore (k := 52) rfl ar_320 ⟨by omega, by omega⟩ (by omega) ?_
                    have h9_q := stM_m0 (f := 5) (i := (j : Int)) (x := 4) (stM_k (e2_q := drwF ((gtkF (chnF Wm S s k).1 (chnF Wm S s k).2.1 j)).2.1) h0_q (by omega)) (by omega) (by omega) w3_q.2
                    have s9_q := SI_m (m := (j : Int)) gb.1 (zup ((gtkF (chnF Wm S s k).1 (chnF Wm S s k).2.1 j)).1 5 j 4) (fun g k q => zup_n (by omega)) (by simp [zup]; omega)
                    refine zaload_n (k := 53) rfl rfl ?_
                    refine ziconst (k := 54) rfl (by decide) ?_
                    refine ziload (k := 55) rfl rfl ?_
                    refine ziconst (k := 56) rfl (by decide) ?_
                    refine zpV0 (k := 57) rfl (c_M_writesDown (t := 4) hb1_q ⟨by omega, by omega⟩ h9_q s9_q hWI ⟨by omega, by omega⟩ (by omega)) fm_M_writesDown lk_12_469 rfl rfl ob_289 ⟨_, rfl, rfl⟩ (Nat.le_of_ble_eq_true rfl) (by decide) ⟨by decide, by decide⟩ (fun σ4 h4_q => ?_)
                    rw [entF_n (S := ((gtkF (chnF Wm S s k).1 (chnF Wm S s k).2.1 j)).1) (by rw [zup_n (by omega)]), zup_n (a' := 4) (by omega)] at h4_q
                    refine ziincB (k := 58) (ls' := [_, _, _, _, _]) rfl rfl (by decide) (by omega) rfl ?_
                    refine ziincB (k := 59) (ls' := [_, _, _, _, _]) rfl rfl (by decide) (by omega) rfl ?_
                    refine zgoto (k := 60) rfl rfl ?_
                    have es : gtkF (chnF Wm S s k).1 (chnF Wm S s k).2.1 (j + 1) = gtk1 (gtkF (chnF Wm S s k).1 (chnF Wm S s k).2.1 j) j := rfl
                    first
                    | (have en : gtkF (chnF Wm S s k).1 (chnF Wm S s k).2.1 (j + 1) = (gtkF (chnF Wm S s k).1 (chnF Wm S s k).2.1 j) := by rw [es]; unfold gtk1; rw [if_neg (by omega)]
                       have rr := ih33_q (j + 1) σ3 (by omega) (by omega) (by rw [en]; exact h0_q)
                       rw [en] at rr
                       exact rr)
                    | (have en : gtkF (chnF Wm S s k).1 (chnF Wm S s k).2.1 (j + 1) = ((gtkF (chnF Wm S s k).1 (chnF Wm S s k).2.1 j).1, drwF (gtkF (chnF Wm S s k).1 (chnF Wm S s k).2.1 j).2.1, (gtkF (chnF Wm S s k).1 (chnF Wm S s k).2.1 j).2.2) := by rw [es]; unfold gtk1; rw [if_pos (by omega), if_neg (by omega)]
                       have rr := ih33_q (j + 1) _ (by omega) (by omega) (by rw [en]; exact stM_k h0_q (by omega))
                       rw [en] at rr
                       exact rr)
                    | (have en : gtkF (chnF Wm S s k).1 (chnF Wm S s k).2.1 (j + 1) = (kepF (zup (gtkF (chnF Wm S s k).1 (chnF Wm S s k).2.1 j).1 5 j 4) (entF (gtkF (chnF Wm S s k).1 (chnF Wm S s k).2.1 j).1 j ((gtkF (chnF Wm S s k).1 (chnF Wm S s k).2.1 j).1 4 j) 4), drwF (gtkF (chnF Wm S s k).1 (chnF Wm S s k).2.1 j).2.1, (gtkF (chnF Wm S s k).1 (chnF Wm S s k).2.1 j).2.2 + 1) := by rw [es]; unfold gtk1; rw [if_pos (by omega), if_pos (by omega)]
                       have rr := ih33_q (j + 1) _ (by omega) (by omega) (by rw [en]; exact h4_q)
                       rw [en, show (chnF Wm S s k).2.2 + ((gtkF (chnF Wm S s k).1 (chnF Wm S s k).2.1 j).2.2 + 1) = (chnF Wm S s k).2.2 + (gtkF (chnF Wm S s k).1 (chnF Wm S s k).2.1 j).2.2 + 1 by omega] at rr
                       exact rr)
                  · skip
                    refine zgoto (k := 47) rfl rfl ?_
                    refine ziincB (k := 59) (ls' := [_, _, _, _, _]) rfl rfl (by decide) (by omega) rfl ?_
                    refine zgoto (k := 60) rfl rfl ?_
                    have es : gtkF (chnF Wm S s k).1 (chnF Wm S s k).2.1 (j + 1) = gtk1 (gtkF (chnF Wm S s k).1 (chnF Wm S s k).2.1 j) j := rfl
                    first
                    | (have en : gtkF (chnF Wm S s k).1 (chnF Wm S s k).2.1 (j + 1) = (gtkF (chnF Wm S s k).1 (chnF Wm S s k).2.1 j) := by rw [es]; unfold gtk1; rw [if_neg (by omega)]
                       have rr := ih33_q (j + 1) σ3 (by omega) (by omega) (by rw [en]; exact h0_q)
                       rw [en] at rr
                       exact rr)
                    | (have en : gtkF (chnF Wm S s k).1 (chnF Wm S s k).2.1 (j + 1) = ((gtkF (chnF Wm S s k).1 (chnF Wm S s k).2.1 j).1, drwF (gtkF (chnF Wm S s k).1 (chnF Wm S s k).2.1 j).2.1, (gtkF (chnF Wm S s k).1 (chnF Wm S s k).2.1 j).2.2) := by rw [es]; unfold gtk1; rw [if_pos (by omega), if_neg (by omega)]
                       have rr := ih33_q (j + 1) _ (by omega) (by omega) (by rw [en]; exact stM_k h0_q (by omega))
                       rw [en] at rr
                       exact rr)
                    | (have en : gtkF (chnF Wm S s k).1 (chnF Wm S s k).2.1 (j + 1) = (kepF (zup (gtkF (chnF Wm S s k).1 (chnF Wm S s k).2.1 j).1 5 j 4) (entF (gtkF (chnF Wm S s k).1 (chnF Wm S s k).2.1 j).1 j ((gtkF (chnF Wm S s k).1 (chnF Wm S s k).2.1 j).1 4 j) 4), drwF (gtkF (chnF Wm S s k).1 (chnF Wm S s k).2.1 j).2.1, (gtkF (chnF Wm S s k).1 (chnF Wm S s k).2.1 j).2.2 + 1) := by rw [es]; unfold gtk1; rw [if_pos (by omega), if_pos (by omega)]
                       have rr := ih33_q (j + 1) _ (by omega) (by omega) (by rw [en]; exact h4_q)
                       rw [en, show (chnF Wm S s k).2.2 + ((gtkF (chnF Wm S s k).1 (chnF Wm S s k).2.1 j).2.2 + 1) = (chnF Wm S s k).2.2 + (gtkF (chnF Wm S s k).1 (chnF Wm S s k).2.1 j).2.2 + 1 by omega] at rr
                       exact rr)
          have rr := lp33_q ((Wm 0 3).toNat + 1) 0 σ2 (by omega) (by omega) h0_q
          rw [show (chnF Wm S s k).2.2 + (gtkF (chnF Wm S s k).1 (chnF Wm S s k).2.1 0).2.2 = (chnF Wm S s k).2.2 from Int.add_zero _] at rr
          exact rr
    have e59_q : σ1 289 59 = s := by rw [hk.2.2 289 59 (by omega) (by omega)]; exact hsd
    have e1_q : zup (zup σ1 289 62 (σ1 289 62)) 289 59 s = σ1 := by rw [zup_id (σ := σ1) (a := 289) (k := 62) rfl]; exact zup_id e59_q
    exact lp25_q _ 0 (σ1 289 62) _ (Nat.lt_succ_self _) (by omega) (by show stM (zup (zup σ1 289 62 (σ1 289 62)) 289 59 s) σ1 b 0 Wm S; rw [e1_q]; exact h0_q)
  · skip
    refine zaload_n (k := 6) rfl rfl ?_
    refine ziconst (k := 7) rfl (by decide) ?_
    refine zfV1 (k := 8) rfl (c_M_refuses (by omega)) fm_M_refuses lk_12_231 rfl rfl ob_289 ⟨_, rfl, rfl⟩ (Nat.le_of_ble_eq_true rfl) (by decide) ⟨by decide, by decide⟩ ?_
    refine zireturn (k := 9) rfl rfl rfl ?_
    rw [← hQ]
    refine ⟨rfl, _, rfl, Or.inl ⟨?_, rfl, rfl⟩⟩
    omega
