/-! AHEAD: its ring stays in bounds (the walks of 25, 26, 31, 49 once more) -/
set_option maxHeartbeats 4000000 in
set_option maxRecDepth 20000 in
theorem r_NT_later {Γ : zv_M} {L : Int} {w : Int} {σ S Wm : zv_H} (h8_q : σ 1 8 = w) (hw : w ∈ wrL) (hW : vw 12 σ w = Wm) (hS : vw 10 σ 30 = S) (hSI : SI (Wm 0 1) (Wm 0 3) S) (hWI : WI Wm) (hZ : SZ S) (hAR : SZr (vw 10 σ 41)) {m n t : Int} : zC Γ m_NT_later 8 0 0 (GM L) [zR 1, zI m, zI n, zI t] σ (zPI (GM L) (fun z σ' => z = latQ Wm S m n t ∧ scr σ σ' ∧ SZr (vw 10 σ' 41))) := by
  refine zC_of (ls0 := [_, _, _, _]) zm_NT_later (by decide) rfl (Nat.le_of_ble_eq_true rfl) ?_
  generalize hQ : (zPI (GM L) (fun z σ' => z = latQ Wm S m n t ∧ scr σ σ' ∧ SZr (vw 10 σ' 41))) = Q
  have hAZ := hAR.1
  have ha : (30 : Int) ∈ stL := by decide
  have e30_q : σ 30 = S 0 := st_e0 hS
  have e31_q : σ 31 = S 1 := st_e (f := 1) hS (by omega)
  have e32_q : σ 32 = S 2 := st_e (f := 2) hS (by omega)
  have e33_q : σ 33 = S 3 := st_e (f := 3) hS (by omega)
  have e34_q : σ 34 = S 4 := st_e (f := 4) hS (by omega)
  have e35_q : σ 35 = S 5 := st_e (f := 5) hS (by omega)
  have e36_q : σ 36 = S 6 := st_e (f := 6) hS (by omega)
  have e37_q : σ 37 = S 7 := st_e (f := 7) hS (by omega)
  have e38_q : σ 38 = S 8 := st_e (f := 8) hS (by omega)
  have e39_q : σ 39 = S 9 := st_e (f := 9) hS (by omega)
  have e40_q : σ 40 = S 10 := st_e (f := 10) hS (by omega)
  have ew0_q : σ w = Wm 0 := st_e0 hW
  have ew1_q : σ (w + 1) = Wm 1 := st_e (f := 1) hW (by omega)
  have ew2_q : σ (w + 2) = Wm 2 := st_e (f := 2) hW (by omega)
  have ew3_q : σ (w + 3) = Wm 3 := st_e (f := 3) hW (by omega)
  have ew4_q : σ (w + 4) = Wm 4 := st_e (f := 4) hW (by omega)
  have ew5_q : σ (w + 5) = Wm 5 := st_e (f := 5) hW (by omega)
  have ew6_q : σ (w + 6) = Wm 6 := st_e (f := 6) hW (by omega)
  have ew7_q : σ (w + 7) = Wm 7 := st_e (f := 7) hW (by omega)
  have ew8_q : σ (w + 8) = Wm 8 := st_e (f := 8) hW (by omega)
  have ew9_q : σ (w + 9) = Wm 9 := st_e (f := 9) hW (by omega)
  have ew10_q : σ (w + 10) = Wm 10 := st_e (f := 10) hW (by omega)
  have ew11_q : σ (w + 11) = Wm 11 := st_e (f := 11) hW (by omega)
  have ew12_q : σ (w + 12) = Wm 12 := st_e (f := 12) hW (by omega)
  have hSI0 := hSI
  have hWI0 := hWI
  obtain ⟨b0_q, b11_q, b12_q, bc, bm, bl, br⟩ := hSI
  obtain ⟨w1_q, w2_q, w3_q, w4_q, w5_q, w6_q, w7_q, w8_q, w9_q, w10_q⟩ := hWI
  have ha1_q : (41 : Int) ∈ stL := by decide
  refine zaload_n (k := 0) rfl rfl ?_
  refine zgR 8 (k := 1) rfl ob_1 fl_11_19 rfl fx_1_8 ?_
  first | rw [h8_q] | rw [h0_q.2 1 8 (by omega) (by omega) (by omega), h8_q]
  refine ziload_n (k := 2) rfl rfl ?_
  refine zfV1 (k := 3) rfl (c_War_hasMan hw) fm_War_hasMan lk_11_181 rfl rfl (wr_ob hw) ⟨_, rfl, rfl⟩ (Nat.le_of_ble_eq_true rfl) (by decide) ⟨by decide, by decide⟩ ?_
  try simp only [e30_q, e31_q, e32_q, e33_q, e34_q, e35_q, e36_q, e37_q, e38_q, e39_q, e40_q, ew0_q, ew1_q, ew2_q, ew3_q, ew4_q, ew5_q, ew6_q, ew7_q, ew8_q, ew9_q, ew10_q, ew11_q, ew12_q]
  refine zif_eq (k := 4) rfl rfl (fun c1_q => ?_) (fun c1_q => ?_)
  · skip
    refine ziconst (k := 16) rfl (by decide) ?_
    refine zireturn (k := 17) rfl rfl rfl ?_
    rw [← hQ]
    exact ⟨rfl, _, rfl, by unfold latQ; rw [if_pos (by omega)], scr_rf σ, hAR⟩
  · skip
    refine ziload_n (k := 5) rfl rfl ?_
    refine zif_lt (k := 6) rfl rfl (fun c2_q => ?_) (fun c2_q => ?_)
    · skip
      refine ziconst (k := 16) rfl (by decide) ?_
      refine zireturn (k := 17) rfl rfl rfl ?_
      rw [← hQ]
      exact ⟨rfl, _, rfl, by unfold latQ; rw [if_pos (by omega)], scr_rf σ, hAR⟩
    · skip
      refine ziload_n (k := 7) rfl rfl ?_
      refine zaload_n (k := 8) rfl rfl ?_
      refine zfV1 (k := 9) rfl (c_NT_weeksAhead h8_q hw hW hS hSI0 hWI0) fm_NT_weeksAhead lk_11_212 rfl rfl ob_1 ⟨_, rfl, rfl⟩ (Nat.le_of_ble_eq_true rfl) (by decide) ⟨by decide, by decide⟩ ?_
      refine zicmp_gt (k := 10) rfl rfl (fun c3_q => ?_) (fun c3_q => ?_)
      · skip
        refine ziconst (k := 16) rfl (by decide) ?_
        refine zireturn (k := 17) rfl rfl rfl ?_
        rw [← hQ]
        exact ⟨rfl, _, rfl, by unfold latQ; rw [if_pos (by omega)], scr_rf σ, hAR⟩
      · skip
        refine ziload_n (k := 11) rfl rfl ?_
        refine zif_lt (k := 12) rfl rfl (fun c4_q => ?_) (fun c4_q => ?_)
        · skip
          refine ziconst (k := 16) rfl (by decide) ?_
          refine zireturn (k := 17) rfl rfl rfl ?_
          rw [← hQ]
          exact ⟨rfl, _, rfl, by unfold latQ; rw [if_pos (by omega)], scr_rf σ, hAR⟩
        · skip
          refine ziload_n (k := 13) rfl rfl ?_
          refine ziconst (k := 14) rfl (by decide) ?_
          refine zicmp_le (k := 15) rfl rfl (fun c5_q => ?_) (fun c5_q => ?_)
          · skip
            have hmm : 0 ≤ m ∧ m < Wm 0 3 := by omega
            obtain ⟨N, rfl⟩ : ∃ N : Nat, n = N := ⟨n.toNat, by omega⟩
            refine zaload_n (k := 18) rfl rfl ?_
            refine zgF 7 (k := 19) rfl ob_1 fl_11_33 rfl fx_1_7 ?_
            refine zaload_n (k := 20) rfl rfl ?_
            refine zgF 6 (k := 21) rfl ob_1 fl_11_29 rfl fx_1_6 ?_
            refine zpV0 (k := 22) rfl (k_copy (by decide) ha (by decide) hAZ hS hZ) fm_State_copy lk_11_216 rfl rfl ob_41 ⟨_, rfl, rfl⟩ (Nat.le_of_ble_eq_true rfl) (by decide) ⟨by decide, by decide⟩ (fun σ1 h0_q => ?_)
            refine zaload_n (k := 23) rfl rfl ?_
            refine zgF 2 (k := 24) rfl ob_1 fl_11_48 rfl fx_1_2 ?_
            refine zaload_n (k := 25) rfl rfl ?_
            refine zgR 8 (k := 26) rfl ob_1 fl_11_19 rfl fx_1_8 ?_
            first | rw [h8_q] | rw [h0_q.2 1 8 (by omega) (by omega) (by omega), h8_q]
            refine zaload_n (k := 27) rfl rfl ?_
            refine zgF 7 (k := 28) rfl ob_1 fl_11_33 rfl fx_1_7 ?_
            refine ziload_n (k := 29) rfl rfl ?_
            refine zpVI (k := 30) rfl (c_March_go ha1_q hw h0_q hW hSI0 hWI0 N (by omega)) fm_March_go lk_11_220 rfl rfl ob_55 ⟨_, rfl, rfl⟩ (Nat.le_of_ble_eq_true rfl) (by decide) ⟨by decide, by decide⟩ (fun z σ2 h2_q => ?_)
            clear h0_q
            have h0_q := h2_q.2
            have e42_q : σ2 42 = (gooF Wm S N).1 1 := st_e (f := 1) h0_q.1 (by omega)
            have e45_q : σ2 45 = (gooF Wm S N).1 4 := st_e (f := 4) h0_q.1 (by omega)
            have e46_q : σ2 46 = (gooF Wm S N).1 5 := st_e (f := 5) h0_q.1 (by omega)
            have e48_q : σ2 48 = (gooF Wm S N).1 7 := st_e (f := 7) h0_q.1 (by omega)
            have e49_q : σ2 49 = (gooF Wm S N).1 8 := st_e (f := 8) h0_q.1 (by omega)
            refine zpop (k := 31) rfl rfl ?_
            refine ziload_n (k := 32) rfl rfl ?_
            refine ztabC (k := 33) (v := 0) 0 rfl rfl (by decide) rfl rfl (fun c6_q => ?_) (fun c6_q => ?_)
            · skip
              refine zaload_n (k := 34) rfl rfl ?_
              refine zgF 7 (k := 35) rfl ob_1 fl_11_33 rfl fx_1_7 ?_
              refine zgF 5 (k := 36) rfl ob_41 fl_11_149 rfl fx_41_5 ?_
              refine ziload_n (k := 37) rfl rfl ?_
              refine zfS1 (k := 38) rfl (c_NT_at ar_46) fm_NT_at lk_11_174 rfl rfl (Nat.le_of_ble_eq_true rfl) (by decide) ⟨by decide, by decide⟩ ?_
              rw [zat_in (by omega), e46_q]
              refine zireturn (k := 39) rfl rfl rfl ?_
              rw [← hQ]
              refine ⟨rfl, _, rfl, ?_, scr_st h0_q, by rw [h0_q.1]; exact ⟨SZ_goo hWI0 hSI0 hZ _, SI_rb (SI_goo hWI0 hSI0 _)⟩⟩
              unfold latQ
              first
              | (rw [if_neg (by omega), if_pos (by omega)]; rfl)
              | (rw [if_neg (by omega), if_neg (by omega), if_pos (by omega)]; rfl)
              | (rw [if_neg (by omega), if_neg (by omega), if_neg (by omega), if_pos (by omega)]; rfl)
              | (rw [if_neg (by omega), if_neg (by omega), if_neg (by omega), if_neg (by omega)]; rfl)
            refine ztabC (k := 33) (v := 1) 1 rfl rfl (by decide) rfl rfl (fun c7_q => ?_) (fun c7_q => ?_)
            · skip
              refine zaload_n (k := 40) rfl rfl ?_
              refine zgF 7 (k := 41) rfl ob_1 fl_11_33 rfl fx_1_7 ?_
              refine zgF 4 (k := 42) rfl ob_41 fl_11_200 rfl fx_41_4 ?_
              refine ziload_n (k := 43) rfl rfl ?_
              refine zfS1 (k := 44) rfl (c_NT_at ar_45) fm_NT_at lk_11_174 rfl rfl (Nat.le_of_ble_eq_true rfl) (by decide) ⟨by decide, by decide⟩ ?_
              rw [zat_in (by omega), e45_q]
              refine zireturn (k := 45) rfl rfl rfl ?_
              rw [← hQ]
              refine ⟨rfl, _, rfl, ?_, scr_st h0_q, by rw [h0_q.1]; exact ⟨SZ_goo hWI0 hSI0 hZ _, SI_rb (SI_goo hWI0 hSI0 _)⟩⟩
              unfold latQ
              first
              | (rw [if_neg (by omega), if_pos (by omega)]; rfl)
              | (rw [if_neg (by omega), if_neg (by omega), if_pos (by omega)]; rfl)
              | (rw [if_neg (by omega), if_neg (by omega), if_neg (by omega), if_pos (by omega)]; rfl)
              | (rw [if_neg (by omega), if_neg (by omega), if_neg (by omega), if_neg (by omega)]; rfl)
            refine ztabC (k := 33) (v := 2) 2 rfl rfl (by decide) rfl rfl (fun c8_q => ?_) (fun c8_q => ?_)
            · skip
              refine zaload_n (k := 46) rfl rfl ?_
              refine zgF 7 (k := 47) rfl ob_1 fl_11_33 rfl fx_1_7 ?_
              refine zgF 7 (k := 48) rfl ob_41 fl_11_156 rfl fx_41_7 ?_
              refine ziload_n (k := 49) rfl rfl ?_
              refine zfS1 (k := 50) rfl (c_NT_at ar_48) fm_NT_at lk_11_174 rfl rfl (Nat.le_of_ble_eq_true rfl) (by decide) ⟨by decide, by decide⟩ ?_
              rw [zat_in (by omega), e48_q]
              refine zireturn (k := 51) rfl rfl rfl ?_
              rw [← hQ]
              refine ⟨rfl, _, rfl, ?_, scr_st h0_q, by rw [h0_q.1]; exact ⟨SZ_goo hWI0 hSI0 hZ _, SI_rb (SI_goo hWI0 hSI0 _)⟩⟩
              unfold latQ
              first
              | (rw [if_neg (by omega), if_pos (by omega)]; rfl)
              | (rw [if_neg (by omega), if_neg (by omega), if_pos (by omega)]; rfl)
              | (rw [if_neg (by omega), if_neg (by omega), if_neg (by omega), if_pos (by omega)]; rfl)
              | (rw [if_neg (by omega), if_neg (by omega), if_neg (by omega), if_neg (by omega)]; rfl)
            refine ztabOut (k := 33) rfl (by omega) rfl ?_
            refine zaload_n (k := 52) rfl rfl ?_
            refine zgF 7 (k := 53) rfl ob_1 fl_11_33 rfl fx_1_7 ?_
            refine zgF 8 (k := 54) rfl ob_41 fl_11_159 rfl fx_41_8 ?_
            refine ziload_n (k := 55) rfl rfl ?_
            refine zfS1 (k := 56) rfl (c_NT_at ar_49) fm_NT_at lk_11_174 rfl rfl (Nat.le_of_ble_eq_true rfl) (by decide) ⟨by decide, by decide⟩ ?_
            rw [zat_in (by omega), e49_q]
            refine zireturn (k := 57) rfl rfl rfl ?_
            rw [← hQ]
            refine ⟨rfl, _, rfl, ?_, scr_st h0_q, by rw [h0_q.1]; exact ⟨SZ_goo hWI0 hSI0 hZ _, SI_rb (SI_goo hWI0 hSI0 _)⟩⟩
            unfold latQ
            first
            | (rw [if_neg (by omega), if_pos (by omega)]; rfl)
            | (rw [if_neg (by omega), if_neg (by omega), if_pos (by omega)]; rfl)
            | (rw [if_neg (by omega), if_neg (by omega), if_neg (by omega), if_pos (by omega)]; rfl)
            | (rw [if_neg (by omega), if_neg (by omega), if_neg (by omega), if_neg (by omega)]; rfl)
          · skip
            refine ziconst (k := 16) rfl (by decide) ?_
            refine zireturn (k := 17) rfl rfl rfl ?_
            rw [← hQ]
            exact ⟨rfl, _, rfl, by unfold latQ; rw [if_pos (by omega)], scr_rf σ, hAR⟩
set_option maxHeartbeats 4000000 in
set_option maxRecDepth 20000 in
theorem r_NT_caught {Γ : zv_M} {L : Int} {w : Int} {σ S Wm : zv_H} (h8_q : σ 1 8 = w) (hw : w ∈ wrL) (hW : vw 12 σ w = Wm) (hS : vw 10 σ 30 = S) (hSI : SI (Wm 0 1) (Wm 0 3) S) (hWI : WI Wm) (hZ : SZ S) (hAR : SZr (vw 10 σ 41)) {m : Int} : zC Γ m_NT_caught 8 0 0 (GM L) [zR 1, zI m] σ (zPI (GM L) (fun z σ' => z = cauQ Wm S m ∧ scr σ σ' ∧ SZr (vw 10 σ' 41))) := by
  refine zC_of (ls0 := [_, _, _, _]) zm_NT_caught (by decide) rfl (Nat.le_of_ble_eq_true rfl) ?_
  generalize hQ : (zPI (GM L) (fun z σ' => z = cauQ Wm S m ∧ scr σ σ' ∧ SZr (vw 10 σ' 41))) = Q
  have hAZ := hAR.1
  have ha : (30 : Int) ∈ stL := by decide
  have e30_q : σ 30 = S 0 := st_e0 hS
  have e31_q : σ 31 = S 1 := st_e (f := 1) hS (by omega)
  have e32_q : σ 32 = S 2 := st_e (f := 2) hS (by omega)
  have e33_q : σ 33 = S 3 := st_e (f := 3) hS (by omega)
  have e34_q : σ 34 = S 4 := st_e (f := 4) hS (by omega)
  have e35_q : σ 35 = S 5 := st_e (f := 5) hS (by omega)
  have e36_q : σ 36 = S 6 := st_e (f := 6) hS (by omega)
  have e37_q : σ 37 = S 7 := st_e (f := 7) hS (by omega)
  have e38_q : σ 38 = S 8 := st_e (f := 8) hS (by omega)
  have e39_q : σ 39 = S 9 := st_e (f := 9) hS (by omega)
  have e40_q : σ 40 = S 10 := st_e (f := 10) hS (by omega)
  have ew0_q : σ w = Wm 0 := st_e0 hW
  have ew1_q : σ (w + 1) = Wm 1 := st_e (f := 1) hW (by omega)
  have ew2_q : σ (w + 2) = Wm 2 := st_e (f := 2) hW (by omega)
  have ew3_q : σ (w + 3) = Wm 3 := st_e (f := 3) hW (by omega)
  have ew4_q : σ (w + 4) = Wm 4 := st_e (f := 4) hW (by omega)
  have ew5_q : σ (w + 5) = Wm 5 := st_e (f := 5) hW (by omega)
  have ew6_q : σ (w + 6) = Wm 6 := st_e (f := 6) hW (by omega)
  have ew7_q : σ (w + 7) = Wm 7 := st_e (f := 7) hW (by omega)
  have ew8_q : σ (w + 8) = Wm 8 := st_e (f := 8) hW (by omega)
  have ew9_q : σ (w + 9) = Wm 9 := st_e (f := 9) hW (by omega)
  have ew10_q : σ (w + 10) = Wm 10 := st_e (f := 10) hW (by omega)
  have ew11_q : σ (w + 11) = Wm 11 := st_e (f := 11) hW (by omega)
  have ew12_q : σ (w + 12) = Wm 12 := st_e (f := 12) hW (by omega)
  have hSI0 := hSI
  have hWI0 := hWI
  obtain ⟨b0_q, b11_q, b12_q, bc, bm, bl, br⟩ := hSI
  obtain ⟨w1_q, w2_q, w3_q, w4_q, w5_q, w6_q, w7_q, w8_q, w9_q, w10_q⟩ := hWI
  have ha1_q : (41 : Int) ∈ stL := by decide
  refine zaload_n (k := 0) rfl rfl ?_
  refine zgR 8 (k := 1) rfl ob_1 fl_11_19 rfl fx_1_8 ?_
  first | rw [h8_q] | rw [h0_q.2 1 8 (by omega) (by omega) (by omega), h8_q]
  refine ziload_n (k := 2) rfl rfl ?_
  refine zfV1 (k := 3) rfl (c_War_hasMan hw) fm_War_hasMan lk_11_181 rfl rfl (wr_ob hw) ⟨_, rfl, rfl⟩ (Nat.le_of_ble_eq_true rfl) (by decide) ⟨by decide, by decide⟩ ?_
  try simp only [e30_q, e31_q, e32_q, e33_q, e34_q, e35_q, e36_q, e37_q, e38_q, e39_q, e40_q, ew0_q, ew1_q, ew2_q, ew3_q, ew4_q, ew5_q, ew6_q, ew7_q, ew8_q, ew9_q, ew10_q, ew11_q, ew12_q]
  refine zif_ne (k := 4) rfl rfl (fun c1_q => ?_) (fun c1_q => ?_)
  · skip
    have hmm : 0 ≤ m ∧ m < Wm 0 3 := by omega
    refine zaload_n (k := 7) rfl rfl ?_
    refine zgF 7 (k := 8) rfl ob_1 fl_11_33 rfl fx_1_7 ?_
    refine zaload_n (k := 9) rfl rfl ?_
    refine zgF 6 (k := 10) rfl ob_1 fl_11_29 rfl fx_1_6 ?_
    refine zpV0 (k := 11) rfl (k_copy (by decide) ha (by decide) hAZ hS hZ) fm_State_copy lk_11_216 rfl rfl ob_41 ⟨_, rfl, rfl⟩ (Nat.le_of_ble_eq_true rfl) (by decide) ⟨by decide, by decide⟩ (fun σ1 h0_q => ?_)
    refine zaload_n (k := 12) rfl rfl ?_
    refine zfV1 (k := 13) rfl (c_NT_weeksAhead ((h0_q.2 1 8 (by omega) (by omega) (by omega)).trans h8_q) hw ((stp_w h0_q ha1_q hw).trans hW) ((st_30 h0_q).trans hS) hSI0 hWI0) fm_NT_weeksAhead lk_11_212 rfl rfl ob_1 ⟨_, rfl, rfl⟩ (Nat.le_of_ble_eq_true rfl) (by decide) ⟨by decide, by decide⟩ ?_
    refine zistore_n (k := 14) (ls' := [_, _, _, _]) rfl (Nat.le_of_ble_eq_true rfl) rfl ?_
    have hT : (min 80 (999 - S 0 0)) = ((aheadN S : Nat) : Int) := by unfold aheadN; omega
    rw [hT]
    generalize hp : (fun j => decide ((gooF Wm S j).1 5 m = 3)) = p
    refine ziconst (k := 15) rfl (by decide) ?_
    refine zistore_n (k := 16) (ls' := [_, _, _, _]) rfl (Nat.le_of_ble_eq_true rfl) rfl ?_
    have lp31_q : ∀ (g : Nat) (j : Nat) (σ2 : zv_H), (aheadN S + 1 - j) < g → (j ≤ aheadN S + 1) → (fnd p (aheadN S + 1) 0 = fnd p (aheadN S + 1 - j) j) → (stp σ σ2 41 (gooF Wm S (min j (aheadN S))).1) → zV Γ m_NT_caught 8 0 0 Q (GM L) (0, 0) 31 [some (zR 1), some (zI m), some (zI ((aheadN S : Nat) : Int)), some (zI j)] [] σ2 := by
      intro g
      induction g with
      | zero => intro j σ2 hg; exact absurd hg (Nat.not_lt_zero _)
      | succ g ih31_q =>
        intro j σ2 hg hj hf h0_q
        refine ziload_n (k := 17) rfl rfl ?_
        refine ziload_n (k := 18) rfl rfl ?_
        refine zicmp_gt (k := 19) rfl rfl (fun c2_q => ?_) (fun c2_q => ?_)
        · skip
          refine ziconst (k := 43) rfl (by decide) ?_
          refine zireturn (k := 44) rfl rfl rfl ?_
          rw [← hQ]
          refine ⟨rfl, _, rfl, ?_, scr_st h0_q, by rw [h0_q.1]; exact ⟨SZ_goo hWI0 hSI0 hZ _, SI_rb (SI_goo hWI0 hSI0 _)⟩⟩
          unfold cauQ
          rw [if_neg (by omega), hp, hf, show aheadN S + 1 - j = 0 by omega]
          rfl
        · skip
          refine zaload_n (k := 20) rfl rfl ?_
          refine zgF 7 (k := 21) rfl ob_1 fl_11_33 rfl fx_1_7 ?_
          refine zgF 5 (k := 22) rfl ob_41 fl_11_149 rfl fx_41_5 ?_
          refine ziload_n (k := 23) rfl rfl ?_
          refine zfS1 (k := 24) rfl (c_NT_at ar_46) fm_NT_at lk_11_174 rfl rfl (Nat.le_of_ble_eq_true rfl) (by decide) ⟨by decide, by decide⟩ ?_
          rw [zat_in (by omega), show σ2 46 = _ from st_e (f := 5) h0_q.1 (by omega), Nat.min_eq_left (by omega)]
          rw [Nat.min_eq_left (by omega)] at h0_q
          refine ziconst (k := 25) rfl (by decide) ?_
          refine zicmp_ne (k := 26) rfl rfl (fun c3_q => ?_) (fun c3_q => ?_)
          · skip
            refine ziload_n (k := 29) rfl rfl ?_
            refine ziload_n (k := 30) rfl rfl ?_
            refine zicmp_ge (k := 31) rfl rfl (fun c4_q => ?_) (fun c4_q => ?_)
            · skip
              refine ziincB (k := 41) (ls' := [_, _, _, _]) rfl rfl (by decide) (by omega) rfl ?_
              refine zgoto (k := 42) rfl rfl ?_
              have en : fnd p (aheadN S + 1) 0 = fnd p (aheadN S + 1 - (j + 1)) (j + 1) := by
                rw [hf, show aheadN S + 1 - j = aheadN S + 1 - (j + 1) + 1 by omega, fnd_s, if_neg (by rw [← hp]; simp only [decide_eq_true_eq]; assumption)]
              first
              | exact ih31_q (j + 1) _ (by omega) (by omega) en (by rw [Nat.min_eq_left (by omega), ← goo_1]; exact h0_q)
              | exact ih31_q (j + 1) _ (by omega) (by omega) en (by rw [show min (j + 1) (aheadN S) = j by omega]; exact h0_q)
            · skip
              refine zaload_n (k := 32) rfl rfl ?_
              refine zgF 2 (k := 33) rfl ob_1 fl_11_48 rfl fx_1_2 ?_
              refine zaload_n (k := 34) rfl rfl ?_
              refine zgR 8 (k := 35) rfl ob_1 fl_11_19 rfl fx_1_8 ?_
              first | rw [h8_q] | rw [h0_q.2 1 8 (by omega) (by omega) (by omega), h8_q]
              refine zaload_n (k := 36) rfl rfl ?_
              refine zgF 7 (k := 37) rfl ob_1 fl_11_33 rfl fx_1_7 ?_
              refine ziconst (k := 38) rfl (by decide) ?_
              refine zpVI (k := 39) rfl (c_March_go ha1_q hw h0_q hW (SI_goo hWI0 hSI0 j) hWI0 1 (by omega)) fm_March_go lk_11_220 rfl rfl ob_55 ⟨_, rfl, rfl⟩ (Nat.le_of_ble_eq_true rfl) (by decide) ⟨by decide, by decide⟩ (fun z σ3 h2_q => ?_)
              clear h0_q
              have h0_q := h2_q.2
              refine zpop (k := 40) rfl rfl ?_
              refine ziincB (k := 41) (ls' := [_, _, _, _]) rfl rfl (by decide) (by omega) rfl ?_
              refine zgoto (k := 42) rfl rfl ?_
              have en : fnd p (aheadN S + 1) 0 = fnd p (aheadN S + 1 - (j + 1)) (j + 1) := by
                rw [hf, show aheadN S + 1 - j = aheadN S + 1 - (j + 1) + 1 by omega, fnd_s, if_neg (by rw [← hp]; simp only [decide_eq_true_eq]; assumption)]
              first
              | exact ih31_q (j + 1) _ (by omega) (by omega) en (by rw [Nat.min_eq_left (by omega), ← goo_1]; exact h0_q)
              | exact ih31_q (j + 1) _ (by omega) (by omega) en (by rw [show min (j + 1) (aheadN S) = j by omega]; exact h0_q)
          · skip
            refine ziload_n (k := 27) rfl rfl ?_
            refine zireturn (k := 28) rfl rfl rfl ?_
            rw [← hQ]
            refine ⟨rfl, _, rfl, ?_, scr_st h0_q, by rw [h0_q.1]; exact ⟨SZ_goo hWI0 hSI0 hZ _, SI_rb (SI_goo hWI0 hSI0 _)⟩⟩
            unfold cauQ
            rw [if_neg (by omega), hp, hf, show aheadN S + 1 - j = aheadN S + 1 - (j + 1) + 1 by omega, fnd_s, if_pos (by rw [← hp]; simp only [decide_eq_true_eq]; assumption)]
    exact lp31_q _ 0 _ (Nat.lt_succ_self _) (by omega) rfl (by rw [Nat.zero_min]; exact h0_q)
  · skip
    refine ziconst (k := 5) rfl (by decide) ?_
    refine zireturn (k := 6) rfl rfl rfl ?_
    rw [← hQ]
    exact ⟨rfl, _, rfl, by unfold cauQ; rw [if_pos (by omega)], scr_rf σ, hAR⟩
set_option maxHeartbeats 4000000 in
set_option maxRecDepth 20000 in
theorem r_NT_filled {Γ : zv_M} {L : Int} {w : Int} {σ S Wm : zv_H} (h8_q : σ 1 8 = w) (hw : w ∈ wrL) (hW : vw 12 σ w = Wm) (hS : vw 10 σ 30 = S) (hSI : SI (Wm 0 1) (Wm 0 3) S) (hWI : WI Wm) (hZ : SZ S) (hAR : SZr (vw 10 σ 41))  : zC Γ m_NT_filled 8 0 0 (GM L) [zR 1] σ (zPI (GM L) (fun z σ' => z = filQ Wm S ∧ scr σ σ' ∧ SZr (vw 10 σ' 41))) := by
  refine zC_of (ls0 := [_, _, _]) zm_NT_filled (by decide) rfl (Nat.le_of_ble_eq_true rfl) ?_
  generalize hQ : (zPI (GM L) (fun z σ' => z = filQ Wm S ∧ scr σ σ' ∧ SZr (vw 10 σ' 41))) = Q
  have hAZ := hAR.1
  have ha : (30 : Int) ∈ stL := by decide
  have e30_q : σ 30 = S 0 := st_e0 hS
  have e31_q : σ 31 = S 1 := st_e (f := 1) hS (by omega)
  have e32_q : σ 32 = S 2 := st_e (f := 2) hS (by omega)
  have e33_q : σ 33 = S 3 := st_e (f := 3) hS (by omega)
  have e34_q : σ 34 = S 4 := st_e (f := 4) hS (by omega)
  have e35_q : σ 35 = S 5 := st_e (f := 5) hS (by omega)
  have e36_q : σ 36 = S 6 := st_e (f := 6) hS (by omega)
  have e37_q : σ 37 = S 7 := st_e (f := 7) hS (by omega)
  have e38_q : σ 38 = S 8 := st_e (f := 8) hS (by omega)
  have e39_q : σ 39 = S 9 := st_e (f := 9) hS (by omega)
  have e40_q : σ 40 = S 10 := st_e (f := 10) hS (by omega)
  have ew0_q : σ w = Wm 0 := st_e0 hW
  have ew1_q : σ (w + 1) = Wm 1 := st_e (f := 1) hW (by omega)
  have ew2_q : σ (w + 2) = Wm 2 := st_e (f := 2) hW (by omega)
  have ew3_q : σ (w + 3) = Wm 3 := st_e (f := 3) hW (by omega)
  have ew4_q : σ (w + 4) = Wm 4 := st_e (f := 4) hW (by omega)
  have ew5_q : σ (w + 5) = Wm 5 := st_e (f := 5) hW (by omega)
  have ew6_q : σ (w + 6) = Wm 6 := st_e (f := 6) hW (by omega)
  have ew7_q : σ (w + 7) = Wm 7 := st_e (f := 7) hW (by omega)
  have ew8_q : σ (w + 8) = Wm 8 := st_e (f := 8) hW (by omega)
  have ew9_q : σ (w + 9) = Wm 9 := st_e (f := 9) hW (by omega)
  have ew10_q : σ (w + 10) = Wm 10 := st_e (f := 10) hW (by omega)
  have ew11_q : σ (w + 11) = Wm 11 := st_e (f := 11) hW (by omega)
  have ew12_q : σ (w + 12) = Wm 12 := st_e (f := 12) hW (by omega)
  have hSI0 := hSI
  have hWI0 := hWI
  obtain ⟨b0_q, b11_q, b12_q, bc, bm, bl, br⟩ := hSI
  obtain ⟨w1_q, w2_q, w3_q, w4_q, w5_q, w6_q, w7_q, w8_q, w9_q, w10_q⟩ := hWI
  have ha1_q : (41 : Int) ∈ stL := by decide
  refine zaload_n (k := 0) rfl rfl ?_
  refine zgF 7 (k := 1) rfl ob_1 fl_11_33 rfl fx_1_7 ?_
  refine zaload_n (k := 2) rfl rfl ?_
  refine zgF 6 (k := 3) rfl ob_1 fl_11_29 rfl fx_1_6 ?_
  refine zpV0 (k := 4) rfl (k_copy (by decide) ha (by decide) hAZ hS hZ) fm_State_copy lk_11_216 rfl rfl ob_41 ⟨_, rfl, rfl⟩ (Nat.le_of_ble_eq_true rfl) (by decide) ⟨by decide, by decide⟩ (fun σ1 h0_q => ?_)
  refine zaload_n (k := 5) rfl rfl ?_
  refine zfV1 (k := 6) rfl (c_NT_weeksAhead ((h0_q.2 1 8 (by omega) (by omega) (by omega)).trans h8_q) hw ((stp_w h0_q ha1_q hw).trans hW) ((st_30 h0_q).trans hS) hSI0 hWI0) fm_NT_weeksAhead lk_11_212 rfl rfl ob_1 ⟨_, rfl, rfl⟩ (Nat.le_of_ble_eq_true rfl) (by decide) ⟨by decide, by decide⟩ ?_
  refine zistore_n (k := 7) (ls' := [_, _, _]) rfl (Nat.le_of_ble_eq_true rfl) rfl ?_
  have hT : (min 80 (999 - S 0 0)) = ((aheadN S : Nat) : Int) := by unfold aheadN; omega
  rw [hT]
  generalize hp : (fun j => decide (sumN ((gooF Wm S j).1 1) (Wm 0 1).toNat = 0)) = p
  refine ziconst (k := 8) rfl (by decide) ?_
  refine zistore_n (k := 9) (ls' := [_, _, _]) rfl (Nat.le_of_ble_eq_true rfl) rfl ?_
  have lp18_q : ∀ (g : Nat) (j : Nat) (σ2 : zv_H), (aheadN S + 1 - j) < g → (j ≤ aheadN S + 1) → (fnd p (aheadN S + 1) 0 = fnd p (aheadN S + 1 - j) j) → (stp σ σ2 41 (gooF Wm S (min j (aheadN S))).1) → zV Γ m_NT_filled 8 0 0 Q (GM L) (0, 0) 18 [some (zR 1), some (zI ((aheadN S : Nat) : Int)), some (zI j)] [] σ2 := by
    intro g
    induction g with
    | zero => intro j σ2 hg; exact absurd hg (Nat.not_lt_zero _)
    | succ g ih18_q =>
      intro j σ2 hg hj hf h0_q
      refine ziload_n (k := 10) rfl rfl ?_
      refine ziload_n (k := 11) rfl rfl ?_
      refine zicmp_gt (k := 12) rfl rfl (fun c1_q => ?_) (fun c1_q => ?_)
      · skip
        refine ziconst (k := 37) rfl (by decide) ?_
        refine zireturn (k := 38) rfl rfl rfl ?_
        rw [← hQ]
        refine ⟨rfl, _, rfl, ?_, scr_st h0_q, by rw [h0_q.1]; exact ⟨SZ_goo hWI0 hSI0 hZ _, SI_rb (SI_goo hWI0 hSI0 _)⟩⟩
        unfold filQ
        rw [hp, hf, show aheadN S + 1 - j = 0 by omega]
        rfl
      · skip
        refine zaload_n (k := 13) rfl rfl ?_
        refine zgF 7 (k := 14) rfl ob_1 fl_11_33 rfl fx_1_7 ?_
        refine zgF 1 (k := 15) rfl ob_41 fl_11_142 rfl fx_41_1 ?_
        refine zaload_n (k := 16) rfl rfl ?_
        refine zgR 8 (k := 17) rfl ob_1 fl_11_19 rfl fx_1_8 ?_
        first | rw [h8_q] | rw [h0_q.2 1 8 (by omega) (by omega) (by omega), h8_q]
        refine zgI 1 (k := 18) rfl (wr_ob hw) fl_11_130 rfl (wr_fx_1 hw) ?_
        try simp only [e30_q, e31_q, e32_q, e33_q, e34_q, e35_q, e36_q, e37_q, e38_q, e39_q, e40_q, ew0_q, ew1_q, ew2_q, ew3_q, ew4_q, ew5_q, ew6_q, ew7_q, ew8_q, ew9_q, ew10_q, ew11_q, ew12_q]
        rw [Nat.min_eq_left (by omega)] at h0_q
        have eq0_q : σ2 42 = (gooF Wm S j).1 1 := st_e (f := 1) h0_q.1 (by omega)
        have si := SI_goo hWI0 hSI0 j
        have ewc : σ2 w 1 = Wm 0 1 := by rw [h0_q.2 w 1 (by have := wr_far hw; omega) (by have := wr_far hw; omega) (by have := wr_far hw; omega), ew0_q]
        rw [ewc]
        refine zfS1 (k := 19) rfl (k_total ar_42 (by omega) (by omega) (fun k h1_q h2_q => by rw [eq0_q]; have := si.2.2.2.1 k h1_q h2_q; omega)) fm_NT_total lk_11_145 rfl rfl (Nat.le_of_ble_eq_true rfl) (by decide) ⟨by decide, by decide⟩ ?_
        rw [eq0_q]
        refine zif_ne (k := 20) rfl rfl (fun c2_q => ?_) (fun c2_q => ?_)
        · skip
          refine ziload_n (k := 23) rfl rfl ?_
          refine ziload_n (k := 24) rfl rfl ?_
          refine zicmp_ge (k := 25) rfl rfl (fun c3_q => ?_) (fun c3_q => ?_)
          · skip
            refine ziincB (k := 35) (ls' := [_, _, _]) rfl rfl (by decide) (by omega) rfl ?_
            refine zgoto (k := 36) rfl rfl ?_
            have en : fnd p (aheadN S + 1) 0 = fnd p (aheadN S + 1 - (j + 1)) (j + 1) := by
              rw [hf, show aheadN S + 1 - j = aheadN S + 1 - (j + 1) + 1 by omega, fnd_s, if_neg (by rw [← hp]; simp only [decide_eq_true_eq]; assumption)]
            first
            | exact ih18_q (j + 1) _ (by omega) (by omega) en (by rw [Nat.min_eq_left (by omega), ← goo_1]; exact h0_q)
            | exact ih18_q (j + 1) _ (by omega) (by omega) en (by rw [show min (j + 1) (aheadN S) = j by omega]; exact h0_q)
          · skip
            refine zaload_n (k := 26) rfl rfl ?_
            refine zgF 2 (k := 27) rfl ob_1 fl_11_48 rfl fx_1_2 ?_
            refine zaload_n (k := 28) rfl rfl ?_
            refine zgR 8 (k := 29) rfl ob_1 fl_11_19 rfl fx_1_8 ?_
            first | rw [h8_q] | rw [h0_q.2 1 8 (by omega) (by omega) (by omega), h8_q]
            refine zaload_n (k := 30) rfl rfl ?_
            refine zgF 7 (k := 31) rfl ob_1 fl_11_33 rfl fx_1_7 ?_
            refine ziconst (k := 32) rfl (by decide) ?_
            refine zpVI (k := 33) rfl (c_March_go ha1_q hw h0_q hW (SI_goo hWI0 hSI0 j) hWI0 1 (by omega)) fm_March_go lk_11_220 rfl rfl ob_55 ⟨_, rfl, rfl⟩ (Nat.le_of_ble_eq_true rfl) (by decide) ⟨by decide, by decide⟩ (fun z σ3 h2_q => ?_)
            clear h0_q
            have h0_q := h2_q.2
            refine zpop (k := 34) rfl rfl ?_
            refine ziincB (k := 35) (ls' := [_, _, _]) rfl rfl (by decide) (by omega) rfl ?_
            refine zgoto (k := 36) rfl rfl ?_
            have en : fnd p (aheadN S + 1) 0 = fnd p (aheadN S + 1 - (j + 1)) (j + 1) := by
              rw [hf, show aheadN S + 1 - j = aheadN S + 1 - (j + 1) + 1 by omega, fnd_s, if_neg (by rw [← hp]; simp only [decide_eq_true_eq]; assumption)]
            first
            | exact ih18_q (j + 1) _ (by omega) (by omega) en (by rw [Nat.min_eq_left (by omega), ← goo_1]; exact h0_q)
            | exact ih18_q (j + 1) _ (by omega) (by omega) en (by rw [show min (j + 1) (aheadN S) = j by omega]; exact h0_q)
        · skip
          refine ziload_n (k := 21) rfl rfl ?_
          refine zireturn (k := 22) rfl rfl rfl ?_
          rw [← hQ]
          refine ⟨rfl, _, rfl, ?_, scr_st h0_q, by rw [h0_q.1]; exact ⟨SZ_goo hWI0 hSI0 hZ _, SI_rb (SI_goo hWI0 hSI0 _)⟩⟩
          unfold filQ
          rw [hp, hf, show aheadN S + 1 - j = aheadN S + 1 - (j + 1) + 1 by omega, fnd_s, if_pos (by rw [← hp]; simp only [decide_eq_true_eq]; assumption)]
  exact lp18_q _ 0 _ (Nat.lt_succ_self _) (by omega) rfl (by rw [Nat.zero_min]; exact h0_q)
set_option maxHeartbeats 4000000 in
set_option maxRecDepth 20000 in
theorem r_NT_lured {Γ : zv_M} {L : Int} {w : Int} {σ S Wm : zv_H} (h8_q : σ 1 8 = w) (hw : w ∈ wrL) (hW : vw 12 σ w = Wm) (hS : vw 10 σ 30 = S) (hSI : SI (Wm 0 1) (Wm 0 3) S) (hWI : WI Wm) (hZ : SZ S) (hAR : SZr (vw 10 σ 41)) {m c : Int} : zC Γ m_NT_lured 8 0 0 (GM L) [zR 1, zI m, zI c] σ (zPI (GM L) (fun z σ' => lurQ Wm S m c z ∧ scr σ σ' ∧ SZr (vw 10 σ' 41))) := by
  refine zC_of (ls0 := [_, _, _]) zm_NT_lured (by decide) rfl (Nat.le_of_ble_eq_true rfl) ?_
  generalize hQ : (zPI (GM L) (fun z σ' => lurQ Wm S m c z ∧ scr σ σ' ∧ SZr (vw 10 σ' 41))) = Q
  have hAZ := hAR.1
  have ha : (30 : Int) ∈ stL := by decide
  have e30_q : σ 30 = S 0 := st_e0 hS
  have e31_q : σ 31 = S 1 := st_e (f := 1) hS (by omega)
  have e32_q : σ 32 = S 2 := st_e (f := 2) hS (by omega)
  have e33_q : σ 33 = S 3 := st_e (f := 3) hS (by omega)
  have e34_q : σ 34 = S 4 := st_e (f := 4) hS (by omega)
  have e35_q : σ 35 = S 5 := st_e (f := 5) hS (by omega)
  have e36_q : σ 36 = S 6 := st_e (f := 6) hS (by omega)
  have e37_q : σ 37 = S 7 := st_e (f := 7) hS (by omega)
  have e38_q : σ 38 = S 8 := st_e (f := 8) hS (by omega)
  have e39_q : σ 39 = S 9 := st_e (f := 9) hS (by omega)
  have e40_q : σ 40 = S 10 := st_e (f := 10) hS (by omega)
  have ew0_q : σ w = Wm 0 := st_e0 hW
  have ew1_q : σ (w + 1) = Wm 1 := st_e (f := 1) hW (by omega)
  have ew2_q : σ (w + 2) = Wm 2 := st_e (f := 2) hW (by omega)
  have ew3_q : σ (w + 3) = Wm 3 := st_e (f := 3) hW (by omega)
  have ew4_q : σ (w + 4) = Wm 4 := st_e (f := 4) hW (by omega)
  have ew5_q : σ (w + 5) = Wm 5 := st_e (f := 5) hW (by omega)
  have ew6_q : σ (w + 6) = Wm 6 := st_e (f := 6) hW (by omega)
  have ew7_q : σ (w + 7) = Wm 7 := st_e (f := 7) hW (by omega)
  have ew8_q : σ (w + 8) = Wm 8 := st_e (f := 8) hW (by omega)
  have ew9_q : σ (w + 9) = Wm 9 := st_e (f := 9) hW (by omega)
  have ew10_q : σ (w + 10) = Wm 10 := st_e (f := 10) hW (by omega)
  have ew11_q : σ (w + 11) = Wm 11 := st_e (f := 11) hW (by omega)
  have ew12_q : σ (w + 12) = Wm 12 := st_e (f := 12) hW (by omega)
  have hSI0 := hSI
  have hWI0 := hWI
  obtain ⟨b0_q, b11_q, b12_q, bc, bm, bl, br⟩ := hSI
  obtain ⟨w1_q, w2_q, w3_q, w4_q, w5_q, w6_q, w7_q, w8_q, w9_q, w10_q⟩ := hWI
  have ha1_q : (41 : Int) ∈ stL := by decide
  have h0_q : stp σ σ 30 S := ⟨hS, fun _ _ _ _ _ => rfl⟩
  refine zaload_n (k := 0) rfl rfl ?_
  refine zgR 8 (k := 1) rfl ob_1 fl_11_19 rfl fx_1_8 ?_
  first | rw [h8_q] | rw [h0_q.2 1 8 (by omega) (by omega) (by omega), h8_q]
  refine ziload_n (k := 2) rfl rfl ?_
  refine zfV1 (k := 3) rfl (c_War_hasMan hw) fm_War_hasMan lk_11_181 rfl rfl (wr_ob hw) ⟨_, rfl, rfl⟩ (Nat.le_of_ble_eq_true rfl) (by decide) ⟨by decide, by decide⟩ ?_
  try simp only [e30_q, e31_q, e32_q, e33_q, e34_q, e35_q, e36_q, e37_q, e38_q, e39_q, e40_q, ew0_q, ew1_q, ew2_q, ew3_q, ew4_q, ew5_q, ew6_q, ew7_q, ew8_q, ew9_q, ew10_q, ew11_q, ew12_q]
  refine zif_eq (k := 4) rfl rfl (fun c1_q => ?_) (fun c1_q => ?_)
  · skip
    refine ziconst (k := 10) rfl (by decide) ?_
    refine zireturn (k := 11) rfl rfl rfl ?_
    rw [← hQ]
    refine ⟨rfl, _, rfl, ?_, scr_rf σ, hAR⟩
    unfold lurQ
    rw [if_pos (by omega)]
  · skip
    have hmm : 0 ≤ m ∧ m < Wm 0 3 := by omega
    refine zaload_n (k := 5) rfl rfl ?_
    refine zgR 8 (k := 6) rfl ob_1 fl_11_19 rfl fx_1_8 ?_
    first | rw [h8_q] | rw [h0_q.2 1 8 (by omega) (by omega) (by omega), h8_q]
    refine ziload_n (k := 7) rfl rfl ?_
    refine zfV1 (k := 8) rfl (c_War_hasCounty hw) fm_War_hasCounty lk_11_168 rfl rfl (wr_ob hw) ⟨_, rfl, rfl⟩ (Nat.le_of_ble_eq_true rfl) (by decide) ⟨by decide, by decide⟩ ?_
    try simp only [e30_q, e31_q, e32_q, e33_q, e34_q, e35_q, e36_q, e37_q, e38_q, e39_q, e40_q, ew0_q, ew1_q, ew2_q, ew3_q, ew4_q, ew5_q, ew6_q, ew7_q, ew8_q, ew9_q, ew10_q, ew11_q, ew12_q]
    refine zif_ne (k := 9) rfl rfl (fun c2_q => ?_) (fun c2_q => ?_)
    · skip
      have hcc : 0 ≤ c ∧ c < Wm 0 1 := by omega
      refine zaload_n (k := 12) rfl rfl ?_
      refine zgF 6 (k := 13) rfl ob_1 fl_11_29 rfl fx_1_6 ?_
      refine zgF 5 (k := 14) rfl ob_30 fl_11_149 rfl fx_30_5 ?_
      refine ziload_n (k := 15) rfl rfl ?_
      refine zfS1 (k := 16) rfl (c_NT_at ar_35) fm_NT_at lk_11_174 rfl rfl (Nat.le_of_ble_eq_true rfl) (by decide) ⟨by decide, by decide⟩ ?_
      rw [zat_in (by omega)]
      try simp only [e30_q, e31_q, e32_q, e33_q, e34_q, e35_q, e36_q, e37_q, e38_q, e39_q, e40_q, ew0_q, ew1_q, ew2_q, ew3_q, ew4_q, ew5_q, ew6_q, ew7_q, ew8_q, ew9_q, ew10_q, ew11_q, ew12_q]
      refine zif_ne (k := 17) rfl rfl (fun c3_q => ?_) (fun c3_q => ?_)
      · skip
        refine ziconst (k := 25) rfl (by decide) ?_
        refine zireturn (k := 26) rfl rfl rfl ?_
        rw [← hQ]
        refine ⟨rfl, _, rfl, ?_, scr_rf σ, hAR⟩
        unfold lurQ
        rw [if_neg (by omega), if_pos (by omega)]
      · skip
        refine zaload_n (k := 18) rfl rfl ?_
        refine zgF 6 (k := 19) rfl ob_1 fl_11_29 rfl fx_1_6 ?_
        refine zgF 4 (k := 20) rfl ob_30 fl_11_200 rfl fx_30_4 ?_
        refine ziload_n (k := 21) rfl rfl ?_
        refine zfS1 (k := 22) rfl (c_NT_at ar_34) fm_NT_at lk_11_174 rfl rfl (Nat.le_of_ble_eq_true rfl) (by decide) ⟨by decide, by decide⟩ ?_
        rw [zat_in (by omega)]
        try simp only [e30_q, e31_q, e32_q, e33_q, e34_q, e35_q, e36_q, e37_q, e38_q, e39_q, e40_q, ew0_q, ew1_q, ew2_q, ew3_q, ew4_q, ew5_q, ew6_q, ew7_q, ew8_q, ew9_q, ew10_q, ew11_q, ew12_q]
        refine ziload_n (k := 23) rfl rfl ?_
        refine zicmp_ne (k := 24) rfl rfl (fun c4_q => ?_) (fun c4_q => ?_)
        · skip
          refine zaload_n (k := 27) rfl rfl ?_
          refine zgR 8 (k := 28) rfl ob_1 fl_11_19 rfl fx_1_8 ?_
          first | rw [h8_q] | rw [h0_q.2 1 8 (by omega) (by omega) (by omega), h8_q]
          refine zaload_n (k := 29) rfl rfl ?_
          refine zgF 6 (k := 30) rfl ob_1 fl_11_29 rfl fx_1_6 ?_
          refine zgF 4 (k := 31) rfl ob_30 fl_11_200 rfl fx_30_4 ?_
          refine ziload_n (k := 32) rfl rfl ?_
          refine zfS1 (k := 33) rfl (c_NT_at ar_34) fm_NT_at lk_11_174 rfl rfl (Nat.le_of_ble_eq_true rfl) (by decide) ⟨by decide, by decide⟩ ?_
          rw [zat_in (by omega)]
          try simp only [e30_q, e31_q, e32_q, e33_q, e34_q, e35_q, e36_q, e37_q, e38_q, e39_q, e40_q, ew0_q, ew1_q, ew2_q, ew3_q, ew4_q, ew5_q, ew6_q, ew7_q, ew8_q, ew9_q, ew10_q, ew11_q, ew12_q]
          refine ziload_n (k := 34) rfl rfl ?_
          refine zfV1 (k := 35) rfl (k_dist hw hW (by omega)) fm_War_distance lk_11_197 rfl rfl (wr_ob hw) ⟨_, rfl, rfl⟩ (Nat.le_of_ble_eq_true rfl) (by decide) ⟨by decide, by decide⟩ ?_
          refine ziconst (k := 36) rfl (by decide) ?_
          refine zicmp_ne (k := 37) rfl rfl (fun c5_q => ?_) (fun c5_q => ?_)
          · skip
            refine zaload_n (k := 40) rfl rfl ?_
            refine zgF 2 (k := 41) rfl ob_1 fl_11_48 rfl fx_1_2 ?_
            refine zaload_n (k := 42) rfl rfl ?_
            refine zgR 8 (k := 43) rfl ob_1 fl_11_19 rfl fx_1_8 ?_
            first | rw [h8_q] | rw [h0_q.2 1 8 (by omega) (by omega) (by omega), h8_q]
            refine zaload_n (k := 44) rfl rfl ?_
            refine zgF 6 (k := 45) rfl ob_1 fl_11_29 rfl fx_1_6 ?_
            refine ziload_n (k := 46) rfl rfl ?_
            refine ziload_n (k := 47) rfl rfl ?_
            refine zpVI (k := 48) rfl (c_March_leastLure ha hw h0_q hW hSI0 hWI0 (by omega) (by omega)) fm_March_leastLure lk_11_240 rfl rfl ob_55 ⟨_, rfl, rfl⟩ (Nat.le_of_ble_eq_true rfl) (by decide) ⟨by decide, by decide⟩ (fun z σ2 h2_q => ?_)
            refine zireturn (k := 49) rfl rfl rfl ?_
            rw [← hQ]
            refine ⟨rfl, _, rfl, ?_, ?_, ?_⟩
            · unfold lurQ
              rw [if_neg (by omega), if_neg (by omega), if_neg (by omega)]
              exact h2_q.1
            · intro x k q1_q q2_q
              by_cases hx : 30 ≤ x ∧ x ≤ 40
              · have g : ∀ S2, vw 10 σ2 30 = S2 → vw 10 σ 30 = S2 → σ2 x k = σ x k := fun S2 g1_q g2_q => by
                  by_cases h30_q : x = 30
                  · rw [h30_q, st_e0 g1_q, st_e0 g2_q]
                  · rw [show x = 30 + (x - 30) by omega, st_e g1_q (by omega), st_e g2_q (by omega)]
                exact g S h2_q.2.1 hS
              · exact h2_q.2.2 x k (by omega) (by omega) (by omega)
            · rw [vw_eq (σ := σ) (fun x k g1_q g2_q => h2_q.2.2 x k (by omega) (by omega) (by omega)) (by omega)]; exact hAR
          · skip
            refine ziconst (k := 38) rfl (by decide) ?_
            refine zireturn (k := 39) rfl rfl rfl ?_
            rw [← hQ]
            refine ⟨rfl, _, rfl, ?_, scr_rf σ, hAR⟩
            unfold lurQ
            rw [if_neg (by omega), if_neg (by omega), if_pos (by omega)]
        · skip
          refine ziconst (k := 25) rfl (by decide) ?_
          refine zireturn (k := 26) rfl rfl rfl ?_
          rw [← hQ]
          refine ⟨rfl, _, rfl, ?_, scr_rf σ, hAR⟩
          unfold lurQ
          rw [if_neg (by omega), if_pos (by omega)]
    · skip
      refine ziconst (k := 10) rfl (by decide) ?_
      refine zireturn (k := 11) rfl rfl rfl ?_
      rw [← hQ]
      refine ⟨rfl, _, rfl, ?_, scr_rf σ, hAR⟩
      unfold lurQ
      rw [if_pos (by omega)]
set_option maxHeartbeats 4000000 in
set_option maxRecDepth 20000 in
theorem r_NT_best {Γ : zv_M} {L : Int} {w : Int} {σ S Wm : zv_H} (h8_q : σ 1 8 = w) (hw : w ∈ wrL) (hW : vw 12 σ w = Wm) (hS : vw 10 σ 30 = S) (hSI : SI (Wm 0 1) (Wm 0 3) S) (hWI : WI Wm) (hZ : SZ S) (hAR : SZr (vw 10 σ 41)) {c n t : Int} : zC Γ m_NT_best 8 0 0 (GM L) [zR 1, zI c, zI n, zI t] σ (zPI (GM L) (fun z σ' => z = bstQ Wm S c n t ∧ scr σ σ' ∧ SZr (vw 10 σ' 41))) := by
  refine zC_of (ls0 := [_, _, _, _, _, _, _, _]) zm_NT_best (by decide) rfl (Nat.le_of_ble_eq_true rfl) ?_
  generalize hQ : (zPI (GM L) (fun z σ' => z = bstQ Wm S c n t ∧ scr σ σ' ∧ SZr (vw 10 σ' 41))) = Q
  have hAZ := hAR.1
  have ha : (30 : Int) ∈ stL := by decide
  have e30_q : σ 30 = S 0 := st_e0 hS
  have e31_q : σ 31 = S 1 := st_e (f := 1) hS (by omega)
  have e32_q : σ 32 = S 2 := st_e (f := 2) hS (by omega)
  have e33_q : σ 33 = S 3 := st_e (f := 3) hS (by omega)
  have e34_q : σ 34 = S 4 := st_e (f := 4) hS (by omega)
  have e35_q : σ 35 = S 5 := st_e (f := 5) hS (by omega)
  have e36_q : σ 36 = S 6 := st_e (f := 6) hS (by omega)
  have e37_q : σ 37 = S 7 := st_e (f := 7) hS (by omega)
  have e38_q : σ 38 = S 8 := st_e (f := 8) hS (by omega)
  have e39_q : σ 39 = S 9 := st_e (f := 9) hS (by omega)
  have e40_q : σ 40 = S 10 := st_e (f := 10) hS (by omega)
  have ew0_q : σ w = Wm 0 := st_e0 hW
  have ew1_q : σ (w + 1) = Wm 1 := st_e (f := 1) hW (by omega)
  have ew2_q : σ (w + 2) = Wm 2 := st_e (f := 2) hW (by omega)
  have ew3_q : σ (w + 3) = Wm 3 := st_e (f := 3) hW (by omega)
  have ew4_q : σ (w + 4) = Wm 4 := st_e (f := 4) hW (by omega)
  have ew5_q : σ (w + 5) = Wm 5 := st_e (f := 5) hW (by omega)
  have ew6_q : σ (w + 6) = Wm 6 := st_e (f := 6) hW (by omega)
  have ew7_q : σ (w + 7) = Wm 7 := st_e (f := 7) hW (by omega)
  have ew8_q : σ (w + 8) = Wm 8 := st_e (f := 8) hW (by omega)
  have ew9_q : σ (w + 9) = Wm 9 := st_e (f := 9) hW (by omega)
  have ew10_q : σ (w + 10) = Wm 10 := st_e (f := 10) hW (by omega)
  have ew11_q : σ (w + 11) = Wm 11 := st_e (f := 11) hW (by omega)
  have ew12_q : σ (w + 12) = Wm 12 := st_e (f := 12) hW (by omega)
  have hSI0 := hSI
  have hWI0 := hWI
  obtain ⟨b0_q, b11_q, b12_q, bc, bm, bl, br⟩ := hSI
  obtain ⟨w1_q, w2_q, w3_q, w4_q, w5_q, w6_q, w7_q, w8_q, w9_q, w10_q⟩ := hWI
  have ha1_q : (41 : Int) ∈ stL := by decide
  refine zaload_n (k := 0) rfl rfl ?_
  refine zgR 8 (k := 1) rfl ob_1 fl_11_19 rfl fx_1_8 ?_
  first | rw [h8_q] | rw [h0_q.2 1 8 (by omega) (by omega) (by omega), h82_q] | rw [h0_q.2 1 8 (by omega) (by omega) (by omega), h8_q]
  refine ziload_n (k := 2) rfl rfl ?_
  refine zfV1 (k := 3) rfl (c_War_hasCounty hw) fm_War_hasCounty lk_11_168 rfl rfl (wr_ob hw) ⟨_, rfl, rfl⟩ (Nat.le_of_ble_eq_true rfl) (by decide) ⟨by decide, by decide⟩ ?_
  try simp only [e30_q, e31_q, e32_q, e33_q, e34_q, e35_q, e36_q, e37_q, e38_q, e39_q, e40_q, ew0_q, ew1_q, ew2_q, ew3_q, ew4_q, ew5_q, ew6_q, ew7_q, ew8_q, ew9_q, ew10_q, ew11_q, ew12_q]
  refine zif_eq (k := 4) rfl rfl (fun c1_q => ?_) (fun c1_q => ?_)
  · skip
    refine ziconst (k := 20) rfl (by decide) ?_
    refine zireturn (k := 21) rfl rfl rfl ?_
    rw [← hQ]
    exact ⟨rfl, _, rfl, by unfold bstQ; rw [if_pos (by omega)], scr_rf σ, hAR⟩
  · skip
    have hcc : 0 ≤ c ∧ c < Wm 0 1 := by omega
    refine ziload_n (k := 5) rfl rfl ?_
    refine ziconst (k := 6) rfl (by decide) ?_
    refine zicmp_lt (k := 7) rfl rfl (fun c2_q => ?_) (fun c2_q => ?_)
    · skip
      refine ziconst (k := 20) rfl (by decide) ?_
      refine zireturn (k := 21) rfl rfl rfl ?_
      rw [← hQ]
      exact ⟨rfl, _, rfl, by unfold bstQ; rw [if_pos (by omega)], scr_rf σ, hAR⟩
    · skip
      refine ziload_n (k := 8) rfl rfl ?_
      refine zbipush (k := 9) rfl rfl ?_
      refine zicmp_gt (k := 10) rfl rfl (fun c3_q => ?_) (fun c3_q => ?_)
      · skip
        refine ziconst (k := 20) rfl (by decide) ?_
        refine zireturn (k := 21) rfl rfl rfl ?_
        rw [← hQ]
        exact ⟨rfl, _, rfl, by unfold bstQ; rw [if_pos (by omega)], scr_rf σ, hAR⟩
      · skip
        refine ziload_n (k := 11) rfl rfl ?_
        refine zaload_n (k := 12) rfl rfl ?_
        refine zfV1 (k := 13) rfl (c_NT_weeksAhead h8_q hw hW hS hSI0 hWI0) fm_NT_weeksAhead lk_11_212 rfl rfl ob_1 ⟨_, rfl, rfl⟩ (Nat.le_of_ble_eq_true rfl) (by decide) ⟨by decide, by decide⟩ ?_
        refine zicmp_gt (k := 14) rfl rfl (fun c4_q => ?_) (fun c4_q => ?_)
        · skip
          refine ziconst (k := 20) rfl (by decide) ?_
          refine zireturn (k := 21) rfl rfl rfl ?_
          rw [← hQ]
          exact ⟨rfl, _, rfl, by unfold bstQ; rw [if_pos (by omega)], scr_rf σ, hAR⟩
        · skip
          refine ziload_n (k := 15) rfl rfl ?_
          refine zif_lt (k := 16) rfl rfl (fun c5_q => ?_) (fun c5_q => ?_)
          · skip
            refine ziconst (k := 20) rfl (by decide) ?_
            refine zireturn (k := 21) rfl rfl rfl ?_
            rw [← hQ]
            exact ⟨rfl, _, rfl, by unfold bstQ; rw [if_pos (by omega)], scr_rf σ, hAR⟩
          · skip
            refine ziload_n (k := 17) rfl rfl ?_
            refine ziconst (k := 18) rfl (by decide) ?_
            refine zicmp_le (k := 19) rfl rfl (fun c6_q => ?_) (fun c6_q => ?_)
            · skip
              obtain ⟨N, rfl⟩ : ∃ N : Nat, n = N := ⟨n.toNat, by omega⟩
              refine ziconst (k := 22) rfl (by decide) ?_
              refine zistore (k := 23) (ls' := [_, _, _, _, _, _, _, _]) rfl (Nat.le_of_ble_eq_true rfl) rfl ?_
              refine zbipush (k := 24) rfl rfl ?_
              refine zistore (k := 25) (ls' := [_, _, _, _, _, _, _, _]) rfl (Nat.le_of_ble_eq_true rfl) rfl ?_
              refine ziconst (k := 26) rfl (by decide) ?_
              refine zistore (k := 27) (ls' := [_, _, _, _, _, _, _, _]) rfl (Nat.le_of_ble_eq_true rfl) rfl ?_
              have lp51_q : ∀ (g : Nat) (j : Nat) (σ2 : zv_H), (28 - j) < g → (j ≤ 28) → (scr σ σ2) → (SZr (vw 10 σ2 41)) → zV Γ m_NT_best 8 0 0 Q (GM L) (0, 0) 51 [some (zR 1), some (zI c), some (zI N), some (zI t), some (zI (bstL Wm S c N j).1), some (zI (bstL Wm S c N j).2), some (zI (37 * j)), none] [] σ2 := by
                intro g
                induction g with
                | zero => intro j σ2 hg; exact absurd hg (Nat.not_lt_zero _)
                | succ g ih51_q =>
                  intro j σ2 hg hj hs hz
                  have h82_q : σ2 1 8 = w := by rw [hs 1 8 (by omega) (by omega)]; exact h8_q
                  have hW2 : vw 12 σ2 w = Wm := (scr_w hs hw).trans hW
                  have hS2 : vw 10 σ2 30 = S := (scr_30 hs).trans hS
                  refine ziload (k := 28) rfl rfl ?_
                  refine zsipush (k := 29) rfl rfl ?_
                  refine zicmp_gt (k := 30) rfl rfl (fun c7_q => ?_) (fun c7_q => ?_)
                  · skip
                    have hend : bstL Wm S c N 28 = bstL Wm S c N j := by
                      first
                      | (rw [show (28 : Nat) = j by omega]; done)
                      | (rw [show (28 : Nat) = j + (28 - j) by omega]; exact bst_0 hWI0 hSI0 hcc (by omega) _ (by omega))
                    refine ziload_n (k := 68) rfl rfl ?_
                    refine zif_ne (k := 69) rfl rfl (fun c8_q => ?_) (fun c8_q => ?_)
                    · skip
                      refine ziload (k := 72) rfl rfl ?_
                      refine zireturn (k := 73) rfl rfl rfl ?_
                      rw [← hQ]
                      refine ⟨rfl, _, rfl, ?_, hs, hz⟩
                      unfold bstQ
                      rw [if_neg (by omega)]
                      rw [show (N : Int).toNat = N from rfl, hend]
                      first
                      | (rw [if_pos (by omega)]; done)
                      | (rw [if_neg (by omega)]; done)
                    · skip
                      refine ziload (k := 70) rfl rfl ?_
                      refine zgoto (k := 71) rfl rfl ?_
                      refine zireturn (k := 73) rfl rfl rfl ?_
                      rw [← hQ]
                      refine ⟨rfl, _, rfl, ?_, hs, hz⟩
                      unfold bstQ
                      rw [if_neg (by omega)]
                      rw [show (N : Int).toNat = N from rfl, hend]
                      first
                      | (rw [if_pos (by omega)]; done)
                      | (rw [if_neg (by omega)]; done)
                  · skip
                    refine ziload (k := 31) rfl rfl ?_
                    refine zif_le (k := 32) rfl rfl (fun c9_q => ?_) (fun c9_q => ?_)
                    · skip
                      have hend : bstL Wm S c N 28 = bstL Wm S c N j := by
                        first
                        | (rw [show (28 : Nat) = j by omega]; done)
                        | (rw [show (28 : Nat) = j + (28 - j) by omega]; exact bst_0 hWI0 hSI0 hcc (by omega) _ (by omega))
                      refine ziload_n (k := 68) rfl rfl ?_
                      refine zif_ne (k := 69) rfl rfl (fun c10_q => ?_) (fun c10_q => ?_)
                      · skip
                        refine ziload (k := 72) rfl rfl ?_
                        refine zireturn (k := 73) rfl rfl rfl ?_
                        rw [← hQ]
                        refine ⟨rfl, _, rfl, ?_, hs, hz⟩
                        unfold bstQ
                        rw [if_neg (by omega)]
                        rw [show (N : Int).toNat = N from rfl, hend]
                        first
                        | (rw [if_pos (by omega)]; done)
                        | (rw [if_neg (by omega)]; done)
                      · skip
                        refine ziload (k := 70) rfl rfl ?_
                        refine zgoto (k := 71) rfl rfl ?_
                        refine zireturn (k := 73) rfl rfl rfl ?_
                        rw [← hQ]
                        refine ⟨rfl, _, rfl, ?_, hs, hz⟩
                        unfold bstQ
                        rw [if_neg (by omega)]
                        rw [show (N : Int).toNat = N from rfl, hend]
                        first
                        | (rw [if_pos (by omega)]; done)
                        | (rw [if_neg (by omega)]; done)
                    · skip
                      refine zaload_n (k := 33) rfl rfl ?_
                      refine zgF 7 (k := 34) rfl ob_1 fl_11_33 rfl fx_1_7 ?_
                      refine zaload_n (k := 35) rfl rfl ?_
                      refine zgF 6 (k := 36) rfl ob_1 fl_11_29 rfl fx_1_6 ?_
                      refine zpV0 (k := 37) rfl (k_copy ha1_q (by decide) (by omega) hz.1 hS2 hZ) fm_State_copy lk_11_216 rfl rfl ob_41 ⟨_, rfl, rfl⟩ (Nat.le_of_ble_eq_true rfl) (by decide) ⟨by decide, by decide⟩ (fun σ3 h0_q => ?_)
                      refine zaload_n (k := 38) rfl rfl ?_
                      refine zgF 7 (k := 39) rfl ob_1 fl_11_33 rfl fx_1_7 ?_
                      refine zgF 2 (k := 40) rfl ob_41 fl_11_187 rfl fx_41_2 ?_
                      refine ziload_n (k := 41) rfl rfl ?_
                      refine ziload (k := 42) rfl rfl ?_
                      refine zpS0 (k := 43) rfl (k_put (a := 41) (g := 2) ar_43 (by omega) h0_q (by omega) (by omega)) fm_NT_put lk_11_244 rfl rfl (Nat.le_of_ble_eq_true rfl) (by decide) ⟨by decide, by decide⟩ (fun σn hh => ?_)
                      clear h0_q
                      have h0_q := hh
                      clear hh
                      refine zaload_n (k := 44) rfl rfl ?_
                      refine zgF 2 (k := 45) rfl ob_1 fl_11_48 rfl fx_1_2 ?_
                      refine zaload_n (k := 46) rfl rfl ?_
                      refine zgR 8 (k := 47) rfl ob_1 fl_11_19 rfl fx_1_8 ?_
                      first | rw [h8_q] | rw [h0_q.2 1 8 (by omega) (by omega) (by omega), h82_q] | rw [h0_q.2 1 8 (by omega) (by omega) (by omega), h8_q]
                      refine zaload_n (k := 48) rfl rfl ?_
                      refine zgF 7 (k := 49) rfl ob_1 fl_11_33 rfl fx_1_7 ?_
                      refine ziload_n (k := 50) rfl rfl ?_
                      refine zpVI (k := 51) rfl (c_March_go ha1_q hw h0_q hW2 (SI_p (c := c) hSI0 (v := 37 * (j : Int)) (by omega)) hWI0 N (by omega)) fm_March_go lk_11_220 rfl rfl ob_55 ⟨_, rfl, rfl⟩ (Nat.le_of_ble_eq_true rfl) (by decide) ⟨by decide, by decide⟩ (fun z σ5 h2_q => ?_)
                      clear h0_q
                      have h0_q := h2_q.2
                      refine zpop (k := 52) rfl rfl ?_
                      refine zaload_n (k := 53) rfl rfl ?_
                      refine zgF 7 (k := 54) rfl ob_1 fl_11_33 rfl fx_1_7 ?_
                      refine zgF 1 (k := 55) rfl ob_41 fl_11_142 rfl fx_41_1 ?_
                      refine ziload_n (k := 56) rfl rfl ?_
                      refine zfS1 (k := 57) rfl (c_NT_at ar_42) fm_NT_at lk_11_174 rfl rfl (Nat.le_of_ble_eq_true rfl) (by decide) ⟨by decide, by decide⟩ ?_
                      rw [zat_in (by omega), show σ5 42 = _ from st_e (f := 1) h0_q.1 (by omega), show (gooF Wm (zup S 2 c (37 * (j : Int))) N).1 1 c = lftF Wm S c N (37 * (j : Int)) from rfl]
                      have lb := lft_b (n := N) hWI0 hSI0 hcc (p := 37 * (j : Int)) (by omega)
                      refine zistore (k := 58) (ls' := [_, _, _, _, _, _, _, _]) rfl (Nat.le_of_ble_eq_true rfl) rfl ?_
                      refine ziload (k := 59) rfl rfl ?_
                      refine ziload (k := 60) rfl rfl ?_
                      refine zicmp_ge (k := 61) rfl rfl (fun c11_q => ?_) (fun c11_q => ?_)
                      · skip
                        refine ziincB (k := 66) (ls' := [_, _, _, _, _, _, _, _]) rfl rfl (by decide) (by omega) rfl ?_
                        refine zgoto (k := 67) rfl rfl ?_
                        refine zforget (ls' := [_, _, _, _, _, _, _, _]) 7 rfl ?_
                        have hz9_q : SZr (gooF Wm (zup S 2 c (37 * (j : Int))) N).1 := ⟨SZ_goo hWI0 (SI_p (c := c) hSI0 (v := 37 * (j : Int)) (by omega)) (SZ_up hZ (by unfold inS; omega)) N, SI_rb (SI_goo hWI0 (SI_p (c := c) hSI0 (v := 37 * (j : Int)) (by omega)) N)⟩
                        rw [← h0_q.1] at hz9_q
                        first
                        | (have en : bstL Wm S c N (j + 1) = bstL Wm S c N j := if_neg (by omega)
                           have r := ih51_q (j + 1) _ (by omega) (by omega) (scr_tr hs (scr_st h0_q)) hz9_q
                           rw [en, show 37 * ((j + 1 : Nat) : Int) = 37 * (j : Int) + 37 by omega] at r
                           exact r)
                        | (have en : bstL Wm S c N (j + 1) = (37 * (j : Int), lftF Wm S c N (37 * (j : Int))) := if_pos (by omega)
                           have r := ih51_q (j + 1) _ (by omega) (by omega) (scr_tr hs (scr_st h0_q)) hz9_q
                           rw [en, show 37 * ((j + 1 : Nat) : Int) = 37 * (j : Int) + 37 by omega] at r
                           exact r)
                      · skip
                        refine ziload (k := 62) rfl rfl ?_
                        refine zistore (k := 63) (ls' := [_, _, _, _, _, _, _, _]) rfl (Nat.le_of_ble_eq_true rfl) rfl ?_
                        refine ziload (k := 64) rfl rfl ?_
                        refine zistore (k := 65) (ls' := [_, _, _, _, _, _, _, _]) rfl (Nat.le_of_ble_eq_true rfl) rfl ?_
                        refine ziincB (k := 66) (ls' := [_, _, _, _, _, _, _, _]) rfl rfl (by decide) (by omega) rfl ?_
                        refine zgoto (k := 67) rfl rfl ?_
                        refine zforget (ls' := [_, _, _, _, _, _, _, _]) 7 rfl ?_
                        have hz9_q : SZr (gooF Wm (zup S 2 c (37 * (j : Int))) N).1 := ⟨SZ_goo hWI0 (SI_p (c := c) hSI0 (v := 37 * (j : Int)) (by omega)) (SZ_up hZ (by unfold inS; omega)) N, SI_rb (SI_goo hWI0 (SI_p (c := c) hSI0 (v := 37 * (j : Int)) (by omega)) N)⟩
                        rw [← h0_q.1] at hz9_q
                        first
                        | (have en : bstL Wm S c N (j + 1) = bstL Wm S c N j := if_neg (by omega)
                           have r := ih51_q (j + 1) _ (by omega) (by omega) (scr_tr hs (scr_st h0_q)) hz9_q
                           rw [en, show 37 * ((j + 1 : Nat) : Int) = 37 * (j : Int) + 37 by omega] at r
                           exact r)
                        | (have en : bstL Wm S c N (j + 1) = (37 * (j : Int), lftF Wm S c N (37 * (j : Int))) := if_pos (by omega)
                           have r := ih51_q (j + 1) _ (by omega) (by omega) (scr_tr hs (scr_st h0_q)) hz9_q
                           rw [en, show 37 * ((j + 1 : Nat) : Int) = 37 * (j : Int) + 37 by omega] at r
                           exact r)
              exact lp51_q _ 0 _ (Nat.lt_succ_self _) (by omega) (scr_rf σ) hAR
            · skip
              refine ziconst (k := 20) rfl (by decide) ?_
              refine zireturn (k := 21) rfl rfl rfl ?_
              rw [← hQ]
              exact ⟨rfl, _, rfl, by unfold bstQ; rw [if_pos (by omega)], scr_rf σ, hAR⟩
set_option maxHeartbeats 4000000 in
set_option maxRecDepth 20000 in
theorem r_NT_on {Γ : zv_M} {L : Int} {w : Int} {σ S Wm : zv_H} (h8_q : σ 1 8 = w) (hw : w ∈ wrL) (hW : vw 12 σ w = Wm) (hS : vw 10 σ 30 = S) (hSI : SI (Wm 0 1) (Wm 0 3) S) (hWI : WI Wm) (hZ : SZ S) {A : zv_H} (hA : vw 10 σ 41 = A) (hAR : SZr A) (ht : 0 ≤ σ 2 1 ∧ σ 2 1 ≤ 1600) (hTT : ∀ k, 0 ≤ k → k < σ 2 1 → 0 ≤ σ 3 k ∧ σ 3 k ≤ 255)  : zC Γ m_NT_on 6 0 0 (GM L) [zR 1] σ (zPI (GM L) (fun z σ' => (¬ okA (tA σ) Wm (σ 2 1) ∧ z = 0 ∧ ∃ σ1, onf σ σ1 ∧ SZr (vw 10 σ1 41) ∧ σ' = rfu (zup σ1 2 1 0) 5) ∨ (okA (tA σ) Wm (σ 2 1) ∧ z = 1 ∧ vw 10 σ' 30 = rdA (tA σ) Wm (sttF Wm A) ∧ SZr (vw 10 σ' 41) ∧ σ' 62 2 = 0 ∧ σ' 2 1 = 0 ∧ ∀ x k, ¬ (30 ≤ x ∧ x ≤ 51) → x ≠ 56 → x ≠ 57 → ¬ (x = 284 ∧ (k = 3 ∨ k = 4)) → ¬ (x = 62 ∧ k = 2) → ¬ (x = 2 ∧ k = 1) → σ' x k = σ x k))) := by
  refine zC_of (ls0 := [_, _]) zm_NT_on (by decide) rfl (Nat.le_of_ble_eq_true rfl) ?_
  generalize hQ : (zPI (GM L) (fun z σ' => (¬ okA (tA σ) Wm (σ 2 1) ∧ z = 0 ∧ ∃ σ1, onf σ σ1 ∧ SZr (vw 10 σ1 41) ∧ σ' = rfu (zup σ1 2 1 0) 5) ∨ (okA (tA σ) Wm (σ 2 1) ∧ z = 1 ∧ vw 10 σ' 30 = rdA (tA σ) Wm (sttF Wm A) ∧ SZr (vw 10 σ' 41) ∧ σ' 62 2 = 0 ∧ σ' 2 1 = 0 ∧ ∀ x k, ¬ (30 ≤ x ∧ x ≤ 51) → x ≠ 56 → x ≠ 57 → ¬ (x = 284 ∧ (k = 3 ∨ k = 4)) → ¬ (x = 62 ∧ k = 2) → ¬ (x = 2 ∧ k = 1) → σ' x k = σ x k))) = Q
  have hAZ := hAR.1
  have ha : (30 : Int) ∈ stL := by decide
  have e30_q : σ 30 = S 0 := st_e0 hS
  have e31_q : σ 31 = S 1 := st_e (f := 1) hS (by omega)
  have e32_q : σ 32 = S 2 := st_e (f := 2) hS (by omega)
  have e33_q : σ 33 = S 3 := st_e (f := 3) hS (by omega)
  have e34_q : σ 34 = S 4 := st_e (f := 4) hS (by omega)
  have e35_q : σ 35 = S 5 := st_e (f := 5) hS (by omega)
  have e36_q : σ 36 = S 6 := st_e (f := 6) hS (by omega)
  have e37_q : σ 37 = S 7 := st_e (f := 7) hS (by omega)
  have e38_q : σ 38 = S 8 := st_e (f := 8) hS (by omega)
  have e39_q : σ 39 = S 9 := st_e (f := 9) hS (by omega)
  have e40_q : σ 40 = S 10 := st_e (f := 10) hS (by omega)
  have ew0_q : σ w = Wm 0 := st_e0 hW
  have ew1_q : σ (w + 1) = Wm 1 := st_e (f := 1) hW (by omega)
  have ew2_q : σ (w + 2) = Wm 2 := st_e (f := 2) hW (by omega)
  have ew3_q : σ (w + 3) = Wm 3 := st_e (f := 3) hW (by omega)
  have ew4_q : σ (w + 4) = Wm 4 := st_e (f := 4) hW (by omega)
  have ew5_q : σ (w + 5) = Wm 5 := st_e (f := 5) hW (by omega)
  have ew6_q : σ (w + 6) = Wm 6 := st_e (f := 6) hW (by omega)
  have ew7_q : σ (w + 7) = Wm 7 := st_e (f := 7) hW (by omega)
  have ew8_q : σ (w + 8) = Wm 8 := st_e (f := 8) hW (by omega)
  have ew9_q : σ (w + 9) = Wm 9 := st_e (f := 9) hW (by omega)
  have ew10_q : σ (w + 10) = Wm 10 := st_e (f := 10) hW (by omega)
  have ew11_q : σ (w + 11) = Wm 11 := st_e (f := 11) hW (by omega)
  have ew12_q : σ (w + 12) = Wm 12 := st_e (f := 12) hW (by omega)
  have hSI0 := hSI
  have hWI0 := hWI
  obtain ⟨b0_q, b11_q, b12_q, bc, bm, bl, br⟩ := hSI
  obtain ⟨w1_q, w2_q, w3_q, w4_q, w5_q, w6_q, w7_q, w8_q, w9_q, w10_q⟩ := hWI
  have hfar := wr_far hw
  have SZr1 : SZr (rdA (tA σ) Wm (sttF Wm A)) := ⟨SZ_rdA (T := tA σ) (Wm := Wm) (SZ_stt (Wm := Wm) hAZ) w1_q w3_q, rb_rdA hAR.2⟩
  have SZ1 := SZr1.1
  refine zaload_n (k := 0) rfl rfl ?_
  refine zgF 7 (k := 1) rfl ob_1 fl_11_33 rfl fx_1_7 ?_
  refine zaload_n (k := 2) rfl rfl ?_
  refine zgR 8 (k := 3) rfl ob_1 fl_11_19 rfl fx_1_8 ?_
  first | rw [h81_q] | rw [h8_q] | rw [h0_q.2 1 8 (by omega) (by omega) (by omega), h8_q]
  refine zpV0 (k := 4) rfl (k_start hw hW hA hAZ) fm_State_start lk_11_120 rfl rfl ob_41 ⟨_, rfl, rfl⟩ (Nat.le_of_ble_eq_true rfl) (by decide) ⟨by decide, by decide⟩ (fun σ1 g0_q => ?_)
  have h81_q : σ1 1 8 = w := by rw [g0_q.2 1 8 (by omega) (by omega) (by omega)]; exact h8_q
  have hW1 : vw 12 σ1 w = Wm := by rw [← hW]; exact vw_eq (fun x k q1_q q2_q => g0_q.2 x k (by omega) (by omega) (by omega)) (by omega)
  have e21_q : σ1 2 1 = σ 2 1 := g0_q.2 2 1 (by omega) (by omega) (by omega)
  have eT1 : tA σ1 = tA σ := by funext k; unfold tA; rw [e21_q, g0_q.2 3 k (by omega) (by omega) (by omega)]
  refine zaload_n (k := 5) rfl rfl ?_
  refine zgF 5 (k := 6) rfl ob_1 fl_11_73 rfl fx_1_5 ?_
  refine zaload_n (k := 7) rfl rfl ?_
  refine zgR 8 (k := 8) rfl ob_1 fl_11_19 rfl fx_1_8 ?_
  first | rw [h81_q] | rw [h8_q] | rw [h0_q.2 1 8 (by omega) (by omega) (by omega), h8_q]
  refine zaload_n (k := 9) rfl rfl ?_
  refine zgF 7 (k := 10) rfl ob_1 fl_11_33 rfl fx_1_7 ?_
  refine zpVI (k := 11) rfl (c_Image_read g0_q.1 (by rw [e21_q]; exact ht) (fun k q1_q q2_q => by rw [e21_q] at q2_q; rw [g0_q.2 3 k (by omega) (by omega) (by omega)]; exact hTT k q1_q q2_q) hw hW1 hWI0) fm_Image_read lk_11_299 rfl rfl ob_284 ⟨_, rfl, rfl⟩ (Nat.le_of_ble_eq_true rfl) (by decide) ⟨by decide, by decide⟩ (fun z σ2 g1_q => ?_)
  rw [eT1, e21_q] at g1_q
  obtain ⟨gz, gi, gv, gf⟩ := g1_q
  have gof : onf σ σ2 := fun x k q1_q q2_q q3_q q4_q => by rw [gf x k q1_q q2_q q3_q q4_q]; exact g0_q.2 x k q1_q q2_q q3_q
  refine zistore_n (k := 12) (ls' := [_, _]) rfl (Nat.le_of_ble_eq_true rfl) rfl ?_
  refine zaload_n (k := 13) rfl rfl ?_
  refine zgF 0 (k := 14) rfl ob_1 fl_11_10 rfl fx_1_0 ?_
  refine ziconst (k := 15) rfl (by decide) ?_
  refine zpI 1 (k := 16) rfl ob_2 fl_11_111 ⟨_, rfl, rfl⟩ rfl (by omega) rfl fx_2_1 ?_
  refine ziload_n (k := 17) rfl rfl ?_
  refine zif_ne (k := 18) rfl rfl (fun c1_q => ?_) (fun c1_q => ?_)
  · skip
    refine zaload_n (k := 24) rfl rfl ?_
    refine zgF 6 (k := 25) rfl ob_1 fl_11_29 rfl fx_1_6 ?_
    refine zaload_n (k := 26) rfl rfl ?_
    refine zgF 7 (k := 27) rfl ob_1 fl_11_33 rfl fx_1_7 ?_
    refine zpV0 (k := 28) rfl (k_copy (S := rdA (tA σ) Wm (sttF Wm A)) (by decide) (by decide) (by decide) (by rw [show vw 10 (zup σ2 2 1 0) 30 = S by rw [← hS]; exact vw_eq (fun x k q1_q q2_q => by rw [zup_n (by omega)]; exact gof x k (by omega) (by omega) (by omega) (by omega)) (by omega)]; exact hZ) (by rw [← gv]; exact vw_eq (fun x k q1_q q2_q => zup_n (by omega)) (by omega)) SZ1) fm_State_copy lk_11_216 rfl rfl ob_30 ⟨_, rfl, rfl⟩ (Nat.le_of_ble_eq_true rfl) (by decide) ⟨by decide, by decide⟩ (fun σ3 g2_q => ?_)
    refine zaload_n (k := 29) rfl rfl ?_
    refine zgF 4 (k := 30) rfl ob_1 fl_11_64 rfl fx_1_4 ?_
    refine zfV0 (k := 31) rfl c_Acts_forget fm_Acts_forget lk_11_124 rfl rfl ob_62 ⟨_, rfl, rfl⟩ (Nat.le_of_ble_eq_true rfl) (by decide) ⟨by decide, by decide⟩ ?_
    refine ziconst (k := 32) rfl (by decide) ?_
    refine zzreturn (k := 33) rfl rfl (by first | exact Or.inl rfl | exact Or.inr rfl | omega) rfl ?_
    rw [← hQ]
    refine ⟨rfl, _, rfl, Or.inr ⟨gi.mp (by omega), rfl, ?_, ?_, zup_s _ _ _ _, ?_, fun x k q1_q q2_q q3_q q4_q q5_q q6_q => ?_⟩⟩
    · rw [← g2_q.1]; exact vw_eq (fun x k q1_q q2_q => zup_n (by omega)) (by omega)
    · rw [show vw 10 (zup σ3 62 2 0) 41 = rdA (tA σ) Wm (sttF Wm A) by rw [← gv]; exact vw_eq (fun x k q1_q q2_q => by rw [zup_n (by omega), g2_q.2 x k (by omega) (by omega) (by omega), zup_n (by omega)]) (by omega)]
      exact SZr1
    · rw [zup_n (by omega), g2_q.2 2 1 (by omega) (by omega) (by omega), zup_s]
    · rw [zup_n (by omega), g2_q.2 x k (by omega) q2_q q3_q, zup_n (by omega)]; exact gof x k (by omega) q2_q q3_q q4_q
  · skip
    refine zaload_n (k := 19) rfl rfl ?_
    refine ziconst (k := 20) rfl (by decide) ?_
    refine zfV0 (k := 21) rfl (c_NT_refuse (by omega)) fm_NT_refuse lk_11_104 rfl rfl ob_1 ⟨_, rfl, rfl⟩ (Nat.le_of_ble_eq_true rfl) (by decide) ⟨by decide, by decide⟩ ?_
    refine ziconst (k := 22) rfl (by decide) ?_
    refine zzreturn (k := 23) rfl rfl (by first | exact Or.inl rfl | exact Or.inr rfl | omega) rfl ?_
    rw [← hQ]
    refine ⟨rfl, _, rfl, Or.inl ⟨fun q => by have := gi.mpr q; omega, rfl, σ2, gof, by rw [gv]; exact SZr1, rfl⟩⟩
