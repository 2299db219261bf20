theorem k_start {Γ : zv_M} {L : Int} {σ Wm S : zv_H} {w : Int} (hw : w ∈ wrL) (hW : vw 12 σ w = Wm) (hS : vw 10 σ 41 = S) (hZ : SZ S) : zC Γ m_State_start 1 0 0 (GM L) [zR 41, zR w] σ (zP0 (GM L) (fun σ' => stp σ σ' 41 (sttF Wm S))) := by
  refine zC_mono (fun q G' σ' hq => ?_) (c_State_start (by decide) hw)
  obtain ⟨rfl, rfl, rfl⟩ := hq
  exact ⟨rfl, rfl, vw_stt hw hW hS hZ, fun x k q1 q2 q3 => zstt_o (by omega) k⟩
/-- what on() may change when it is refused, tape and refusals aside -/
def onf (σ σ' : zv_H) : Prop := ∀ x k, ¬ (41 ≤ x ∧ x ≤ 51) → x ≠ 56 → x ≠ 57 → ¬ (x = 284 ∧ (k = 3 ∨ k = 4)) → σ' x k = σ x k
set_option maxHeartbeats 4000000 in
set_option maxRecDepth 20000 in
theorem c_NT_on {Γ : zv_M} {L : Int} {w : Int} {σ S Wm : zv_H} (h8 : σ 1 8 = w) (hw : w ∈ wrL) (hW : vw 12 σ w = Wm) (hS : vw 10 σ 30 = S) (hSI : SI (Wm 0 1) (Wm 0 3) S) (hWI : WI Wm) (hZ : SZ S) {A : zv_H} (hA : vw 10 σ 41 = A) (hAZ : SZ A) (ht : 0 ≤ σ 2 1 ∧ σ 2 1 ≤ 1600) (hTT : ∀ k, 0 ≤ k → k < σ 2 1 → 0 ≤ σ 3 k ∧ σ 3 k ≤ 255)  : zC Γ m_NT_on 6 0 0 (GM L) [zR 1] σ (zPI (GM L) (fun z σ' => (¬ okA (tA σ) Wm (σ 2 1) ∧ z = 0 ∧ ∃ σ1, onf σ σ1 ∧ SZ (vw 10 σ1 41) ∧ σ' = rfu (zup σ1 2 1 0) 5) ∨ (okA (tA σ) Wm (σ 2 1) ∧ z = 1 ∧ vw 10 σ' 30 = rdA (tA σ) Wm (sttF Wm A) ∧ SZ (vw 10 σ' 41) ∧ σ' 62 2 = 0 ∧ σ' 2 1 = 0 ∧ ∀ x k, ¬ (30 ≤ x ∧ x ≤ 51) → x ≠ 56 → x ≠ 57 → ¬ (x = 284 ∧ (k = 3 ∨ k = 4)) → ¬ (x = 62 ∧ k = 2) → ¬ (x = 2 ∧ k = 1) → σ' x k = σ x k))) := by
  refine zC_of (ls0 := [_, _]) zm_NT_on (by decide) rfl (Nat.le_of_ble_eq_true rfl) ?_
  generalize hQ : (zPI (GM L) (fun z σ' => (¬ okA (tA σ) Wm (σ 2 1) ∧ z = 0 ∧ ∃ σ1, onf σ σ1 ∧ SZ (vw 10 σ1 41) ∧ σ' = rfu (zup σ1 2 1 0) 5) ∨ (okA (tA σ) Wm (σ 2 1) ∧ z = 1 ∧ vw 10 σ' 30 = rdA (tA σ) Wm (sttF Wm A) ∧ SZ (vw 10 σ' 41) ∧ σ' 62 2 = 0 ∧ σ' 2 1 = 0 ∧ ∀ x k, ¬ (30 ≤ x ∧ x ≤ 51) → x ≠ 56 → x ≠ 57 → ¬ (x = 284 ∧ (k = 3 ∨ k = 4)) → ¬ (x = 62 ∧ k = 2) → ¬ (x = 2 ∧ k = 1) → σ' x k = σ x k))) = Q
  have ha : (30 : Int) ∈ stL := by decide
  have e30 : σ 30 = S 0 := st_e0 hS
  have e31 : σ 31 = S 1 := st_e (f := 1) hS (by omega)
  have e32 : σ 32 = S 2 := st_e (f := 2) hS (by omega)
  have e33 : σ 33 = S 3 := st_e (f := 3) hS (by omega)
  have e34 : σ 34 = S 4 := st_e (f := 4) hS (by omega)
  have e35 : σ 35 = S 5 := st_e (f := 5) hS (by omega)
  have e36 : σ 36 = S 6 := st_e (f := 6) hS (by omega)
  have e37 : σ 37 = S 7 := st_e (f := 7) hS (by omega)
  have e38 : σ 38 = S 8 := st_e (f := 8) hS (by omega)
  have e39 : σ 39 = S 9 := st_e (f := 9) hS (by omega)
  have e40 : σ 40 = S 10 := st_e (f := 10) hS (by omega)
  have ew0 : σ w = Wm 0 := st_e0 hW
  have ew1 : σ (w + 1) = Wm 1 := st_e (f := 1) hW (by omega)
  have ew2 : σ (w + 2) = Wm 2 := st_e (f := 2) hW (by omega)
  have ew3 : σ (w + 3) = Wm 3 := st_e (f := 3) hW (by omega)
  have ew4 : σ (w + 4) = Wm 4 := st_e (f := 4) hW (by omega)
  have ew5 : σ (w + 5) = Wm 5 := st_e (f := 5) hW (by omega)
  have ew6 : σ (w + 6) = Wm 6 := st_e (f := 6) hW (by omega)
  have ew7 : σ (w + 7) = Wm 7 := st_e (f := 7) hW (by omega)
  have ew8 : σ (w + 8) = Wm 8 := st_e (f := 8) hW (by omega)
  have ew9 : σ (w + 9) = Wm 9 := st_e (f := 9) hW (by omega)
  have ew10 : σ (w + 10) = Wm 10 := st_e (f := 10) hW (by omega)
  have ew11 : σ (w + 11) = Wm 11 := st_e (f := 11) hW (by omega)
  have ew12 : σ (w + 12) = Wm 12 := st_e (f := 12) hW (by omega)
  have hSI0 := hSI
  have hWI0 := hWI
  obtain ⟨b0, b11, b12, bc, bm, bl, br⟩ := hSI
  obtain ⟨w1, w2, w3, w4, w5, w6, w7, w8, w9, w10⟩ := hWI
  have hfar := wr_far hw
  have SZ1 := SZ_rdA (T := tA σ) (Wm := Wm) (SZ_stt (Wm := Wm) hAZ) w1 w3
  refine zaload_n (k := 0) rfl rfl ?_
  refine zgF 7 (k := 1) rfl ob_1 fl_11_33 rfl fx_1_7 ?_
  refine zaload_n (k := 2) rfl rfl ?_
  refine zgR 8 (k := 3) rfl ob_1 fl_11_19 rfl fx_1_8 ?_
  first | rw [h81] | rw [h8] | rw [h0.2 1 8 (by omega) (by omega) (by omega), h8]
  refine zpV0 (k := 4) rfl (k_start hw hW hA hAZ) fm_State_start lk_11_120 rfl rfl ob_41 ⟨_, rfl, rfl⟩ (Nat.le_of_ble_eq_true rfl) (by decide) ⟨by decide, by decide⟩ (fun σ1 g0 => ?_)
  have h81 : σ1 1 8 = w := by rw [g0.2 1 8 (by omega) (by omega) (by omega)]; exact h8
  have hW1 : vw 12 σ1 w = Wm := by rw [← hW]; exact vw_eq (fun x k q1 q2 => g0.2 x k (by omega) (by omega) (by omega)) (by omega)
  have e21 : σ1 2 1 = σ 2 1 := g0.2 2 1 (by omega) (by omega) (by omega)
  have eT1 : tA σ1 = tA σ := by funext k; unfold tA; rw [e21, g0.2 3 k (by omega) (by omega) (by omega)]
  refine zaload_n (k := 5) rfl rfl ?_
  refine zgF 5 (k := 6) rfl ob_1 fl_11_73 rfl fx_1_5 ?_
  refine zaload_n (k := 7) rfl rfl ?_
  refine zgR 8 (k := 8) rfl ob_1 fl_11_19 rfl fx_1_8 ?_
  first | rw [h81] | rw [h8] | rw [h0.2 1 8 (by omega) (by omega) (by omega), h8]
  refine zaload_n (k := 9) rfl rfl ?_
  refine zgF 7 (k := 10) rfl ob_1 fl_11_33 rfl fx_1_7 ?_
  refine zpVI (k := 11) rfl (c_Image_read g0.1 (by rw [e21]; exact ht) (fun k q1 q2 => by rw [e21] at q2; rw [g0.2 3 k (by omega) (by omega) (by omega)]; exact hTT k q1 q2) hw hW1 hWI0) fm_Image_read lk_11_299 rfl rfl ob_284 ⟨_, rfl, rfl⟩ (Nat.le_of_ble_eq_true rfl) (by decide) ⟨by decide, by decide⟩ (fun z σ2 g1 => ?_)
  rw [eT1, e21] at g1
  obtain ⟨gz, gi, gv, gf⟩ := g1
  have gof : onf σ σ2 := fun x k q1 q2 q3 q4 => by rw [gf x k q1 q2 q3 q4]; exact g0.2 x k q1 q2 q3
  refine zistore_n (k := 12) (ls' := [_, _]) rfl (Nat.le_of_ble_eq_true rfl) rfl ?_
  refine zaload_n (k := 13) rfl rfl ?_
  refine zgF 0 (k := 14) rfl ob_1 fl_11_10 rfl fx_1_0 ?_
  refine ziconst (k := 15) rfl (by decide) ?_
  refine zpI 1 (k := 16) rfl ob_2 fl_11_111 ⟨_, rfl, rfl⟩ rfl (by omega) rfl fx_2_1 ?_
  refine ziload_n (k := 17) rfl rfl ?_
  refine zif_ne (k := 18) rfl rfl (fun c1 => ?_) (fun c1 => ?_)
  · skip
    refine zaload_n (k := 24) rfl rfl ?_
    refine zgF 6 (k := 25) rfl ob_1 fl_11_29 rfl fx_1_6 ?_
    refine zaload_n (k := 26) rfl rfl ?_
    refine zgF 7 (k := 27) rfl ob_1 fl_11_33 rfl fx_1_7 ?_
    refine zpV0 (k := 28) rfl (k_copy (S := rdA (tA σ) Wm (sttF Wm A)) (by decide) (by decide) (by decide) (by rw [show vw 10 (zup σ2 2 1 0) 30 = S by rw [← hS]; exact vw_eq (fun x k q1 q2 => by rw [zup_n (by omega)]; exact gof x k (by omega) (by omega) (by omega) (by omega)) (by omega)]; exact hZ) (by rw [← gv]; exact vw_eq (fun x k q1 q2 => zup_n (by omega)) (by omega)) SZ1) fm_State_copy lk_11_216 rfl rfl ob_30 ⟨_, rfl, rfl⟩ (Nat.le_of_ble_eq_true rfl) (by decide) ⟨by decide, by decide⟩ (fun σ3 g2 => ?_)
    refine zaload_n (k := 29) rfl rfl ?_
    refine zgF 4 (k := 30) rfl ob_1 fl_11_64 rfl fx_1_4 ?_
    refine zfV0 (k := 31) rfl c_Acts_forget fm_Acts_forget lk_11_124 rfl rfl ob_62 ⟨_, rfl, rfl⟩ (Nat.le_of_ble_eq_true rfl) (by decide) ⟨by decide, by decide⟩ ?_
    refine ziconst (k := 32) rfl (by decide) ?_
    refine zzreturn (k := 33) rfl rfl (by first | exact Or.inl rfl | exact Or.inr rfl | omega) rfl ?_
    rw [← hQ]
    refine ⟨rfl, _, rfl, Or.inr ⟨gi.mp (by omega), rfl, ?_, ?_, zup_s _ _ _ _, ?_, fun x k q1 q2 q3 q4 q5 q6 => ?_⟩⟩
    · rw [← g2.1]; exact vw_eq (fun x k q1 q2 => zup_n (by omega)) (by omega)
    · rw [show vw 10 (zup σ3 62 2 0) 41 = rdA (tA σ) Wm (sttF Wm A) by rw [← gv]; exact vw_eq (fun x k q1 q2 => by rw [zup_n (by omega), g2.2 x k (by omega) (by omega) (by omega), zup_n (by omega)]) (by omega)]
      exact SZ1
    · rw [zup_n (by omega), g2.2 2 1 (by omega) (by omega) (by omega), zup_s]
    · rw [zup_n (by omega), g2.2 x k (by omega) q2 q3, zup_n (by omega)]; exact gof x k (by omega) q2 q3 q4
  · skip
    refine zaload_n (k := 19) rfl rfl ?_
    refine ziconst (k := 20) rfl (by decide) ?_
    refine zfV0 (k := 21) rfl (c_NT_refuse (by omega)) fm_NT_refuse lk_11_104 rfl rfl ob_1 ⟨_, rfl, rfl⟩ (Nat.le_of_ble_eq_true rfl) (by decide) ⟨by decide, by decide⟩ ?_
    refine ziconst (k := 22) rfl (by decide) ?_
    refine zzreturn (k := 23) rfl rfl (by first | exact Or.inl rfl | exact Or.inr rfl | omega) rfl ?_
    rw [← hQ]
    refine ⟨rfl, _, rfl, Or.inl ⟨fun q => by have := gi.mpr q; omega, rfl, σ2, gof, by rw [gv]; exact SZ1, rfl⟩⟩
