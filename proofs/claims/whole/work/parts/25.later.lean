/-- what questions about times ahead may change -/
def scr (σ σ' : zv_H) : Prop := ∀ x k, ¬ (41 ≤ x ∧ x ≤ 51) → ¬ (56 ≤ x ∧ x ≤ 61) → σ' x k = σ x k
theorem scr_st {σ σ' S' : zv_H} (h : stp σ σ' 41 S') : scr σ σ' := fun x k h1 h2 => h.2 x k (by omega) (by omega) (by omega)
theorem scr_rf (σ : zv_H) : scr σ σ := fun _ _ _ _ => rfl
theorem scr_tr {σ σ1 σ2 : zv_H} (h1 : scr σ σ1) (h2 : scr σ1 σ2) : scr σ σ2 := fun x k q1 q2 => by rw [h2 x k q1 q2]; exact h1 x k q1 q2
theorem k_copy {Γ : zv_M} {L : Int} {σ : zv_H} {a b : Int} {S : zv_H} (ha : a ∈ stL) (hb : b ∈ stL) (hab : a ≠ b) (h1 : SZ (vw 10 σ a)) (hS : vw 10 σ b = S) (hZ : SZ S) : zC Γ m_State_copy 1 0 0 (GM L) [zR a, zR b] σ (zP0 (GM L) (fun σ' => stp σ σ' a S)) := by
  refine zC_mono (fun q G' σ' hq => ?_) (c_State_copy ha hb hab)
  obtain ⟨rfl, rfl, rfl⟩ := hq
  refine ⟨rfl, rfl, ?_⟩
  have h := stp_cop ha hb hab h1 (by rw [hS]; exact hZ)
  rw [hS] at h
  exact h
def fnd (p : Nat → Bool) : Nat → Nat → Int
  | 0, _ => -1
  | g + 1, j => if p j = true then (j : Int) else fnd p g (j + 1)
theorem fnd_s (p : Nat → Bool) (g j : Nat) : fnd p (g + 1) j = if p j = true then (j : Int) else fnd p g (j + 1) := rfl
def aheadN (S : zv_H) : Nat := (min 80 (999 - S 0 0)).toNat
def latQ (Wm S : zv_H) (m n t : Int) : Int := if ¬ ((0 ≤ m ∧ m < Wm 0 3) ∧ (0 ≤ n ∧ n ≤ min 80 (999 - S 0 0)) ∧ (0 ≤ t ∧ t ≤ 3)) then -1 else if t = 0 then (gooF Wm S n.toNat).1 5 m else if t = 1 then (gooF Wm S n.toNat).1 4 m else if t = 2 then (gooF Wm S n.toNat).1 7 m else (gooF Wm S n.toNat).1 8 m
def cauQ (Wm S : zv_H) (m : Int) : Int := if ¬ (0 ≤ m ∧ m < Wm 0 3) then -1 else fnd (fun j => decide ((gooF Wm S j).1 5 m = 3)) (aheadN S + 1) 0
theorem st_30 {σ σ1 S2 : zv_H} (h : stp σ σ1 41 S2) : vw 10 σ1 30 = vw 10 σ 30 := vw_eq (fun x k h1 h2 => h.2 x k (by omega) (by omega) (by omega)) (by omega)
theorem goo_1 (Wm S : zv_H) (j : Nat) : (gooF Wm (gooF Wm S j).1 1).1 = (gooF Wm S (j + 1)).1 := rfl
set_option maxHeartbeats 4000000 in
set_option maxRecDepth 20000 in
theorem c_NT_later {Γ : zv_M} {L : Int} {w : Int} {σ S Wm : zv_H} (h8 : σ 1 8 = w) (hw : w ∈ wrL) (hW : vw 12 σ w = Wm) (hS : vw 10 σ 30 = S) (hSI : SI (Wm 0 1) (Wm 0 3) S) (hWI : WI Wm) (hZ : SZ S) (hAZ : SZ (vw 10 σ 41)) {m n t : Int} : zC Γ m_NT_later 8 0 0 (GM L) [zR 1, zI m, zI n, zI t] σ (zPI (GM L) (fun z σ' => z = latQ Wm S m n t ∧ scr σ σ' ∧ SZ (vw 10 σ' 41))) := by
  refine zC_of (ls0 := [_, _, _, _]) zm_NT_later (by decide) rfl (Nat.le_of_ble_eq_true rfl) ?_
  generalize hQ : (zPI (GM L) (fun z σ' => z = latQ Wm S m n t ∧ scr σ σ' ∧ SZ (vw 10 σ' 41))) = Q
  have ha : (30 : Int) ∈ stL := by decide
  have e30 : σ 30 = S 0 := st_e0 hS
  have e31 : σ 31 = S 1 := st_e (f := 1) hS (by omega)
  have e32 : σ 32 = S 2 := st_e (f := 2) hS (by omega)
  have e33 : σ 33 = S 3 := st_e (f := 3) hS (by omega)
  have e34 : σ 34 = S 4 := st_e (f := 4) hS (by omega)
  have e35 : σ 35 = S 5 := st_e (f := 5) hS (by omega)
  have e36 : σ 36 = S 6 := st_e (f := 6) hS (by omega)
  have e37 : σ 37 = S 7 := st_e (f := 7) hS (by omega)
  have e38 : σ 38 = S 8 := st_e (f := 8) hS (by omega)
  have e39 : σ 39 = S 9 := st_e (f := 9) hS (by omega)
  have e40 : σ 40 = S 10 := st_e (f := 10) hS (by omega)
  have ew0 : σ w = Wm 0 := st_e0 hW
  have ew1 : σ (w + 1) = Wm 1 := st_e (f := 1) hW (by omega)
  have ew2 : σ (w + 2) = Wm 2 := st_e (f := 2) hW (by omega)
  have ew3 : σ (w + 3) = Wm 3 := st_e (f := 3) hW (by omega)
  have ew4 : σ (w + 4) = Wm 4 := st_e (f := 4) hW (by omega)
  have ew5 : σ (w + 5) = Wm 5 := st_e (f := 5) hW (by omega)
  have ew6 : σ (w + 6) = Wm 6 := st_e (f := 6) hW (by omega)
  have ew7 : σ (w + 7) = Wm 7 := st_e (f := 7) hW (by omega)
  have ew8 : σ (w + 8) = Wm 8 := st_e (f := 8) hW (by omega)
  have ew9 : σ (w + 9) = Wm 9 := st_e (f := 9) hW (by omega)
  have ew10 : σ (w + 10) = Wm 10 := st_e (f := 10) hW (by omega)
  have ew11 : σ (w + 11) = Wm 11 := st_e (f := 11) hW (by omega)
  have ew12 : σ (w + 12) = Wm 12 := st_e (f := 12) hW (by omega)
  have hSI0 := hSI
  have hWI0 := hWI
  obtain ⟨b0, b11, b12, bc, bm, bl, br⟩ := hSI
  obtain ⟨w1, w2, w3, w4, w5, w6, w7, w8, w9, w10⟩ := hWI
  have ha1 : (41 : Int) ∈ stL := by decide
  refine zaload_n (k := 0) rfl rfl ?_
  refine zgR 8 (k := 1) rfl ob_1 fl_11_19 rfl fx_1_8 ?_
  first | rw [h8] | rw [h0.2 1 8 (by omega) (by omega) (by omega), h8]
  refine ziload_n (k := 2) rfl rfl ?_
  refine zfV1 (k := 3) rfl (c_War_hasMan hw) fm_War_hasMan lk_11_181 rfl rfl (wr_ob hw) ⟨_, rfl, rfl⟩ (Nat.le_of_ble_eq_true rfl) (by decide) ⟨by decide, by decide⟩ ?_
  try simp only [e30, e31, e32, e33, e34, e35, e36, e37, e38, e39, e40, ew0, ew1, ew2, ew3, ew4, ew5, ew6, ew7, ew8, ew9, ew10, ew11, ew12]
  refine zif_eq (k := 4) rfl rfl (fun c1 => ?_) (fun c1 => ?_)
  · skip
    refine ziconst (k := 16) rfl (by decide) ?_
    refine zireturn (k := 17) rfl rfl rfl ?_
    rw [← hQ]
    exact ⟨rfl, _, rfl, by unfold latQ; rw [if_pos (by (try split at c1) <;> omega)], scr_rf σ, hAZ⟩
  · skip
    refine ziload_n (k := 5) rfl rfl ?_
    refine zif_lt (k := 6) rfl rfl (fun c2 => ?_) (fun c2 => ?_)
    · skip
      refine ziconst (k := 16) rfl (by decide) ?_
      refine zireturn (k := 17) rfl rfl rfl ?_
      rw [← hQ]
      exact ⟨rfl, _, rfl, by unfold latQ; rw [if_pos (by (try split at c1) <;> omega)], scr_rf σ, hAZ⟩
    · skip
      refine ziload_n (k := 7) rfl rfl ?_
      refine zaload_n (k := 8) rfl rfl ?_
      refine zfV1 (k := 9) rfl (c_NT_weeksAhead h8 hw hW hS hSI0 hWI0) fm_NT_weeksAhead lk_11_212 rfl rfl ob_1 ⟨_, rfl, rfl⟩ (Nat.le_of_ble_eq_true rfl) (by decide) ⟨by decide, by decide⟩ ?_
      refine zicmp_gt (k := 10) rfl rfl (fun c3 => ?_) (fun c3 => ?_)
      · skip
        refine ziconst (k := 16) rfl (by decide) ?_
        refine zireturn (k := 17) rfl rfl rfl ?_
        rw [← hQ]
        exact ⟨rfl, _, rfl, by unfold latQ; rw [if_pos (by (try split at c1) <;> omega)], scr_rf σ, hAZ⟩
      · skip
        refine ziload_n (k := 11) rfl rfl ?_
        refine zif_lt (k := 12) rfl rfl (fun c4 => ?_) (fun c4 => ?_)
        · skip
          refine ziconst (k := 16) rfl (by decide) ?_
          refine zireturn (k := 17) rfl rfl rfl ?_
          rw [← hQ]
          exact ⟨rfl, _, rfl, by unfold latQ; rw [if_pos (by (try split at c1) <;> omega)], scr_rf σ, hAZ⟩
        · skip
          refine ziload_n (k := 13) rfl rfl ?_
          refine ziconst (k := 14) rfl (by decide) ?_
          refine zicmp_le (k := 15) rfl rfl (fun c5 => ?_) (fun c5 => ?_)
          · skip
            have hmm : 0 ≤ m ∧ m < Wm 0 3 := by split at c1 <;> first | assumption | (exfalso; omega)
            obtain ⟨N, rfl⟩ : ∃ N : Nat, n = N := ⟨n.toNat, by omega⟩
            refine zaload_n (k := 18) rfl rfl ?_
            refine zgF 7 (k := 19) rfl ob_1 fl_11_33 rfl fx_1_7 ?_
            refine zaload_n (k := 20) rfl rfl ?_
            refine zgF 6 (k := 21) rfl ob_1 fl_11_29 rfl fx_1_6 ?_
            refine zpV0 (k := 22) rfl (k_copy (by decide) ha (by decide) hAZ hS hZ) fm_State_copy lk_11_216 rfl rfl ob_41 ⟨_, rfl, rfl⟩ (Nat.le_of_ble_eq_true rfl) (by decide) ⟨by decide, by decide⟩ (fun σ1 h0 => ?_)
            refine zaload_n (k := 23) rfl rfl ?_
            refine zgF 2 (k := 24) rfl ob_1 fl_11_48 rfl fx_1_2 ?_
            refine zaload_n (k := 25) rfl rfl ?_
            refine zgR 8 (k := 26) rfl ob_1 fl_11_19 rfl fx_1_8 ?_
            first | rw [h8] | rw [h0.2 1 8 (by omega) (by omega) (by omega), h8]
            refine zaload_n (k := 27) rfl rfl ?_
            refine zgF 7 (k := 28) rfl ob_1 fl_11_33 rfl fx_1_7 ?_
            refine ziload_n (k := 29) rfl rfl ?_
            refine zpVI (k := 30) rfl (c_March_go ha1 hw h0 hW hSI0 hWI0 N (by omega)) fm_March_go lk_11_220 rfl rfl ob_55 ⟨_, rfl, rfl⟩ (Nat.le_of_ble_eq_true rfl) (by decide) ⟨by decide, by decide⟩ (fun z σ2 h2 => ?_)
            clear h0
            have h0 := h2.2
            have e42 : σ2 42 = (gooF Wm S N).1 1 := st_e (f := 1) h0.1 (by omega)
            have e45 : σ2 45 = (gooF Wm S N).1 4 := st_e (f := 4) h0.1 (by omega)
            have e46 : σ2 46 = (gooF Wm S N).1 5 := st_e (f := 5) h0.1 (by omega)
            have e48 : σ2 48 = (gooF Wm S N).1 7 := st_e (f := 7) h0.1 (by omega)
            have e49 : σ2 49 = (gooF Wm S N).1 8 := st_e (f := 8) h0.1 (by omega)
            refine zpop (k := 31) rfl rfl ?_
            refine ziload_n (k := 32) rfl rfl ?_
            refine ztabC (k := 33) (v := 0) 0 rfl rfl (by decide) rfl rfl (fun c6 => ?_) (fun c6 => ?_)
            · skip
              refine zaload_n (k := 34) rfl rfl ?_
              refine zgF 7 (k := 35) rfl ob_1 fl_11_33 rfl fx_1_7 ?_
              refine zgF 5 (k := 36) rfl ob_41 fl_11_149 rfl fx_41_5 ?_
              refine ziload_n (k := 37) rfl rfl ?_
              refine zfS1 (k := 38) rfl (c_NT_at ar_46) fm_NT_at lk_11_174 rfl rfl (Nat.le_of_ble_eq_true rfl) (by decide) ⟨by decide, by decide⟩ ?_
              rw [zat_in (by omega), e46]
              refine zireturn (k := 39) rfl rfl rfl ?_
              rw [← hQ]
              refine ⟨rfl, _, rfl, ?_, scr_st h0, by rw [h0.1]; exact SZ_goo hWI0 hSI0 hZ _⟩
              unfold latQ
              first
              | (rw [if_neg (by omega), if_pos (by omega)]; rfl)
              | (rw [if_neg (by omega), if_neg (by omega), if_pos (by omega)]; rfl)
              | (rw [if_neg (by omega), if_neg (by omega), if_neg (by omega), if_pos (by omega)]; rfl)
              | (rw [if_neg (by omega), if_neg (by omega), if_neg (by omega), if_neg (by omega)]; rfl)
            refine ztabC (k := 33) (v := 1) 1 rfl rfl (by decide) rfl rfl (fun c7 => ?_) (fun c7 => ?_)
            · skip
              refine zaload_n (k := 40) rfl rfl ?_
              refine zgF 7 (k := 41) rfl ob_1 fl_11_33 rfl fx_1_7 ?_
              refine zgF 4 (k := 42) rfl ob_41 fl_11_200 rfl fx_41_4 ?_
              refine ziload_n (k := 43) rfl rfl ?_
              refine zfS1 (k := 44) rfl (c_NT_at ar_45) fm_NT_at lk_11_174 rfl rfl (Nat.le_of_ble_eq_true rfl) (by decide) ⟨by decide, by decide⟩ ?_
              rw [zat_in (by omega), e45]
              refine zireturn (k := 45) rfl rfl rfl ?_
              rw [← hQ]
              refine ⟨rfl, _, rfl, ?_, scr_st h0, by rw [h0.1]; exact SZ_goo hWI0 hSI0 hZ _⟩
              unfold latQ
              first
              | (rw [if_neg (by omega), if_pos (by omega)]; rfl)
              | (rw [if_neg (by omega), if_neg (by omega), if_pos (by omega)]; rfl)
              | (rw [if_neg (by omega), if_neg (by omega), if_neg (by omega), if_pos (by omega)]; rfl)
              | (rw [if_neg (by omega), if_neg (by omega), if_neg (by omega), if_neg (by omega)]; rfl)
            refine ztabC (k := 33) (v := 2) 2 rfl rfl (by decide) rfl rfl (fun c8 => ?_) (fun c8 => ?_)
            · skip
              refine zaload_n (k := 46) rfl rfl ?_
              refine zgF 7 (k := 47) rfl ob_1 fl_11_33 rfl fx_1_7 ?_
              refine zgF 7 (k := 48) rfl ob_41 fl_11_156 rfl fx_41_7 ?_
              refine ziload_n (k := 49) rfl rfl ?_
              refine zfS1 (k := 50) rfl (c_NT_at ar_48) fm_NT_at lk_11_174 rfl rfl (Nat.le_of_ble_eq_true rfl) (by decide) ⟨by decide, by decide⟩ ?_
              rw [zat_in (by omega), e48]
              refine zireturn (k := 51) rfl rfl rfl ?_
              rw [← hQ]
              refine ⟨rfl, _, rfl, ?_, scr_st h0, by rw [h0.1]; exact SZ_goo hWI0 hSI0 hZ _⟩
              unfold latQ
              first
              | (rw [if_neg (by omega), if_pos (by omega)]; rfl)
              | (rw [if_neg (by omega), if_neg (by omega), if_pos (by omega)]; rfl)
              | (rw [if_neg (by omega), if_neg (by omega), if_neg (by omega), if_pos (by omega)]; rfl)
              | (rw [if_neg (by omega), if_neg (by omega), if_neg (by omega), if_neg (by omega)]; rfl)
            refine ztabOut (k := 33) rfl (by omega) rfl ?_
            refine zaload_n (k := 52) rfl rfl ?_
            refine zgF 7 (k := 53) rfl ob_1 fl_11_33 rfl fx_1_7 ?_
            refine zgF 8 (k := 54) rfl ob_41 fl_11_159 rfl fx_41_8 ?_
            refine ziload_n (k := 55) rfl rfl ?_
            refine zfS1 (k := 56) rfl (c_NT_at ar_49) fm_NT_at lk_11_174 rfl rfl (Nat.le_of_ble_eq_true rfl) (by decide) ⟨by decide, by decide⟩ ?_
            rw [zat_in (by omega), e49]
            refine zireturn (k := 57) rfl rfl rfl ?_
            rw [← hQ]
            refine ⟨rfl, _, rfl, ?_, scr_st h0, by rw [h0.1]; exact SZ_goo hWI0 hSI0 hZ _⟩
            unfold latQ
            first
            | (rw [if_neg (by omega), if_pos (by omega)]; rfl)
            | (rw [if_neg (by omega), if_neg (by omega), if_pos (by omega)]; rfl)
            | (rw [if_neg (by omega), if_neg (by omega), if_neg (by omega), if_pos (by omega)]; rfl)
            | (rw [if_neg (by omega), if_neg (by omega), if_neg (by omega), if_neg (by omega)]; rfl)
          · skip
            refine ziconst (k := 16) rfl (by decide) ?_
            refine zireturn (k := 17) rfl rfl rfl ?_
            rw [← hQ]
            exact ⟨rfl, _, rfl, by unfold latQ; rw [if_pos (by (try split at c1) <;> omega)], scr_rf σ, hAZ⟩
set_option maxHeartbeats 4000000 in
set_option maxRecDepth 20000 in
theorem c_NT_caught {Γ : zv_M} {L : Int} {w : Int} {σ S Wm : zv_H} (h8 : σ 1 8 = w) (hw : w ∈ wrL) (hW : vw 12 σ w = Wm) (hS : vw 10 σ 30 = S) (hSI : SI (Wm 0 1) (Wm 0 3) S) (hWI : WI Wm) (hZ : SZ S) (hAZ : SZ (vw 10 σ 41)) {m : Int} : zC Γ m_NT_caught 8 0 0 (GM L) [zR 1, zI m] σ (zPI (GM L) (fun z σ' => z = cauQ Wm S m ∧ scr σ σ' ∧ SZ (vw 10 σ' 41))) := by
  refine zC_of (ls0 := [_, _, _, _]) zm_NT_caught (by decide) rfl (Nat.le_of_ble_eq_true rfl) ?_
  generalize hQ : (zPI (GM L) (fun z σ' => z = cauQ Wm S m ∧ scr σ σ' ∧ SZ (vw 10 σ' 41))) = Q
  have ha : (30 : Int) ∈ stL := by decide
  have e30 : σ 30 = S 0 := st_e0 hS
  have e31 : σ 31 = S 1 := st_e (f := 1) hS (by omega)
  have e32 : σ 32 = S 2 := st_e (f := 2) hS (by omega)
  have e33 : σ 33 = S 3 := st_e (f := 3) hS (by omega)
  have e34 : σ 34 = S 4 := st_e (f := 4) hS (by omega)
  have e35 : σ 35 = S 5 := st_e (f := 5) hS (by omega)
  have e36 : σ 36 = S 6 := st_e (f := 6) hS (by omega)
  have e37 : σ 37 = S 7 := st_e (f := 7) hS (by omega)
  have e38 : σ 38 = S 8 := st_e (f := 8) hS (by omega)
  have e39 : σ 39 = S 9 := st_e (f := 9) hS (by omega)
  have e40 : σ 40 = S 10 := st_e (f := 10) hS (by omega)
  have ew0 : σ w = Wm 0 := st_e0 hW
  have ew1 : σ (w + 1) = Wm 1 := st_e (f := 1) hW (by omega)
  have ew2 : σ (w + 2) = Wm 2 := st_e (f := 2) hW (by omega)
  have ew3 : σ (w + 3) = Wm 3 := st_e (f := 3) hW (by omega)
  have ew4 : σ (w + 4) = Wm 4 := st_e (f := 4) hW (by omega)
  have ew5 : σ (w + 5) = Wm 5 := st_e (f := 5) hW (by omega)
  have ew6 : σ (w + 6) = Wm 6 := st_e (f := 6) hW (by omega)
  have ew7 : σ (w + 7) = Wm 7 := st_e (f := 7) hW (by omega)
  have ew8 : σ (w + 8) = Wm 8 := st_e (f := 8) hW (by omega)
  have ew9 : σ (w + 9) = Wm 9 := st_e (f := 9) hW (by omega)
  have ew10 : σ (w + 10) = Wm 10 := st_e (f := 10) hW (by omega)
  have ew11 : σ (w + 11) = Wm 11 := st_e (f := 11) hW (by omega)
  have ew12 : σ (w + 12) = Wm 12 := st_e (f := 12) hW (by omega)
  have hSI0 := hSI
  have hWI0 := hWI
  obtain ⟨b0, b11, b12, bc, bm, bl, br⟩ := hSI
  obtain ⟨w1, w2, w3, w4, w5, w6, w7, w8, w9, w10⟩ := hWI
  have ha1 : (41 : Int) ∈ stL := by decide
  refine zaload_n (k := 0) rfl rfl ?_
  refine zgR 8 (k := 1) rfl ob_1 fl_11_19 rfl fx_1_8 ?_
  first | rw [h8] | rw [h0.2 1 8 (by omega) (by omega) (by omega), h8]
  refine ziload_n (k := 2) rfl rfl ?_
  refine zfV1 (k := 3) rfl (c_War_hasMan hw) fm_War_hasMan lk_11_181 rfl rfl (wr_ob hw) ⟨_, rfl, rfl⟩ (Nat.le_of_ble_eq_true rfl) (by decide) ⟨by decide, by decide⟩ ?_
  try simp only [e30, e31, e32, e33, e34, e35, e36, e37, e38, e39, e40, ew0, ew1, ew2, ew3, ew4, ew5, ew6, ew7, ew8, ew9, ew10, ew11, ew12]
  refine zif_ne (k := 4) rfl rfl (fun c1 => ?_) (fun c1 => ?_)
  · skip
    have hmm : 0 ≤ m ∧ m < Wm 0 3 := by split at c1 <;> first | assumption | (exfalso; omega)
    refine zaload_n (k := 7) rfl rfl ?_
    refine zgF 7 (k := 8) rfl ob_1 fl_11_33 rfl fx_1_7 ?_
    refine zaload_n (k := 9) rfl rfl ?_
    refine zgF 6 (k := 10) rfl ob_1 fl_11_29 rfl fx_1_6 ?_
    refine zpV0 (k := 11) rfl (k_copy (by decide) ha (by decide) hAZ hS hZ) fm_State_copy lk_11_216 rfl rfl ob_41 ⟨_, rfl, rfl⟩ (Nat.le_of_ble_eq_true rfl) (by decide) ⟨by decide, by decide⟩ (fun σ1 h0 => ?_)
    refine zaload_n (k := 12) rfl rfl ?_
    refine zfV1 (k := 13) rfl (c_NT_weeksAhead ((h0.2 1 8 (by omega) (by omega) (by omega)).trans h8) hw ((stp_w h0 ha1 hw).trans hW) ((st_30 h0).trans hS) hSI0 hWI0) fm_NT_weeksAhead lk_11_212 rfl rfl ob_1 ⟨_, rfl, rfl⟩ (Nat.le_of_ble_eq_true rfl) (by decide) ⟨by decide, by decide⟩ ?_
    refine zistore_n (k := 14) (ls' := [_, _, _, _]) rfl (Nat.le_of_ble_eq_true rfl) rfl ?_
    have hT : (min 80 (999 - S 0 0)) = ((aheadN S : Nat) : Int) := by unfold aheadN; omega
    rw [hT]
    generalize hp : (fun j => decide ((gooF Wm S j).1 5 m = 3)) = p
    refine ziconst (k := 15) rfl (by decide) ?_
    refine zistore_n (k := 16) (ls' := [_, _, _, _]) rfl (Nat.le_of_ble_eq_true rfl) rfl ?_
    have lp31 : ∀ (g : Nat) (j : Nat) (σ2 : zv_H), (aheadN S + 1 - j) < g → (j ≤ aheadN S + 1) → (fnd p (aheadN S + 1) 0 = fnd p (aheadN S + 1 - j) j) → (stp σ σ2 41 (gooF Wm S (min j (aheadN S))).1) → zV Γ m_NT_caught 8 0 0 Q (GM L) (0, 0) 31 [some (zR 1), some (zI m), some (zI ((aheadN S : Nat) : Int)), some (zI j)] [] σ2 := by
      intro g
      induction g with
      | zero => intro j σ2 hg; exact absurd hg (Nat.not_lt_zero _)
      | succ g ih31 =>
        intro j σ2 hg hj hf h0
        refine ziload_n (k := 17) rfl rfl ?_
        refine ziload_n (k := 18) rfl rfl ?_
        refine zicmp_gt (k := 19) rfl rfl (fun c2 => ?_) (fun c2 => ?_)
        · skip
          refine ziconst (k := 43) rfl (by decide) ?_
          refine zireturn (k := 44) rfl rfl rfl ?_
          rw [← hQ]
          refine ⟨rfl, _, rfl, ?_, scr_st h0, by rw [h0.1]; exact SZ_goo hWI0 hSI0 hZ _⟩
          unfold cauQ
          rw [if_neg (by omega), hp, hf, show aheadN S + 1 - j = 0 by omega]
          rfl
        · skip
          refine zaload_n (k := 20) rfl rfl ?_
          refine zgF 7 (k := 21) rfl ob_1 fl_11_33 rfl fx_1_7 ?_
          refine zgF 5 (k := 22) rfl ob_41 fl_11_149 rfl fx_41_5 ?_
          refine ziload_n (k := 23) rfl rfl ?_
          refine zfS1 (k := 24) rfl (c_NT_at ar_46) fm_NT_at lk_11_174 rfl rfl (Nat.le_of_ble_eq_true rfl) (by decide) ⟨by decide, by decide⟩ ?_
          rw [zat_in (by omega), show σ2 46 = _ from st_e (f := 5) h0.1 (by omega), Nat.min_eq_left (by omega)]
          rw [Nat.min_eq_left (by omega)] at h0
          refine ziconst (k := 25) rfl (by decide) ?_
          refine zicmp_ne (k := 26) rfl rfl (fun c3 => ?_) (fun c3 => ?_)
          · skip
            refine ziload_n (k := 29) rfl rfl ?_
            refine ziload_n (k := 30) rfl rfl ?_
            refine zicmp_ge (k := 31) rfl rfl (fun c4 => ?_) (fun c4 => ?_)
            · skip
              refine ziincB (k := 41) (ls' := [_, _, _, _]) rfl rfl (by decide) (by omega) rfl ?_
              refine zgoto (k := 42) rfl rfl ?_
              have en : fnd p (aheadN S + 1) 0 = fnd p (aheadN S + 1 - (j + 1)) (j + 1) := by
                rw [hf, show aheadN S + 1 - j = aheadN S + 1 - (j + 1) + 1 by omega, fnd_s, if_neg (by rw [← hp]; simp only [decide_eq_true_eq]; assumption)]
              first
              | exact ih31 (j + 1) _ (by omega) (by omega) en (by rw [Nat.min_eq_left (by omega), ← goo_1]; exact h0)
              | exact ih31 (j + 1) _ (by omega) (by omega) en (by rw [show min (j + 1) (aheadN S) = j by omega]; exact h0)
            · skip
              refine zaload_n (k := 32) rfl rfl ?_
              refine zgF 2 (k := 33) rfl ob_1 fl_11_48 rfl fx_1_2 ?_
              refine zaload_n (k := 34) rfl rfl ?_
              refine zgR 8 (k := 35) rfl ob_1 fl_11_19 rfl fx_1_8 ?_
              first | rw [h8] | rw [h0.2 1 8 (by omega) (by omega) (by omega), h8]
              refine zaload_n (k := 36) rfl rfl ?_
              refine zgF 7 (k := 37) rfl ob_1 fl_11_33 rfl fx_1_7 ?_
              refine ziconst (k := 38) rfl (by decide) ?_
              refine zpVI (k := 39) rfl (c_March_go ha1 hw h0 hW (SI_goo hWI0 hSI0 j) hWI0 1 (by omega)) fm_March_go lk_11_220 rfl rfl ob_55 ⟨_, rfl, rfl⟩ (Nat.le_of_ble_eq_true rfl) (by decide) ⟨by decide, by decide⟩ (fun z σ3 h2 => ?_)
              clear h0
              have h0 := h2.2
              refine zpop (k := 40) rfl rfl ?_
              refine ziincB (k := 41) (ls' := [_, _, _, _]) rfl rfl (by decide) (by omega) rfl ?_
              refine zgoto (k := 42) rfl rfl ?_
              have en : fnd p (aheadN S + 1) 0 = fnd p (aheadN S + 1 - (j + 1)) (j + 1) := by
                rw [hf, show aheadN S + 1 - j = aheadN S + 1 - (j + 1) + 1 by omega, fnd_s, if_neg (by rw [← hp]; simp only [decide_eq_true_eq]; assumption)]
              first
              | exact ih31 (j + 1) _ (by omega) (by omega) en (by rw [Nat.min_eq_left (by omega), ← goo_1]; exact h0)
              | exact ih31 (j + 1) _ (by omega) (by omega) en (by rw [show min (j + 1) (aheadN S) = j by omega]; exact h0)
          · skip
            refine ziload_n (k := 27) rfl rfl ?_
            refine zireturn (k := 28) rfl rfl rfl ?_
            rw [← hQ]
            refine ⟨rfl, _, rfl, ?_, scr_st h0, by rw [h0.1]; exact SZ_goo hWI0 hSI0 hZ _⟩
            unfold cauQ
            rw [if_neg (by omega), hp, hf, show aheadN S + 1 - j = aheadN S + 1 - (j + 1) + 1 by omega, fnd_s, if_pos (by rw [← hp]; simp only [decide_eq_true_eq]; assumption)]
    exact lp31 _ 0 _ (Nat.lt_succ_self _) (by omega) rfl (by rw [Nat.zero_min]; exact h0)
  · skip
    refine ziconst (k := 5) rfl (by decide) ?_
    refine zireturn (k := 6) rfl rfl rfl ?_
    rw [← hQ]
    exact ⟨rfl, _, rfl, by unfold cauQ; rw [if_pos (by (try split at c1) <;> omega)], scr_rf σ, hAZ⟩
