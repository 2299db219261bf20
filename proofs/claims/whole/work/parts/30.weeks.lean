set_option maxHeartbeats 4000000 in
set_option maxRecDepth 20000 in
theorem c_NT_weeks {Γ : zv_M} {L : Int} {w : Int} {σ S Wm : zv_H} (h8 : σ 1 8 = w) (hw : w ∈ wrL) (hW : vw 12 σ w = Wm) (hS : vw 10 σ 30 = S) (hSI : SI (Wm 0 1) (Wm 0 3) S) (hWI : WI Wm) (hZ : SZ S) {n : Int} (hn : σ 62 1 = n) (hb : 0 ≤ n ∧ n < 20) (hac : 0 ≤ σ 62 2 ∧ σ 62 2 ≤ 20) (hAn : SZ (vw 10 σ (actn n))) {u : Int} : zC Γ m_NT_weeks 8 0 0 (GM L) [zR 1, zI u] σ (zPI (GM L) (fun z σ' => (¬ (1 ≤ u ∧ u ≤ 100 ∧ u ≤ 999 - S 0 0) ∧ z = -1 ∧ σ' = rfu σ 2) ∨ ((1 ≤ u ∧ u ≤ 100 ∧ u ≤ 999 - S 0 0) ∧ z = (gooF Wm S u.toNat).2 ∧ remP σ σ' n S (gooF Wm S u.toNat).1))) := by
  refine zC_of (ls0 := [_, _]) zm_NT_weeks (by decide) rfl (Nat.le_of_ble_eq_true rfl) ?_
  generalize hQ : (zPI (GM L) (fun z σ' => (¬ (1 ≤ u ∧ u ≤ 100 ∧ u ≤ 999 - S 0 0) ∧ z = -1 ∧ σ' = rfu σ 2) ∨ ((1 ≤ u ∧ u ≤ 100 ∧ u ≤ 999 - S 0 0) ∧ z = (gooF Wm S u.toNat).2 ∧ remP σ σ' n S (gooF Wm S u.toNat).1))) = Q
  have ha : (30 : Int) ∈ stL := by decide
  have e30 : σ 30 = S 0 := st_e0 hS
  have e31 : σ 31 = S 1 := st_e (f := 1) hS (by omega)
  have e32 : σ 32 = S 2 := st_e (f := 2) hS (by omega)
  have e33 : σ 33 = S 3 := st_e (f := 3) hS (by omega)
  have e34 : σ 34 = S 4 := st_e (f := 4) hS (by omega)
  have e35 : σ 35 = S 5 := st_e (f := 5) hS (by omega)
  have e36 : σ 36 = S 6 := st_e (f := 6) hS (by omega)
  have e37 : σ 37 = S 7 := st_e (f := 7) hS (by omega)
  have e38 : σ 38 = S 8 := st_e (f := 8) hS (by omega)
  have e39 : σ 39 = S 9 := st_e (f := 9) hS (by omega)
  have e40 : σ 40 = S 10 := st_e (f := 10) hS (by omega)
  have ew0 : σ w = Wm 0 := st_e0 hW
  have ew1 : σ (w + 1) = Wm 1 := st_e (f := 1) hW (by omega)
  have ew2 : σ (w + 2) = Wm 2 := st_e (f := 2) hW (by omega)
  have ew3 : σ (w + 3) = Wm 3 := st_e (f := 3) hW (by omega)
  have ew4 : σ (w + 4) = Wm 4 := st_e (f := 4) hW (by omega)
  have ew5 : σ (w + 5) = Wm 5 := st_e (f := 5) hW (by omega)
  have ew6 : σ (w + 6) = Wm 6 := st_e (f := 6) hW (by omega)
  have ew7 : σ (w + 7) = Wm 7 := st_e (f := 7) hW (by omega)
  have ew8 : σ (w + 8) = Wm 8 := st_e (f := 8) hW (by omega)
  have ew9 : σ (w + 9) = Wm 9 := st_e (f := 9) hW (by omega)
  have ew10 : σ (w + 10) = Wm 10 := st_e (f := 10) hW (by omega)
  have ew11 : σ (w + 11) = Wm 11 := st_e (f := 11) hW (by omega)
  have ew12 : σ (w + 12) = Wm 12 := st_e (f := 12) hW (by omega)
  have hSI0 := hSI
  have hWI0 := hWI
  obtain ⟨b0, b11, b12, bc, bm, bl, br⟩ := hSI
  obtain ⟨w1, w2, w3, w4, w5, w6, w7, w8, w9, w10⟩ := hWI
  refine zaload_n (k := 0) rfl rfl ?_
  refine ziload_n (k := 1) rfl rfl ?_
  refine zfV1 (k := 2) rfl (c_NT_canGo h8 hw hW hS hSI0 hWI0) fm_NT_canGo lk_11_272 rfl rfl ob_1 ⟨_, rfl, rfl⟩ (Nat.le_of_ble_eq_true rfl) (by decide) ⟨by decide, by decide⟩ ?_
  refine zif_ne (k := 3) rfl rfl (fun c1 => ?_) (fun c1 => ?_)
  · skip
    have hu : 1 ≤ u ∧ u ≤ 100 ∧ u ≤ 999 - S 0 0 := by split at c1 <;> first | assumption | (exfalso; omega)
    obtain ⟨N, rfl⟩ : ∃ N : Nat, u = N := ⟨u.toNat, by omega⟩
    refine zaload_n (k := 9) rfl rfl ?_
    refine zgF 4 (k := 10) rfl ob_1 fl_11_64 rfl fx_1_4 ?_
    refine zaload_n (k := 11) rfl rfl ?_
    refine zgF 6 (k := 12) rfl ob_1 fl_11_29 rfl fx_1_6 ?_
    refine zpV0 (k := 13) rfl (k_rem hn hb hac hS hZ hAn) fm_Acts_remember lk_11_275 rfl rfl ob_62 ⟨_, rfl, rfl⟩ (Nat.le_of_ble_eq_true rfl) (by decide) ⟨by decide, by decide⟩ (fun σ1 hr => ?_)
    have h0 : stp σ1 σ1 30 S := ⟨hr.1, fun _ _ _ _ _ => rfl⟩
    have h81 : σ1 1 8 = w := by rw [remP_8 hb hr (by omega)]; exact h8
    have hW1 : vw 12 σ1 w = Wm := by rw [← hW]; exact vw_eq (fun x k q1 q2 => remP_8 hb hr (by have := wr_far hw; omega)) (by omega)
    refine zaload_n (k := 14) rfl rfl ?_
    refine zgF 2 (k := 15) rfl ob_1 fl_11_48 rfl fx_1_2 ?_
    refine zaload_n (k := 16) rfl rfl ?_
    refine zgR 8 (k := 17) rfl ob_1 fl_11_19 rfl fx_1_8 ?_
    first | rw [h8] | rw [h81] | rw [h0.2 1 8 (by omega) (by omega) (by omega), h8]
    refine zaload_n (k := 18) rfl rfl ?_
    refine zgF 6 (k := 19) rfl ob_1 fl_11_29 rfl fx_1_6 ?_
    refine ziload_n (k := 20) rfl rfl ?_
    refine zpVI (k := 21) rfl (c_March_go ha hw h0 hW1 hSI0 hWI0 N (by omega)) fm_March_go lk_11_220 rfl rfl ob_55 ⟨_, rfl, rfl⟩ (Nat.le_of_ble_eq_true rfl) (by decide) ⟨by decide, by decide⟩ (fun z σ2 h2 => ?_)
    refine zireturn (k := 22) rfl rfl rfl ?_
    rw [← hQ]
    exact ⟨rfl, _, rfl, Or.inr ⟨hu, h2.1, remP_st hb hr h2.2⟩⟩
  · skip
    refine zaload_n (k := 4) rfl rfl ?_
    refine ziconst (k := 5) rfl (by decide) ?_
    refine zfV0 (k := 6) rfl (c_NT_refuse (by omega)) fm_NT_refuse lk_11_104 rfl rfl ob_1 ⟨_, rfl, rfl⟩ (Nat.le_of_ble_eq_true rfl) (by decide) ⟨by decide, by decide⟩ ?_
    refine ziconst (k := 7) rfl (by decide) ?_
    refine zireturn (k := 8) rfl rfl rfl ?_
    rw [← hQ]
    refine ⟨rfl, _, rfl, Or.inl ⟨?_, rfl, rfl⟩⟩
    split at c1 <;> first | assumption | (exfalso; omega)
def kepQ (S : zv_H) (k t : Int) : Int := if ¬ (0 ≤ k ∧ k < S 0 12) then -1 else if t = 0 then S 10 ((S 0 11 + k) % 60) / 1000 else if t = 1 then S 10 ((S 0 11 + k) % 60) / 100 % 10 else if t = 2 then S 10 ((S 0 11 + k) % 60) / 10 % 10 else if t = 3 then S 10 ((S 0 11 + k) % 60) % 10 else -1
theorem k_kept {Γ : zv_M} {L : Int} {σ S : zv_H} {a k t : Int} (ha : a ∈ stL) (hS : vw 10 σ a = S) (hk : 0 ≤ k ∧ k < S 0 12) (h1 : 0 ≤ S 0 11 ∧ S 0 11 < 60) (h2 : S 0 12 ≤ 60) (he : 0 ≤ S 10 ((S 0 11 + k) % 60)) : zC Γ m_State_tellKept 1 0 0 (GM L) [zR a, zI k, zI t] σ (zFn (some (zI (kepQ S k t))) (GM L) σ) := by
  have h := c_State_tellKept (Γ := Γ) (L := L) (k := k) (t := t) (σ := σ) ha (by omega) (by rw [st_e0 hS]; exact h1) (by rw [st_e hS (f := 10) (by omega), st_e0 hS]; exact he)
  rw [st_e hS (f := 10) (by omega), st_e0 hS] at h
  unfold kepQ
  rw [if_neg (by omega)]
  exact h
set_option maxHeartbeats 4000000 in
set_option maxRecDepth 20000 in
theorem c_NT_kept {Γ : zv_M} {L : Int} {w : Int} {σ S Wm : zv_H} (h8 : σ 1 8 = w) (hw : w ∈ wrL) (hW : vw 12 σ w = Wm) (hS : vw 10 σ 30 = S) (hSI : SI (Wm 0 1) (Wm 0 3) S) (hWI : WI Wm) {k t : Int} : zC Γ m_NT_kept 3 0 0 (GM L) [zR 1, zI k, zI t] σ (zFn (some (zI (kepQ S k t))) (GM L) σ) := by
  refine zC_of (ls0 := [_, _, _]) zm_NT_kept (by decide) rfl (Nat.le_of_ble_eq_true rfl) ?_
  generalize hQ : (zFn (some (zI (kepQ S k t))) (GM L) σ) = Q
  have ha : (30 : Int) ∈ stL := by decide
  have e30 : σ 30 = S 0 := st_e0 hS
  have e31 : σ 31 = S 1 := st_e (f := 1) hS (by omega)
  have e32 : σ 32 = S 2 := st_e (f := 2) hS (by omega)
  have e33 : σ 33 = S 3 := st_e (f := 3) hS (by omega)
  have e34 : σ 34 = S 4 := st_e (f := 4) hS (by omega)
  have e35 : σ 35 = S 5 := st_e (f := 5) hS (by omega)
  have e36 : σ 36 = S 6 := st_e (f := 6) hS (by omega)
  have e37 : σ 37 = S 7 := st_e (f := 7) hS (by omega)
  have e38 : σ 38 = S 8 := st_e (f := 8) hS (by omega)
  have e39 : σ 39 = S 9 := st_e (f := 9) hS (by omega)
  have e40 : σ 40 = S 10 := st_e (f := 10) hS (by omega)
  have ew0 : σ w = Wm 0 := st_e0 hW
  have ew1 : σ (w + 1) = Wm 1 := st_e (f := 1) hW (by omega)
  have ew2 : σ (w + 2) = Wm 2 := st_e (f := 2) hW (by omega)
  have ew3 : σ (w + 3) = Wm 3 := st_e (f := 3) hW (by omega)
  have ew4 : σ (w + 4) = Wm 4 := st_e (f := 4) hW (by omega)
  have ew5 : σ (w + 5) = Wm 5 := st_e (f := 5) hW (by omega)
  have ew6 : σ (w + 6) = Wm 6 := st_e (f := 6) hW (by omega)
  have ew7 : σ (w + 7) = Wm 7 := st_e (f := 7) hW (by omega)
  have ew8 : σ (w + 8) = Wm 8 := st_e (f := 8) hW (by omega)
  have ew9 : σ (w + 9) = Wm 9 := st_e (f := 9) hW (by omega)
  have ew10 : σ (w + 10) = Wm 10 := st_e (f := 10) hW (by omega)
  have ew11 : σ (w + 11) = Wm 11 := st_e (f := 11) hW (by omega)
  have ew12 : σ (w + 12) = Wm 12 := st_e (f := 12) hW (by omega)
  have hSI0 := hSI
  have hWI0 := hWI
  obtain ⟨b0, b11, b12, bc, bm, bl, br⟩ := hSI
  obtain ⟨w1, w2, w3, w4, w5, w6, w7, w8, w9, w10⟩ := hWI
  refine ziload_n (k := 0) rfl rfl ?_
  refine zif_lt (k := 1) rfl rfl (fun c1 => ?_) (fun c1 => ?_)
  · skip
    refine ziconst (k := 7) rfl (by decide) ?_
    refine zireturn (k := 8) rfl rfl rfl ?_
    rw [← hQ]
    exact ⟨by unfold kepQ; rw [if_pos (by omega)], rfl, rfl⟩
  · skip
    refine ziload_n (k := 2) rfl rfl ?_
    refine zaload_n (k := 3) rfl rfl ?_
    refine zgF 6 (k := 4) rfl ob_1 fl_11_29 rfl fx_1_6 ?_
    refine zgI 12 (k := 5) rfl ob_30 fl_11_162 rfl fx_30_12 ?_
    try simp only [e30, e31, e32, e33, e34, e35, e36, e37, e38, e39, e40, ew0, ew1, ew2, ew3, ew4, ew5, ew6, ew7, ew8, ew9, ew10, ew11, ew12]
    refine zicmp_lt (k := 6) rfl rfl (fun c2 => ?_) (fun c2 => ?_)
    · skip
      refine zaload_n (k := 9) rfl rfl ?_
      refine zgF 6 (k := 10) rfl ob_1 fl_11_29 rfl fx_1_6 ?_
      refine ziload_n (k := 11) rfl rfl ?_
      refine ziload_n (k := 12) rfl rfl ?_
      refine zfV1 (k := 13) rfl (k_kept ha hS (by omega) b11 (by omega) (br _ (by omega) (by omega)).1) fm_State_tellKept lk_11_289 rfl rfl ob_30 ⟨_, rfl, rfl⟩ (Nat.le_of_ble_eq_true rfl) (by decide) ⟨by decide, by decide⟩ ?_
      refine zireturn (k := 14) rfl rfl rfl ?_
      rw [← hQ]
      exact ⟨rfl, rfl, rfl⟩
    · skip
      refine ziconst (k := 7) rfl (by decide) ?_
      refine zireturn (k := 8) rfl rfl rfl ?_
      rw [← hQ]
      exact ⟨by unfold kepQ; rw [if_pos (by omega)], rfl, rfl⟩
set_option maxHeartbeats 4000000 in
set_option maxRecDepth 20000 in
theorem c_NT_fault {Γ : zv_M} {L : Int} {σ : zv_H} {t : Int} : zC Γ m_NT_fault 0 0 0 (GM L) [zR 1, zI t] σ (zFn (some (zI (if t = 0 then σ 1 11 else if t = 1 then σ 1 12 else -1))) (GM L) σ) := by
  refine zC_of (ls0 := [_, _]) zm_NT_fault (by decide) rfl (Nat.le_of_ble_eq_true rfl) ?_
  generalize hQ : (zFn (some (zI (if t = 0 then σ 1 11 else if t = 1 then σ 1 12 else -1))) (GM L) σ) = Q
  refine ziload_n (k := 0) rfl rfl ?_
  refine zlookC (k := 1) (v := 0) rfl (by decide) rfl rfl (fun c1 => ?_) (fun c1 => ?_)
  · skip
    refine zaload_n (k := 2) rfl rfl ?_
    refine zgI 11 (k := 3) rfl ob_1 fl_11_81 rfl fx_1_11 ?_
    refine zireturn (k := 4) rfl rfl rfl ?_
    rw [← hQ]
    first | exact ⟨by rw [if_pos (by omega)], rfl, rfl⟩ | exact ⟨by rw [if_neg (by omega), if_pos (by omega)], rfl, rfl⟩ | exact ⟨by rw [if_neg (by omega), if_neg (by omega)], rfl, rfl⟩
  refine zlookC (k := 1) (v := 1) rfl (by decide) rfl rfl (fun c2 => ?_) (fun c2 => ?_)
  · skip
    refine zaload_n (k := 5) rfl rfl ?_
    refine zgI 12 (k := 6) rfl ob_1 fl_11_84 rfl fx_1_12 ?_
    refine zireturn (k := 7) rfl rfl rfl ?_
    rw [← hQ]
    first | exact ⟨by rw [if_pos (by omega)], rfl, rfl⟩ | exact ⟨by rw [if_neg (by omega), if_pos (by omega)], rfl, rfl⟩ | exact ⟨by rw [if_neg (by omega), if_neg (by omega)], rfl, rfl⟩
  refine zlook (k := 1) rfl (by decide) (by simp [Op.lookupswitch.offset, c1, c2, Ne.symm c1, Ne.symm c2]; rfl) rfl ?_
  refine ziconst (k := 8) rfl (by decide) ?_
  refine zireturn (k := 9) rfl rfl rfl ?_
  rw [← hQ]
  first | exact ⟨by rw [if_pos (by omega)], rfl, rfl⟩ | exact ⟨by rw [if_neg (by omega), if_pos (by omega)], rfl, rfl⟩ | exact ⟨by rw [if_neg (by omega), if_neg (by omega)], rfl, rfl⟩
set_option maxHeartbeats 4000000 in
set_option maxRecDepth 20000 in
theorem c_NT_octet {Γ : zv_M} {L : Int} {σ : zv_H} {k : Int} (h : 0 ≤ σ 284 1 ∧ σ 284 1 ≤ 109) : zC Γ m_NT_octet 1 0 0 (GM L) [zR 1, zI k] σ (zFn (some (zI (if 0 ≤ k ∧ k < σ 284 1 then σ 285 k else -1))) (GM L) σ) := by
  refine zC_of (ls0 := [_, _]) zm_NT_octet (by decide) rfl (Nat.le_of_ble_eq_true rfl) ?_
  generalize hQ : (zFn (some (zI (if 0 ≤ k ∧ k < σ 284 1 then σ 285 k else -1))) (GM L) σ) = Q
  refine ziload_n (k := 0) rfl rfl ?_
  refine zif_lt (k := 1) rfl rfl (fun c1 => ?_) (fun c1 => ?_)
  · skip
    refine ziconst (k := 7) rfl (by decide) ?_
    refine zireturn (k := 8) rfl rfl rfl ?_
    rw [← hQ]
    exact ⟨by first | (rw [if_pos (by omega)]; done) | (rw [if_neg (by omega)]; done) | (exfalso; omega), rfl, rfl⟩
  · skip
    refine ziload_n (k := 2) rfl rfl ?_
    refine zaload_n (k := 3) rfl rfl ?_
    refine zgF 5 (k := 4) rfl ob_1 fl_11_73 rfl fx_1_5 ?_
    refine zgI 1 (k := 5) rfl ob_284 fl_11_295 rfl fx_284_1 ?_
    refine zicmp_lt (k := 6) rfl rfl (fun c2 => ?_) (fun c2 => ?_)
    · skip
      refine zaload_n (k := 9) rfl rfl ?_
      refine zgF 5 (k := 10) rfl ob_1 fl_11_73 rfl fx_1_5 ?_
      refine zgF 0 (k := 11) rfl ob_284 fl_11_296 rfl fx_284_0 ?_
      refine ziload_n (k := 12) rfl rfl ?_
      refine zfS1 (k := 13) rfl (c_NT_at ar_285) fm_NT_at lk_11_174 rfl rfl (Nat.le_of_ble_eq_true rfl) (by decide) ⟨by decide, by decide⟩ ?_
      (first | rw [zat_in (by omega)] | skip)
      refine zireturn (k := 14) rfl rfl rfl ?_
      rw [← hQ]
      exact ⟨by first | (rw [if_pos (by omega)]; done) | (rw [if_neg (by omega)]; done) | (exfalso; omega), rfl, rfl⟩
    · skip
      refine ziconst (k := 7) rfl (by decide) ?_
      refine zireturn (k := 8) rfl rfl rfl ?_
      rw [← hQ]
      exact ⟨by first | (rw [if_pos (by omega)]; done) | (rw [if_neg (by omega)]; done) | (exfalso; omega), rfl, rfl⟩
