def wklF (S : zv_H) (m c : Int) : Int := if S 9 (m * 7 + c) < 1000000 then max 0 (S 9 (m * 7 + c) - S 0 0) else -1
theorem k_wtl {Γ : zv_M} {L : Int} {σ S : zv_H} {a m c : Int} (ha : a ∈ stL) (hS : vw 10 σ a = S) (hm : 0 ≤ m ∧ m < 6) (hc : 0 ≤ c ∧ c < 7) (h0 : 0 ≤ S 0 0 ∧ S 0 0 ≤ 999) (hl : 0 ≤ S 9 (m * 7 + c)) : zC Γ m_State_weeksToLetter 1 0 0 (GM L) [zR a, zI m, zI c] σ (zFn (some (zI (wklF S m c))) (GM L) σ) := by
  have h := c_State_weeksToLetter (Γ := Γ) (L := L) (m := m) (c := c) (σ := σ) ha hm hc (by rw [st_e0 hS]; exact h0) (by rw [st_e hS (f := 9) (by omega)]; exact hl)
  have e : zwtl σ a m c = wklF S m c := by
    unfold zwtl wklF
    rw [st_e0 hS, st_e hS (f := 9) (by omega)]
  rw [e] at h
  exact h
set_option maxHeartbeats 4000000 in
set_option maxRecDepth 20000 in
theorem c_NT_known {Γ : zv_M} {L : Int} {w : Int} {σ S Wm : zv_H} (h8 : σ 1 8 = w) (hw : w ∈ wrL) (hW : vw 12 σ w = Wm) (hS : vw 10 σ 30 = S) (hSI : SI (Wm 0 1) (Wm 0 3) S) (hWI : WI Wm) {m c : Int} : zC Γ m_NT_known 3 0 0 (GM L) [zR 1, zI m, zI c] σ (zFn (some (zI (if (0 ≤ m ∧ m < Wm 0 3) ∧ (0 ≤ c ∧ c < Wm 0 1) then wklF S m c else -1))) (GM L) σ) := by
  refine zC_of (ls0 := [_, _, _]) zm_NT_known (by decide) rfl (Nat.le_of_ble_eq_true rfl) ?_
  generalize hQ : (zFn (some (zI (if (0 ≤ m ∧ m < Wm 0 3) ∧ (0 ≤ c ∧ c < Wm 0 1) then wklF S m c else -1))) (GM L) σ) = Q
  have ha : (30 : Int) ∈ stL := by decide
  have e30 : σ 30 = S 0 := st_e0 hS
  have e31 : σ 31 = S 1 := st_e (f := 1) hS (by omega)
  have e32 : σ 32 = S 2 := st_e (f := 2) hS (by omega)
  have e33 : σ 33 = S 3 := st_e (f := 3) hS (by omega)
  have e34 : σ 34 = S 4 := st_e (f := 4) hS (by omega)
  have e35 : σ 35 = S 5 := st_e (f := 5) hS (by omega)
  have e36 : σ 36 = S 6 := st_e (f := 6) hS (by omega)
  have e37 : σ 37 = S 7 := st_e (f := 7) hS (by omega)
  have e38 : σ 38 = S 8 := st_e (f := 8) hS (by omega)
  have e39 : σ 39 = S 9 := st_e (f := 9) hS (by omega)
  have e40 : σ 40 = S 10 := st_e (f := 10) hS (by omega)
  have ew0 : σ w = Wm 0 := st_e0 hW
  have ew1 : σ (w + 1) = Wm 1 := st_e (f := 1) hW (by omega)
  have ew2 : σ (w + 2) = Wm 2 := st_e (f := 2) hW (by omega)
  have ew3 : σ (w + 3) = Wm 3 := st_e (f := 3) hW (by omega)
  have ew4 : σ (w + 4) = Wm 4 := st_e (f := 4) hW (by omega)
  have ew5 : σ (w + 5) = Wm 5 := st_e (f := 5) hW (by omega)
  have ew6 : σ (w + 6) = Wm 6 := st_e (f := 6) hW (by omega)
  have ew7 : σ (w + 7) = Wm 7 := st_e (f := 7) hW (by omega)
  have ew8 : σ (w + 8) = Wm 8 := st_e (f := 8) hW (by omega)
  have ew9 : σ (w + 9) = Wm 9 := st_e (f := 9) hW (by omega)
  have ew10 : σ (w + 10) = Wm 10 := st_e (f := 10) hW (by omega)
  have ew11 : σ (w + 11) = Wm 11 := st_e (f := 11) hW (by omega)
  have ew12 : σ (w + 12) = Wm 12 := st_e (f := 12) hW (by omega)
  have hSI0 := hSI
  have hWI0 := hWI
  obtain ⟨b0, b11, b12, bc, bm, bl, br⟩ := hSI
  obtain ⟨w1, w2, w3, w4, w5, w6, w7, w8, w9, w10⟩ := hWI
  refine zaload_n (k := 0) rfl rfl ?_
  refine zgR 8 (k := 1) rfl ob_1 fl_11_19 rfl fx_1_8 ?_
  first | rw [h8] | rw [h0.2 1 8 (by omega) (by omega) (by omega), h8]
  refine ziload_n (k := 2) rfl rfl ?_
  refine zfV1 (k := 3) rfl (c_War_hasMan hw) fm_War_hasMan lk_11_181 rfl rfl (wr_ob hw) ⟨_, rfl, rfl⟩ (Nat.le_of_ble_eq_true rfl) (by decide) ⟨by decide, by decide⟩ ?_
  try simp only [e30, e31, e32, e33, e34, e35, e36, e37, e38, e39, e40, ew0, ew1, ew2, ew3, ew4, ew5, ew6, ew7, ew8, ew9, ew10, ew11, ew12]
  refine zif_eq (k := 4) rfl rfl (fun c1 => ?_) (fun c1 => ?_)
  · skip
    refine ziconst (k := 10) rfl (by decide) ?_
    refine zireturn (k := 11) rfl rfl rfl ?_
    rw [← hQ]
    exact ⟨by first | (rw [if_pos (by omega)]; done) | (rw [if_neg (by (try split at c1) <;> (try split at c2) <;> omega)]; done), rfl, rfl⟩
  · skip
    have hmm : 0 ≤ m ∧ m < Wm 0 3 := by split at c1 <;> first | assumption | (exfalso; omega)
    refine zaload_n (k := 5) rfl rfl ?_
    refine zgR 8 (k := 6) rfl ob_1 fl_11_19 rfl fx_1_8 ?_
    first | rw [h8] | rw [h0.2 1 8 (by omega) (by omega) (by omega), h8]
    refine ziload_n (k := 7) rfl rfl ?_
    refine zfV1 (k := 8) rfl (c_War_hasCounty hw) fm_War_hasCounty lk_11_168 rfl rfl (wr_ob hw) ⟨_, rfl, rfl⟩ (Nat.le_of_ble_eq_true rfl) (by decide) ⟨by decide, by decide⟩ ?_
    try simp only [e30, e31, e32, e33, e34, e35, e36, e37, e38, e39, e40, ew0, ew1, ew2, ew3, ew4, ew5, ew6, ew7, ew8, ew9, ew10, ew11, ew12]
    refine zif_ne (k := 9) rfl rfl (fun c2 => ?_) (fun c2 => ?_)
    · skip
      have hcc : 0 ≤ c ∧ c < Wm 0 1 := by split at c2 <;> first | assumption | (exfalso; omega)
      refine zaload_n (k := 12) rfl rfl ?_
      refine zgF 6 (k := 13) rfl ob_1 fl_11_29 rfl fx_1_6 ?_
      refine ziload_n (k := 14) rfl rfl ?_
      refine ziload_n (k := 15) rfl rfl ?_
      refine zfV1 (k := 16) rfl (k_wtl ha hS (by omega) (by omega) b0 (bl _ (by omega) (by omega)).1) fm_State_weeksToLetter lk_11_209 rfl rfl ob_30 ⟨_, rfl, rfl⟩ (Nat.le_of_ble_eq_true rfl) (by decide) ⟨by decide, by decide⟩ ?_
      refine zireturn (k := 17) rfl rfl rfl ?_
      rw [← hQ]
      exact ⟨by first | (rw [if_pos (by omega)]; done) | (rw [if_neg (by (try split at c1) <;> (try split at c2) <;> omega)]; done), rfl, rfl⟩
    · skip
      refine ziconst (k := 10) rfl (by decide) ?_
      refine zireturn (k := 11) rfl rfl rfl ?_
      rw [← hQ]
      exact ⟨by first | (rw [if_pos (by omega)]; done) | (rw [if_neg (by (try split at c1) <;> (try split at c2) <;> omega)]; done), rfl, rfl⟩
set_option maxHeartbeats 4000000 in
set_option maxRecDepth 20000 in
theorem c_NT_tell {Γ : zv_M} {L : Int} {w : Int} {σ S Wm : zv_H} (h8 : σ 1 8 = w) (hw : w ∈ wrL) (hW : vw 12 σ w = Wm) (hS : vw 10 σ 30 = S) (hSI : SI (Wm 0 1) (Wm 0 3) S) (hWI : WI Wm) (hZ : SZ S) {n : Int} (hn : σ 62 1 = n) (hb : 0 ≤ n ∧ n < 20) (hac : 0 ≤ σ 62 2 ∧ σ 62 2 ≤ 20) (hAn : SZ (vw 10 σ (actn n))) {m c : Int} : zC Γ m_NT_tell 4 0 0 (GM L) [zR 1, zI m, zI c] σ (zPI (GM L) (fun z σ' => (¬ (((0 ≤ m ∧ m < Wm 0 3) ∧ (0 ≤ c ∧ c < Wm 0 1)) ∧ wklF S m c ≠ 0) ∧ z = 0 ∧ σ' = rfu σ 3) ∨ ((((0 ≤ m ∧ m < Wm 0 3) ∧ (0 ≤ c ∧ c < Wm 0 1)) ∧ wklF S m c ≠ 0) ∧ z = 1 ∧ remP σ σ' n S (sndF S m c (S 0 0))))) := by
  refine zC_of (ls0 := [_, _, _]) zm_NT_tell (by decide) rfl (Nat.le_of_ble_eq_true rfl) ?_
  generalize hQ : (zPI (GM L) (fun z σ' => (¬ (((0 ≤ m ∧ m < Wm 0 3) ∧ (0 ≤ c ∧ c < Wm 0 1)) ∧ wklF S m c ≠ 0) ∧ z = 0 ∧ σ' = rfu σ 3) ∨ ((((0 ≤ m ∧ m < Wm 0 3) ∧ (0 ≤ c ∧ c < Wm 0 1)) ∧ wklF S m c ≠ 0) ∧ z = 1 ∧ remP σ σ' n S (sndF S m c (S 0 0))))) = Q
  have ha : (30 : Int) ∈ stL := by decide
  have e30 : σ 30 = S 0 := st_e0 hS
  have e31 : σ 31 = S 1 := st_e (f := 1) hS (by omega)
  have e32 : σ 32 = S 2 := st_e (f := 2) hS (by omega)
  have e33 : σ 33 = S 3 := st_e (f := 3) hS (by omega)
  have e34 : σ 34 = S 4 := st_e (f := 4) hS (by omega)
  have e35 : σ 35 = S 5 := st_e (f := 5) hS (by omega)
  have e36 : σ 36 = S 6 := st_e (f := 6) hS (by omega)
  have e37 : σ 37 = S 7 := st_e (f := 7) hS (by omega)
  have e38 : σ 38 = S 8 := st_e (f := 8) hS (by omega)
  have e39 : σ 39 = S 9 := st_e (f := 9) hS (by omega)
  have e40 : σ 40 = S 10 := st_e (f := 10) hS (by omega)
  have ew0 : σ w = Wm 0 := st_e0 hW
  have ew1 : σ (w + 1) = Wm 1 := st_e (f := 1) hW (by omega)
  have ew2 : σ (w + 2) = Wm 2 := st_e (f := 2) hW (by omega)
  have ew3 : σ (w + 3) = Wm 3 := st_e (f := 3) hW (by omega)
  have ew4 : σ (w + 4) = Wm 4 := st_e (f := 4) hW (by omega)
  have ew5 : σ (w + 5) = Wm 5 := st_e (f := 5) hW (by omega)
  have ew6 : σ (w + 6) = Wm 6 := st_e (f := 6) hW (by omega)
  have ew7 : σ (w + 7) = Wm 7 := st_e (f := 7) hW (by omega)
  have ew8 : σ (w + 8) = Wm 8 := st_e (f := 8) hW (by omega)
  have ew9 : σ (w + 9) = Wm 9 := st_e (f := 9) hW (by omega)
  have ew10 : σ (w + 10) = Wm 10 := st_e (f := 10) hW (by omega)
  have ew11 : σ (w + 11) = Wm 11 := st_e (f := 11) hW (by omega)
  have ew12 : σ (w + 12) = Wm 12 := st_e (f := 12) hW (by omega)
  have hSI0 := hSI
  have hWI0 := hWI
  obtain ⟨b0, b11, b12, bc, bm, bl, br⟩ := hSI
  obtain ⟨w1, w2, w3, w4, w5, w6, w7, w8, w9, w10⟩ := hWI
  refine zaload_n (k := 0) rfl rfl ?_
  refine zgR 8 (k := 1) rfl ob_1 fl_11_19 rfl fx_1_8 ?_
  first | rw [h8] | rw [h0.2 1 8 (by omega) (by omega) (by omega), h8]
  refine ziload_n (k := 2) rfl rfl ?_
  refine zfV1 (k := 3) rfl (c_War_hasMan hw) fm_War_hasMan lk_11_181 rfl rfl (wr_ob hw) ⟨_, rfl, rfl⟩ (Nat.le_of_ble_eq_true rfl) (by decide) ⟨by decide, by decide⟩ ?_
  try simp only [e30, e31, e32, e33, e34, e35, e36, e37, e38, e39, e40, ew0, ew1, ew2, ew3, ew4, ew5, ew6, ew7, ew8, ew9, ew10, ew11, ew12]
  refine zif_eq (k := 4) rfl rfl (fun c1 => ?_) (fun c1 => ?_)
  · skip
    refine zaload_n (k := 16) rfl rfl ?_
    refine ziconst (k := 17) rfl (by decide) ?_
    refine zfV0 (k := 18) rfl (c_NT_refuse (by omega)) fm_NT_refuse lk_11_104 rfl rfl ob_1 ⟨_, rfl, rfl⟩ (Nat.le_of_ble_eq_true rfl) (by decide) ⟨by decide, by decide⟩ ?_
    refine ziconst (k := 19) rfl (by decide) ?_
    refine zzreturn (k := 20) rfl rfl (by first | exact Or.inl rfl | exact Or.inr rfl | omega) rfl ?_
    rw [← hQ]
    refine ⟨rfl, _, rfl, Or.inl ⟨?_, rfl, rfl⟩⟩
    first | omega | ((try split at c1) <;> (try split at c2) <;> omega)
  · skip
    have hmm : 0 ≤ m ∧ m < Wm 0 3 := by split at c1 <;> first | assumption | (exfalso; omega)
    refine zaload_n (k := 5) rfl rfl ?_
    refine zgR 8 (k := 6) rfl ob_1 fl_11_19 rfl fx_1_8 ?_
    first | rw [h8] | rw [h0.2 1 8 (by omega) (by omega) (by omega), h8]
    refine ziload_n (k := 7) rfl rfl ?_
    refine zfV1 (k := 8) rfl (c_War_hasCounty hw) fm_War_hasCounty lk_11_168 rfl rfl (wr_ob hw) ⟨_, rfl, rfl⟩ (Nat.le_of_ble_eq_true rfl) (by decide) ⟨by decide, by decide⟩ ?_
    try simp only [e30, e31, e32, e33, e34, e35, e36, e37, e38, e39, e40, ew0, ew1, ew2, ew3, ew4, ew5, ew6, ew7, ew8, ew9, ew10, ew11, ew12]
    refine zif_eq (k := 9) rfl rfl (fun c2 => ?_) (fun c2 => ?_)
    · skip
      refine zaload_n (k := 16) rfl rfl ?_
      refine ziconst (k := 17) rfl (by decide) ?_
      refine zfV0 (k := 18) rfl (c_NT_refuse (by omega)) fm_NT_refuse lk_11_104 rfl rfl ob_1 ⟨_, rfl, rfl⟩ (Nat.le_of_ble_eq_true rfl) (by decide) ⟨by decide, by decide⟩ ?_
      refine ziconst (k := 19) rfl (by decide) ?_
      refine zzreturn (k := 20) rfl rfl (by first | exact Or.inl rfl | exact Or.inr rfl | omega) rfl ?_
      rw [← hQ]
      refine ⟨rfl, _, rfl, Or.inl ⟨?_, rfl, rfl⟩⟩
      first | omega | ((try split at c1) <;> (try split at c2) <;> omega)
    · skip
      have hcc : 0 ≤ c ∧ c < Wm 0 1 := by split at c2 <;> first | assumption | (exfalso; omega)
      refine zaload_n (k := 10) rfl rfl ?_
      refine zgF 6 (k := 11) rfl ob_1 fl_11_29 rfl fx_1_6 ?_
      refine ziload_n (k := 12) rfl rfl ?_
      refine ziload_n (k := 13) rfl rfl ?_
      refine zfV1 (k := 14) rfl (k_wtl ha hS (by omega) (by omega) b0 (bl _ (by omega) (by omega)).1) fm_State_weeksToLetter lk_11_209 rfl rfl ob_30 ⟨_, rfl, rfl⟩ (Nat.le_of_ble_eq_true rfl) (by decide) ⟨by decide, by decide⟩ ?_
      refine zif_ne (k := 15) rfl rfl (fun c3 => ?_) (fun c3 => ?_)
      · skip
        refine zaload_n (k := 21) rfl rfl ?_
        refine zgF 4 (k := 22) rfl ob_1 fl_11_64 rfl fx_1_4 ?_
        refine zaload_n (k := 23) rfl rfl ?_
        refine zgF 6 (k := 24) rfl ob_1 fl_11_29 rfl fx_1_6 ?_
        refine zpV0 (k := 25) rfl (k_rem hn hb hac hS hZ hAn) fm_Acts_remember lk_11_275 rfl rfl ob_62 ⟨_, rfl, rfl⟩ (Nat.le_of_ble_eq_true rfl) (by decide) ⟨by decide, by decide⟩ (fun σ1 hr => ?_)
        have h0 : stp σ1 σ1 30 S := ⟨hr.1, fun _ _ _ _ _ => rfl⟩
        refine zaload_n (k := 26) rfl rfl ?_
        refine zgF 6 (k := 27) rfl ob_1 fl_11_29 rfl fx_1_6 ?_
        refine ziload_n (k := 28) rfl rfl ?_
        refine ziload_n (k := 29) rfl rfl ?_
        refine zaload_n (k := 30) rfl rfl ?_
        refine zgF 6 (k := 31) rfl ob_1 fl_11_29 rfl fx_1_6 ?_
        refine zgI 0 (k := 32) rfl ob_30 fl_11_139 rfl fx_30_0 ?_
        try simp only [e30, e31, e32, e33, e34, e35, e36, e37, e38, e39, e40, ew0, ew1, ew2, ew3, ew4, ew5, ew6, ew7, ew8, ew9, ew10, ew11, ew12]
        rw [show σ1 30 = S 0 from st_e0 hr.1]
        refine zpV0 (k := 33) rfl (k_send ha h0 (by omega) (by omega)) fm_State_send lk_11_281 rfl rfl ob_30 ⟨_, rfl, rfl⟩ (Nat.le_of_ble_eq_true rfl) (by decide) ⟨by decide, by decide⟩ (fun σn hh => ?_)
        clear h0
        have h0 := hh
        clear hh
        refine ziconst (k := 34) rfl (by decide) ?_
        refine zzreturn (k := 35) rfl rfl (by first | exact Or.inl rfl | exact Or.inr rfl | omega) rfl ?_
        rw [← hQ]
        exact ⟨rfl, _, rfl, Or.inr ⟨by omega, rfl, remP_st hb hr h0⟩⟩
      · skip
        refine zaload_n (k := 16) rfl rfl ?_
        refine ziconst (k := 17) rfl (by decide) ?_
        refine zfV0 (k := 18) rfl (c_NT_refuse (by omega)) fm_NT_refuse lk_11_104 rfl rfl ob_1 ⟨_, rfl, rfl⟩ (Nat.le_of_ble_eq_true rfl) (by decide) ⟨by decide, by decide⟩ ?_
        refine ziconst (k := 19) rfl (by decide) ?_
        refine zzreturn (k := 20) rfl rfl (by first | exact Or.inl rfl | exact Or.inr rfl | omega) rfl ?_
        rw [← hQ]
        refine ⟨rfl, _, rfl, Or.inl ⟨?_, rfl, rfl⟩⟩
        first | omega | ((try split at c1) <;> (try split at c2) <;> omega)
set_option maxHeartbeats 4000000 in
set_option maxRecDepth 20000 in
theorem c_NT_undo {Γ : zv_M} {L : Int} {w : Int} {σ S Wm : zv_H} (h8 : σ 1 8 = w) (hw : w ∈ wrL) (hW : vw 12 σ w = Wm) (hS : vw 10 σ 30 = S) (hSI : SI (Wm 0 1) (Wm 0 3) S) (hWI : WI Wm) (hZ : SZ S) {n : Int} (hn : σ 62 1 = n) (hb : 0 ≤ n ∧ n < 20) (hac : 0 ≤ σ 62 2 ∧ σ 62 2 ≤ 20) (hAn : SZ (vw 10 σ (actn ((n + 20 - 1) % 20)))) : zC Γ m_NT_undo 4 0 0 (GM L) [zR 1] σ (zPI (GM L) (fun z σ' => (σ 62 2 = 0 ∧ z = 0 ∧ σ' = rfu σ 4) ∨ (0 < σ 62 2 ∧ z = 1 ∧ vw 10 σ' 30 = vw 10 σ (actn ((n + 20 - 1) % 20)) ∧ σ' 62 1 = (n + 20 - 1) % 20 ∧ σ' 62 2 = σ 62 2 - 1 ∧ ∀ x k, ¬ (30 ≤ x ∧ x ≤ 40) → ¬ (x = 62 ∧ (k = 1 ∨ k = 2)) → x ≠ 56 → x ≠ 57 → σ' x k = σ x k))) := by
  refine zC_of (ls0 := [_]) zm_NT_undo (by decide) rfl (Nat.le_of_ble_eq_true rfl) ?_
  generalize hQ : (zPI (GM L) (fun z σ' => (σ 62 2 = 0 ∧ z = 0 ∧ σ' = rfu σ 4) ∨ (0 < σ 62 2 ∧ z = 1 ∧ vw 10 σ' 30 = vw 10 σ (actn ((n + 20 - 1) % 20)) ∧ σ' 62 1 = (n + 20 - 1) % 20 ∧ σ' 62 2 = σ 62 2 - 1 ∧ ∀ x k, ¬ (30 ≤ x ∧ x ≤ 40) → ¬ (x = 62 ∧ (k = 1 ∨ k = 2)) → x ≠ 56 → x ≠ 57 → σ' x k = σ x k))) = Q
  have ha : (30 : Int) ∈ stL := by decide
  have e30 : σ 30 = S 0 := st_e0 hS
  have e31 : σ 31 = S 1 := st_e (f := 1) hS (by omega)
  have e32 : σ 32 = S 2 := st_e (f := 2) hS (by omega)
  have e33 : σ 33 = S 3 := st_e (f := 3) hS (by omega)
  have e34 : σ 34 = S 4 := st_e (f := 4) hS (by omega)
  have e35 : σ 35 = S 5 := st_e (f := 5) hS (by omega)
  have e36 : σ 36 = S 6 := st_e (f := 6) hS (by omega)
  have e37 : σ 37 = S 7 := st_e (f := 7) hS (by omega)
  have e38 : σ 38 = S 8 := st_e (f := 8) hS (by omega)
  have e39 : σ 39 = S 9 := st_e (f := 9) hS (by omega)
  have e40 : σ 40 = S 10 := st_e (f := 10) hS (by omega)
  have ew0 : σ w = Wm 0 := st_e0 hW
  have ew1 : σ (w + 1) = Wm 1 := st_e (f := 1) hW (by omega)
  have ew2 : σ (w + 2) = Wm 2 := st_e (f := 2) hW (by omega)
  have ew3 : σ (w + 3) = Wm 3 := st_e (f := 3) hW (by omega)
  have ew4 : σ (w + 4) = Wm 4 := st_e (f := 4) hW (by omega)
  have ew5 : σ (w + 5) = Wm 5 := st_e (f := 5) hW (by omega)
  have ew6 : σ (w + 6) = Wm 6 := st_e (f := 6) hW (by omega)
  have ew7 : σ (w + 7) = Wm 7 := st_e (f := 7) hW (by omega)
  have ew8 : σ (w + 8) = Wm 8 := st_e (f := 8) hW (by omega)
  have ew9 : σ (w + 9) = Wm 9 := st_e (f := 9) hW (by omega)
  have ew10 : σ (w + 10) = Wm 10 := st_e (f := 10) hW (by omega)
  have ew11 : σ (w + 11) = Wm 11 := st_e (f := 11) hW (by omega)
  have ew12 : σ (w + 12) = Wm 12 := st_e (f := 12) hW (by omega)
  have hSI0 := hSI
  have hWI0 := hWI
  obtain ⟨b0, b11, b12, bc, bm, bl, br⟩ := hSI
  obtain ⟨w1, w2, w3, w4, w5, w6, w7, w8, w9, w10⟩ := hWI
  refine zaload_n (k := 0) rfl rfl ?_
  refine zgF 4 (k := 1) rfl ob_1 fl_11_64 rfl fx_1_4 ?_
  refine zaload_n (k := 2) rfl rfl ?_
  refine zgF 6 (k := 3) rfl ob_1 fl_11_29 rfl fx_1_6 ?_
  refine zpVI (k := 4) rfl (c_Acts_takeBack hn hb hac hAn (by rw [hS]; exact hZ)) fm_Acts_takeBack lk_11_285 rfl rfl ob_62 ⟨_, rfl, rfl⟩ (Nat.le_of_ble_eq_true rfl) (by decide) ⟨by decide, by decide⟩ (fun z σ2 h2 => ?_)
  refine zif_ne (k := 5) rfl rfl (fun c1 => ?_) (fun c1 => ?_)
  · skip
    refine ziconst (k := 11) rfl (by decide) ?_
    refine zzreturn (k := 12) rfl rfl (by first | exact Or.inl rfl | exact Or.inr rfl | omega) rfl ?_
    rw [← hQ]
    rcases h2 with ⟨g1, g2, g3⟩ | ⟨g1, g2, g3⟩
    · exfalso; omega
    · exact ⟨rfl, _, rfl, Or.inr ⟨g1, rfl, g3⟩⟩
  · skip
    refine zaload_n (k := 6) rfl rfl ?_
    refine ziconst (k := 7) rfl (by decide) ?_
    refine zfV0 (k := 8) rfl (c_NT_refuse (by omega)) fm_NT_refuse lk_11_104 rfl rfl ob_1 ⟨_, rfl, rfl⟩ (Nat.le_of_ble_eq_true rfl) (by decide) ⟨by decide, by decide⟩ ?_
    refine ziconst (k := 9) rfl (by decide) ?_
    refine zzreturn (k := 10) rfl rfl (by first | exact Or.inl rfl | exact Or.inr rfl | omega) rfl ?_
    rw [← hQ]
    rcases h2 with ⟨g1, g2, g3⟩ | ⟨g1, g2, g3⟩
    · exact ⟨rfl, _, rfl, Or.inl ⟨g1, rfl, by rw [g3]⟩⟩
    · exfalso; omega
