/-! letter, has, feed, end -/
def letQ (Wm : zv_H) (t c k : Int) : Int := if ¬ (0 ≤ k ∧ k < 6) then -1 else if t = 0 ∧ 0 ≤ c ∧ c < Wm 0 1 then zlet (Wm 1 c) (5 - k.toNat) % 27 else if t = 1 ∧ 0 ≤ c ∧ c < Wm 0 3 then zlet (Wm 5 c) (5 - k.toNat) % 27 else -1
def hwN (f : Int → Int) (v : Int) : Nat → Int
  | 0 => 0
  | j + 1 => hwN f v j + (if f j = v then 1 else 0)
theorem zhow_N (σ : zv_H) (a v : Int) : ∀ j : Nat, zhow σ a v j = hwN (σ a) v j
  | 0 => rfl
  | j + 1 => by rw [zhow_s, zhow_N σ a v j]; rfl
theorem k_how {Γ : zv_M} {L : Int} {σ : zv_H} {a n m v : Int} (ha : zv_ar (GM L) a .int n) (h0 : 0 ≤ m ∧ m ≤ n) (hn : n ≤ 60) : zC Γ m_NT_howMany 0 0 0 (GM L) [zR a, zI m, zI v] σ (zFn (some (zI (hwN (σ a) v m.toNat))) (GM L) σ) := by
  have h := c_NT_howMany (Γ := Γ) (m := m) (v := v) (σ := σ) ha (by omega) (by omega)
  rw [zmn_le h0, zhow_N] at h
  exact h
def hasV (Wm S : zv_H) (sn ac sd : Int) : List Int := [Wm 0 1, Wm 0 2, Wm 0 3, S 0 0, sumN (S 1) (Wm 0 1).toNat, hwN (S 5) 3 (Wm 0 3).toNat, hwN (S 5) 4 (Wm 0 3).toNat, sumN (S 7) (Wm 0 3).toNat, sumN (S 8) (Wm 0 3).toNat, S 0 12, sn, ac, sd]
def hasQ (Wm S : zv_H) (sn ac sd t : Int) : Int := if t < 0 then -1 else (hasV Wm S sn ac sd).getD t.toNat (-1)
theorem hasQ_n {Wm S : zv_H} {sn ac sd t : Int} (h : t < 0 ∨ 12 < t) : hasQ Wm S sn ac sd t = -1 := by
  unfold hasQ
  rcases h with h | h
  · rw [if_pos h]
  · rw [if_neg (by omega), List.getD_eq_getElem?_getD, List.getElem?_eq_none (by show 13 ≤ t.toNat; omega)]; rfl
set_option maxHeartbeats 4000000 in
set_option maxRecDepth 20000 in
theorem c_NT_letter {Γ : zv_M} {L : Int} {w : Int} {σ S Wm : zv_H} (h8 : σ 1 8 = w) (hw : w ∈ wrL) (hW : vw 12 σ w = Wm) (hS : vw 10 σ 30 = S) (hSI : SI (Wm 0 1) (Wm 0 3) S) (hWI : WI Wm) {t c k : Int} : zC Γ m_NT_letter 3 0 0 (GM L) [zR 1, zI t, zI c, zI k] σ (zFn (some (zI (letQ Wm t c k))) (GM L) σ) := by
  refine zC_of (ls0 := [_, _, _, _]) zm_NT_letter (by decide) rfl (Nat.le_of_ble_eq_true rfl) ?_
  generalize hQ : (zFn (some (zI (letQ Wm t c k))) (GM L) σ) = Q
  have ha : (30 : Int) ∈ stL := by decide
  have e30 : σ 30 = S 0 := st_e0 hS
  have e31 : σ 31 = S 1 := st_e (f := 1) hS (by omega)
  have e32 : σ 32 = S 2 := st_e (f := 2) hS (by omega)
  have e33 : σ 33 = S 3 := st_e (f := 3) hS (by omega)
  have e34 : σ 34 = S 4 := st_e (f := 4) hS (by omega)
  have e35 : σ 35 = S 5 := st_e (f := 5) hS (by omega)
  have e36 : σ 36 = S 6 := st_e (f := 6) hS (by omega)
  have e37 : σ 37 = S 7 := st_e (f := 7) hS (by omega)
  have e38 : σ 38 = S 8 := st_e (f := 8) hS (by omega)
  have e39 : σ 39 = S 9 := st_e (f := 9) hS (by omega)
  have e40 : σ 40 = S 10 := st_e (f := 10) hS (by omega)
  have ew0 : σ w = Wm 0 := st_e0 hW
  have ew1 : σ (w + 1) = Wm 1 := st_e (f := 1) hW (by omega)
  have ew2 : σ (w + 2) = Wm 2 := st_e (f := 2) hW (by omega)
  have ew3 : σ (w + 3) = Wm 3 := st_e (f := 3) hW (by omega)
  have ew4 : σ (w + 4) = Wm 4 := st_e (f := 4) hW (by omega)
  have ew5 : σ (w + 5) = Wm 5 := st_e (f := 5) hW (by omega)
  have ew6 : σ (w + 6) = Wm 6 := st_e (f := 6) hW (by omega)
  have ew7 : σ (w + 7) = Wm 7 := st_e (f := 7) hW (by omega)
  have ew8 : σ (w + 8) = Wm 8 := st_e (f := 8) hW (by omega)
  have ew9 : σ (w + 9) = Wm 9 := st_e (f := 9) hW (by omega)
  have ew10 : σ (w + 10) = Wm 10 := st_e (f := 10) hW (by omega)
  have ew11 : σ (w + 11) = Wm 11 := st_e (f := 11) hW (by omega)
  have ew12 : σ (w + 12) = Wm 12 := st_e (f := 12) hW (by omega)
  have hSI0 := hSI
  have hWI0 := hWI
  obtain ⟨b0, b11, b12, bc, bm, bl, br⟩ := hSI
  obtain ⟨w1, w2, w3, w4, w5, w6, w7, w8, w9, w10⟩ := hWI
  refine ziload_n (k := 0) rfl rfl ?_
  refine zif_lt (k := 1) rfl rfl (fun c1 => ?_) (fun c1 => ?_)
  · skip
    refine ziconst (k := 5) rfl (by decide) ?_
    refine zireturn (k := 6) rfl rfl rfl ?_
    rw [← hQ]
    exact ⟨by unfold letQ; rw [if_pos (by omega)], rfl, rfl⟩
  · skip
    refine ziload_n (k := 2) rfl rfl ?_
    refine zbipush (k := 3) rfl rfl ?_
    refine zicmp_lt (k := 4) rfl rfl (fun c2 => ?_) (fun c2 => ?_)
    · skip
      refine ziload_n (k := 7) rfl rfl ?_
      refine zif_ne (k := 8) rfl rfl (fun c3 => ?_) (fun c3 => ?_)
      · skip
        refine ziload_n (k := 22) rfl rfl ?_
        refine ziconst (k := 23) rfl (by decide) ?_
        refine zicmp_ne (k := 24) rfl rfl (fun c4 => ?_) (fun c4 => ?_)
        · skip
          refine ziconst (k := 38) rfl (by decide) ?_
          refine zireturn (k := 39) rfl rfl rfl ?_
          rw [← hQ]
          exact ⟨by unfold letQ; rw [if_neg (by omega), if_neg (by omega), if_neg (by omega)], rfl, rfl⟩
        · skip
          refine zaload_n (k := 25) rfl rfl ?_
          refine zgR 8 (k := 26) rfl ob_1 fl_11_19 rfl fx_1_8 ?_
          first | rw [h8] | rw [h0.2 1 8 (by omega) (by omega) (by omega), h8]
          refine ziload_n (k := 27) rfl rfl ?_
          refine zfV1 (k := 28) rfl (c_War_hasMan hw) fm_War_hasMan lk_11_181 rfl rfl (wr_ob hw) ⟨_, rfl, rfl⟩ (Nat.le_of_ble_eq_true rfl) (by decide) ⟨by decide, by decide⟩ ?_
          try simp only [e30, e31, e32, e33, e34, e35, e36, e37, e38, e39, e40, ew0, ew1, ew2, ew3, ew4, ew5, ew6, ew7, ew8, ew9, ew10, ew11, ew12]
          refine zif_eq (k := 29) rfl rfl (fun c5 => ?_) (fun c5 => ?_)
          · skip
            refine ziconst (k := 38) rfl (by decide) ?_
            refine zireturn (k := 39) rfl rfl rfl ?_
            rw [← hQ]
            exact ⟨by unfold letQ; rw [if_neg (by omega), if_neg (by omega), if_neg (by omega)], rfl, rfl⟩
          · skip
            have hmm : 0 ≤ c ∧ c < Wm 0 3 := by omega
            refine zaload_n (k := 30) rfl rfl ?_
            refine zgR 8 (k := 31) rfl ob_1 fl_11_19 rfl fx_1_8 ?_
            first | rw [h8] | rw [h0.2 1 8 (by omega) (by omega) (by omega), h8]
            refine zgF 9 (k := 32) rfl (wr_ob hw) fl_11_184 rfl (wr_fx_9 hw) ?_
            refine ziload_n (k := 33) rfl rfl ?_
            refine zfS1 (k := 34) rfl (c_NT_at (wr_ar_5 hw)) fm_NT_at lk_11_174 rfl rfl (Nat.le_of_ble_eq_true rfl) (by decide) ⟨by decide, by decide⟩ ?_
            rw [zat_in (by omega)]
            try simp only [e30, e31, e32, e33, e34, e35, e36, e37, e38, e39, e40, ew0, ew1, ew2, ew3, ew4, ew5, ew6, ew7, ew8, ew9, ew10, ew11, ew12]
            refine ziload_n (k := 35) rfl rfl ?_
            refine zfS1 (k := 36) rfl (c_NT_letterOf (by omega) (by have := w7 c (by omega) (by omega); omega)) fm_NT_letterOf lk_11_177 rfl rfl (Nat.le_of_ble_eq_true rfl) (by decide) ⟨by decide, by decide⟩ ?_
            refine zireturn (k := 37) rfl rfl rfl ?_
            rw [← hQ]
            exact ⟨by unfold letQ; rw [if_neg (by omega), if_neg (by omega), if_pos (by omega)], rfl, rfl⟩
      · skip
        refine zaload_n (k := 9) rfl rfl ?_
        refine zgR 8 (k := 10) rfl ob_1 fl_11_19 rfl fx_1_8 ?_
        first | rw [h8] | rw [h0.2 1 8 (by omega) (by omega) (by omega), h8]
        refine ziload_n (k := 11) rfl rfl ?_
        refine zfV1 (k := 12) rfl (c_War_hasCounty hw) fm_War_hasCounty lk_11_168 rfl rfl (wr_ob hw) ⟨_, rfl, rfl⟩ (Nat.le_of_ble_eq_true rfl) (by decide) ⟨by decide, by decide⟩ ?_
        try simp only [e30, e31, e32, e33, e34, e35, e36, e37, e38, e39, e40, ew0, ew1, ew2, ew3, ew4, ew5, ew6, ew7, ew8, ew9, ew10, ew11, ew12]
        refine zif_eq (k := 13) rfl rfl (fun c6 => ?_) (fun c6 => ?_)
        · skip
          refine ziload_n (k := 22) rfl rfl ?_
          refine ziconst (k := 23) rfl (by decide) ?_
          refine zicmp_ne (k := 24) rfl rfl (fun c7 => ?_) (fun c7 => ?_)
          · skip
            refine ziconst (k := 38) rfl (by decide) ?_
            refine zireturn (k := 39) rfl rfl rfl ?_
            rw [← hQ]
            exact ⟨by unfold letQ; rw [if_neg (by omega), if_neg (by omega), if_neg (by omega)], rfl, rfl⟩
          · skip
            refine zaload_n (k := 25) rfl rfl ?_
            refine zgR 8 (k := 26) rfl ob_1 fl_11_19 rfl fx_1_8 ?_
            first | rw [h8] | rw [h0.2 1 8 (by omega) (by omega) (by omega), h8]
            refine ziload_n (k := 27) rfl rfl ?_
            refine zfV1 (k := 28) rfl (c_War_hasMan hw) fm_War_hasMan lk_11_181 rfl rfl (wr_ob hw) ⟨_, rfl, rfl⟩ (Nat.le_of_ble_eq_true rfl) (by decide) ⟨by decide, by decide⟩ ?_
            try simp only [e30, e31, e32, e33, e34, e35, e36, e37, e38, e39, e40, ew0, ew1, ew2, ew3, ew4, ew5, ew6, ew7, ew8, ew9, ew10, ew11, ew12]
            refine zif_eq (k := 29) rfl rfl (fun c8 => ?_) (fun c8 => ?_)
            · skip
              refine ziconst (k := 38) rfl (by decide) ?_
              refine zireturn (k := 39) rfl rfl rfl ?_
              rw [← hQ]
              exact ⟨by unfold letQ; rw [if_neg (by omega), if_neg (by omega), if_neg (by omega)], rfl, rfl⟩
            · skip
              have hmm : 0 ≤ c ∧ c < Wm 0 3 := by omega
              refine zaload_n (k := 30) rfl rfl ?_
              refine zgR 8 (k := 31) rfl ob_1 fl_11_19 rfl fx_1_8 ?_
              first | rw [h8] | rw [h0.2 1 8 (by omega) (by omega) (by omega), h8]
              refine zgF 9 (k := 32) rfl (wr_ob hw) fl_11_184 rfl (wr_fx_9 hw) ?_
              refine ziload_n (k := 33) rfl rfl ?_
              refine zfS1 (k := 34) rfl (c_NT_at (wr_ar_5 hw)) fm_NT_at lk_11_174 rfl rfl (Nat.le_of_ble_eq_true rfl) (by decide) ⟨by decide, by decide⟩ ?_
              rw [zat_in (by omega)]
              try simp only [e30, e31, e32, e33, e34, e35, e36, e37, e38, e39, e40, ew0, ew1, ew2, ew3, ew4, ew5, ew6, ew7, ew8, ew9, ew10, ew11, ew12]
              refine ziload_n (k := 35) rfl rfl ?_
              refine zfS1 (k := 36) rfl (c_NT_letterOf (by omega) (by have := w7 c (by omega) (by omega); omega)) fm_NT_letterOf lk_11_177 rfl rfl (Nat.le_of_ble_eq_true rfl) (by decide) ⟨by decide, by decide⟩ ?_
              refine zireturn (k := 37) rfl rfl rfl ?_
              rw [← hQ]
              exact ⟨by unfold letQ; rw [if_neg (by omega), if_neg (by omega), if_pos (by omega)], rfl, rfl⟩
        · skip
          have hcc : 0 ≤ c ∧ c < Wm 0 1 := by omega
          refine zaload_n (k := 14) rfl rfl ?_
          refine zgR 8 (k := 15) rfl ob_1 fl_11_19 rfl fx_1_8 ?_
          first | rw [h8] | rw [h0.2 1 8 (by omega) (by omega) (by omega), h8]
          refine zgF 5 (k := 16) rfl (wr_ob hw) fl_11_171 rfl (wr_fx_5 hw) ?_
          refine ziload_n (k := 17) rfl rfl ?_
          refine zfS1 (k := 18) rfl (c_NT_at (wr_ar_1 hw)) fm_NT_at lk_11_174 rfl rfl (Nat.le_of_ble_eq_true rfl) (by decide) ⟨by decide, by decide⟩ ?_
          rw [zat_in (by omega)]
          try simp only [e30, e31, e32, e33, e34, e35, e36, e37, e38, e39, e40, ew0, ew1, ew2, ew3, ew4, ew5, ew6, ew7, ew8, ew9, ew10, ew11, ew12]
          refine ziload_n (k := 19) rfl rfl ?_
          refine zfS1 (k := 20) rfl (c_NT_letterOf (by omega) (by have := w6 c (by omega) (by omega); omega)) fm_NT_letterOf lk_11_177 rfl rfl (Nat.le_of_ble_eq_true rfl) (by decide) ⟨by decide, by decide⟩ ?_
          refine zireturn (k := 21) rfl rfl rfl ?_
          rw [← hQ]
          exact ⟨by unfold letQ; rw [if_neg (by omega), if_pos (by omega)], rfl, rfl⟩
    · skip
      refine ziconst (k := 5) rfl (by decide) ?_
      refine zireturn (k := 6) rfl rfl rfl ?_
      rw [← hQ]
      exact ⟨by unfold letQ; rw [if_pos (by omega)], rfl, rfl⟩
set_option maxHeartbeats 4000000 in
set_option maxRecDepth 20000 in
theorem c_NT_has {Γ : zv_M} {L : Int} {w : Int} {σ S Wm : zv_H} (h8 : σ 1 8 = w) (hw : w ∈ wrL) (hW : vw 12 σ w = Wm) (hS : vw 10 σ 30 = S) (hSI : SI (Wm 0 1) (Wm 0 3) S) (hWI : WI Wm) {t : Int} : zC Γ m_NT_has 3 0 0 (GM L) [zR 1, zI t] σ (zFn (some (zI (hasQ Wm S (σ 1 15) (σ 62 2) (σ 1 10) t))) (GM L) σ) := by
  refine zC_of (ls0 := [_, _]) zm_NT_has (by decide) rfl (Nat.le_of_ble_eq_true rfl) ?_
  generalize hQ : (zFn (some (zI (hasQ Wm S (σ 1 15) (σ 62 2) (σ 1 10) t))) (GM L) σ) = Q
  have ha : (30 : Int) ∈ stL := by decide
  have e30 : σ 30 = S 0 := st_e0 hS
  have e31 : σ 31 = S 1 := st_e (f := 1) hS (by omega)
  have e32 : σ 32 = S 2 := st_e (f := 2) hS (by omega)
  have e33 : σ 33 = S 3 := st_e (f := 3) hS (by omega)
  have e34 : σ 34 = S 4 := st_e (f := 4) hS (by omega)
  have e35 : σ 35 = S 5 := st_e (f := 5) hS (by omega)
  have e36 : σ 36 = S 6 := st_e (f := 6) hS (by omega)
  have e37 : σ 37 = S 7 := st_e (f := 7) hS (by omega)
  have e38 : σ 38 = S 8 := st_e (f := 8) hS (by omega)
  have e39 : σ 39 = S 9 := st_e (f := 9) hS (by omega)
  have e40 : σ 40 = S 10 := st_e (f := 10) hS (by omega)
  have ew0 : σ w = Wm 0 := st_e0 hW
  have ew1 : σ (w + 1) = Wm 1 := st_e (f := 1) hW (by omega)
  have ew2 : σ (w + 2) = Wm 2 := st_e (f := 2) hW (by omega)
  have ew3 : σ (w + 3) = Wm 3 := st_e (f := 3) hW (by omega)
  have ew4 : σ (w + 4) = Wm 4 := st_e (f := 4) hW (by omega)
  have ew5 : σ (w + 5) = Wm 5 := st_e (f := 5) hW (by omega)
  have ew6 : σ (w + 6) = Wm 6 := st_e (f := 6) hW (by omega)
  have ew7 : σ (w + 7) = Wm 7 := st_e (f := 7) hW (by omega)
  have ew8 : σ (w + 8) = Wm 8 := st_e (f := 8) hW (by omega)
  have ew9 : σ (w + 9) = Wm 9 := st_e (f := 9) hW (by omega)
  have ew10 : σ (w + 10) = Wm 10 := st_e (f := 10) hW (by omega)
  have ew11 : σ (w + 11) = Wm 11 := st_e (f := 11) hW (by omega)
  have ew12 : σ (w + 12) = Wm 12 := st_e (f := 12) hW (by omega)
  have hSI0 := hSI
  have hWI0 := hWI
  obtain ⟨b0, b11, b12, bc, bm, bl, br⟩ := hSI
  obtain ⟨w1, w2, w3, w4, w5, w6, w7, w8, w9, w10⟩ := hWI
  refine ziload_n (k := 0) rfl rfl ?_
  refine ztabC (k := 1) (v := 0) 0 rfl rfl (by decide) rfl rfl (fun c1 => ?_) (fun c1 => ?_)
  · skip
    refine zaload_n (k := 2) rfl rfl ?_
    refine zgR 8 (k := 3) rfl ob_1 fl_11_19 rfl fx_1_8 ?_
    first | rw [h8] | rw [h0.2 1 8 (by omega) (by omega) (by omega), h8]
    refine zgI 1 (k := 4) rfl (wr_ob hw) fl_11_130 rfl (wr_fx_1 hw) ?_
    try simp only [e30, e31, e32, e33, e34, e35, e36, e37, e38, e39, e40, ew0, ew1, ew2, ew3, ew4, ew5, ew6, ew7, ew8, ew9, ew10, ew11, ew12]
    refine zireturn (k := 5) rfl rfl rfl ?_
    rw [← hQ]
    exact ⟨by rw [c1]; rfl, rfl, rfl⟩
  refine ztabC (k := 1) (v := 1) 1 rfl rfl (by decide) rfl rfl (fun c2 => ?_) (fun c2 => ?_)
  · skip
    refine zaload_n (k := 6) rfl rfl ?_
    refine zgR 8 (k := 7) rfl ob_1 fl_11_19 rfl fx_1_8 ?_
    first | rw [h8] | rw [h0.2 1 8 (by omega) (by omega) (by omega), h8]
    refine zgI 2 (k := 8) rfl (wr_ob hw) fl_11_133 rfl (wr_fx_2 hw) ?_
    try simp only [e30, e31, e32, e33, e34, e35, e36, e37, e38, e39, e40, ew0, ew1, ew2, ew3, ew4, ew5, ew6, ew7, ew8, ew9, ew10, ew11, ew12]
    refine zireturn (k := 9) rfl rfl rfl ?_
    rw [← hQ]
    exact ⟨by rw [c2]; rfl, rfl, rfl⟩
  refine ztabC (k := 1) (v := 2) 2 rfl rfl (by decide) rfl rfl (fun c3 => ?_) (fun c3 => ?_)
  · skip
    refine zaload_n (k := 10) rfl rfl ?_
    refine zgR 8 (k := 11) rfl ob_1 fl_11_19 rfl fx_1_8 ?_
    first | rw [h8] | rw [h0.2 1 8 (by omega) (by omega) (by omega), h8]
    refine zgI 3 (k := 12) rfl (wr_ob hw) fl_11_136 rfl (wr_fx_3 hw) ?_
    try simp only [e30, e31, e32, e33, e34, e35, e36, e37, e38, e39, e40, ew0, ew1, ew2, ew3, ew4, ew5, ew6, ew7, ew8, ew9, ew10, ew11, ew12]
    refine zireturn (k := 13) rfl rfl rfl ?_
    rw [← hQ]
    exact ⟨by rw [c3]; rfl, rfl, rfl⟩
  refine ztabC (k := 1) (v := 3) 3 rfl rfl (by decide) rfl rfl (fun c4 => ?_) (fun c4 => ?_)
  · skip
    refine zaload_n (k := 14) rfl rfl ?_
    refine zgF 6 (k := 15) rfl ob_1 fl_11_29 rfl fx_1_6 ?_
    refine zgI 0 (k := 16) rfl ob_30 fl_11_139 rfl fx_30_0 ?_
    try simp only [e30, e31, e32, e33, e34, e35, e36, e37, e38, e39, e40, ew0, ew1, ew2, ew3, ew4, ew5, ew6, ew7, ew8, ew9, ew10, ew11, ew12]
    refine zireturn (k := 17) rfl rfl rfl ?_
    rw [← hQ]
    exact ⟨by rw [c4]; rfl, rfl, rfl⟩
  refine ztabC (k := 1) (v := 4) 4 rfl rfl (by decide) rfl rfl (fun c5 => ?_) (fun c5 => ?_)
  · skip
    refine zaload_n (k := 18) rfl rfl ?_
    refine zgF 6 (k := 19) rfl ob_1 fl_11_29 rfl fx_1_6 ?_
    refine zgF 1 (k := 20) rfl ob_30 fl_11_142 rfl fx_30_1 ?_
    refine zaload_n (k := 21) rfl rfl ?_
    refine zgR 8 (k := 22) rfl ob_1 fl_11_19 rfl fx_1_8 ?_
    first | rw [h8] | rw [h0.2 1 8 (by omega) (by omega) (by omega), h8]
    refine zgI 1 (k := 23) rfl (wr_ob hw) fl_11_130 rfl (wr_fx_1 hw) ?_
    try simp only [e30, e31, e32, e33, e34, e35, e36, e37, e38, e39, e40, ew0, ew1, ew2, ew3, ew4, ew5, ew6, ew7, ew8, ew9, ew10, ew11, ew12]
    refine zfS1 (k := 24) rfl (k_total ar_31 (by omega) (by omega) (fun k h1 h2 => by try simp only [e30, e31, e32, e33, e34, e35, e36, e37, e38, e39, e40, ew0, ew1, ew2, ew3, ew4, ew5, ew6, ew7, ew8, ew9, ew10, ew11, ew12]; have := bc k h1 h2; omega)) fm_NT_total lk_11_145 rfl rfl (Nat.le_of_ble_eq_true rfl) (by decide) ⟨by decide, by decide⟩ ?_
    try simp only [e30, e31, e32, e33, e34, e35, e36, e37, e38, e39, e40, ew0, ew1, ew2, ew3, ew4, ew5, ew6, ew7, ew8, ew9, ew10, ew11, ew12]
    refine zireturn (k := 25) rfl rfl rfl ?_
    rw [← hQ]
    exact ⟨by rw [c5]; rfl, rfl, rfl⟩
  refine ztabC (k := 1) (v := 5) 5 rfl rfl (by decide) rfl rfl (fun c6 => ?_) (fun c6 => ?_)
  · skip
    refine zaload_n (k := 26) rfl rfl ?_
    refine zgF 6 (k := 27) rfl ob_1 fl_11_29 rfl fx_1_6 ?_
    refine zgF 5 (k := 28) rfl ob_30 fl_11_149 rfl fx_30_5 ?_
    refine zaload_n (k := 29) rfl rfl ?_
    refine zgR 8 (k := 30) rfl ob_1 fl_11_19 rfl fx_1_8 ?_
    first | rw [h8] | rw [h0.2 1 8 (by omega) (by omega) (by omega), h8]
    refine zgI 3 (k := 31) rfl (wr_ob hw) fl_11_136 rfl (wr_fx_3 hw) ?_
    try simp only [e30, e31, e32, e33, e34, e35, e36, e37, e38, e39, e40, ew0, ew1, ew2, ew3, ew4, ew5, ew6, ew7, ew8, ew9, ew10, ew11, ew12]
    refine ziconst (k := 32) rfl (by decide) ?_
    refine zfS1 (k := 33) rfl (k_how ar_35 (by omega) (by omega)) fm_NT_howMany lk_11_152 rfl rfl (Nat.le_of_ble_eq_true rfl) (by decide) ⟨by decide, by decide⟩ ?_
    try simp only [e30, e31, e32, e33, e34, e35, e36, e37, e38, e39, e40, ew0, ew1, ew2, ew3, ew4, ew5, ew6, ew7, ew8, ew9, ew10, ew11, ew12]
    refine zireturn (k := 34) rfl rfl rfl ?_
    rw [← hQ]
    exact ⟨by rw [c6]; rfl, rfl, rfl⟩
  refine ztabC (k := 1) (v := 6) 6 rfl rfl (by decide) rfl rfl (fun c7 => ?_) (fun c7 => ?_)
  · skip
    refine zaload_n (k := 35) rfl rfl ?_
    refine zgF 6 (k := 36) rfl ob_1 fl_11_29 rfl fx_1_6 ?_
    refine zgF 5 (k := 37) rfl ob_30 fl_11_149 rfl fx_30_5 ?_
    refine zaload_n (k := 38) rfl rfl ?_
    refine zgR 8 (k := 39) rfl ob_1 fl_11_19 rfl fx_1_8 ?_
    first | rw [h8] | rw [h0.2 1 8 (by omega) (by omega) (by omega), h8]
    refine zgI 3 (k := 40) rfl (wr_ob hw) fl_11_136 rfl (wr_fx_3 hw) ?_
    try simp only [e30, e31, e32, e33, e34, e35, e36, e37, e38, e39, e40, ew0, ew1, ew2, ew3, ew4, ew5, ew6, ew7, ew8, ew9, ew10, ew11, ew12]
    refine ziconst (k := 41) rfl (by decide) ?_
    refine zfS1 (k := 42) rfl (k_how ar_35 (by omega) (by omega)) fm_NT_howMany lk_11_152 rfl rfl (Nat.le_of_ble_eq_true rfl) (by decide) ⟨by decide, by decide⟩ ?_
    try simp only [e30, e31, e32, e33, e34, e35, e36, e37, e38, e39, e40, ew0, ew1, ew2, ew3, ew4, ew5, ew6, ew7, ew8, ew9, ew10, ew11, ew12]
    refine zireturn (k := 43) rfl rfl rfl ?_
    rw [← hQ]
    exact ⟨by rw [c7]; rfl, rfl, rfl⟩
  refine ztabC (k := 1) (v := 7) 7 rfl rfl (by decide) rfl rfl (fun c8 => ?_) (fun c8 => ?_)
  · skip
    refine zaload_n (k := 44) rfl rfl ?_
    refine zgF 6 (k := 45) rfl ob_1 fl_11_29 rfl fx_1_6 ?_
    refine zgF 7 (k := 46) rfl ob_30 fl_11_156 rfl fx_30_7 ?_
    refine zaload_n (k := 47) rfl rfl ?_
    refine zgR 8 (k := 48) rfl ob_1 fl_11_19 rfl fx_1_8 ?_
    first | rw [h8] | rw [h0.2 1 8 (by omega) (by omega) (by omega), h8]
    refine zgI 3 (k := 49) rfl (wr_ob hw) fl_11_136 rfl (wr_fx_3 hw) ?_
    try simp only [e30, e31, e32, e33, e34, e35, e36, e37, e38, e39, e40, ew0, ew1, ew2, ew3, ew4, ew5, ew6, ew7, ew8, ew9, ew10, ew11, ew12]
    refine zfS1 (k := 50) rfl (k_total ar_37 (by omega) (by omega) (fun k h1 h2 => by try simp only [e30, e31, e32, e33, e34, e35, e36, e37, e38, e39, e40, ew0, ew1, ew2, ew3, ew4, ew5, ew6, ew7, ew8, ew9, ew10, ew11, ew12]; have := bm k h1 h2; omega)) fm_NT_total lk_11_145 rfl rfl (Nat.le_of_ble_eq_true rfl) (by decide) ⟨by decide, by decide⟩ ?_
    try simp only [e30, e31, e32, e33, e34, e35, e36, e37, e38, e39, e40, ew0, ew1, ew2, ew3, ew4, ew5, ew6, ew7, ew8, ew9, ew10, ew11, ew12]
    refine zireturn (k := 51) rfl rfl rfl ?_
    rw [← hQ]
    exact ⟨by rw [c8]; rfl, rfl, rfl⟩
  refine ztabC (k := 1) (v := 8) 8 rfl rfl (by decide) rfl rfl (fun c9 => ?_) (fun c9 => ?_)
  · skip
    refine zaload_n (k := 52) rfl rfl ?_
    refine zgF 6 (k := 53) rfl ob_1 fl_11_29 rfl fx_1_6 ?_
    refine zgF 8 (k := 54) rfl ob_30 fl_11_159 rfl fx_30_8 ?_
    refine zaload_n (k := 55) rfl rfl ?_
    refine zgR 8 (k := 56) rfl ob_1 fl_11_19 rfl fx_1_8 ?_
    first | rw [h8] | rw [h0.2 1 8 (by omega) (by omega) (by omega), h8]
    refine zgI 3 (k := 57) rfl (wr_ob hw) fl_11_136 rfl (wr_fx_3 hw) ?_
    try simp only [e30, e31, e32, e33, e34, e35, e36, e37, e38, e39, e40, ew0, ew1, ew2, ew3, ew4, ew5, ew6, ew7, ew8, ew9, ew10, ew11, ew12]
    refine zfS1 (k := 58) rfl (k_total ar_38 (by omega) (by omega) (fun k h1 h2 => by try simp only [e30, e31, e32, e33, e34, e35, e36, e37, e38, e39, e40, ew0, ew1, ew2, ew3, ew4, ew5, ew6, ew7, ew8, ew9, ew10, ew11, ew12]; have := bm k h1 h2; omega)) fm_NT_total lk_11_145 rfl rfl (Nat.le_of_ble_eq_true rfl) (by decide) ⟨by decide, by decide⟩ ?_
    try simp only [e30, e31, e32, e33, e34, e35, e36, e37, e38, e39, e40, ew0, ew1, ew2, ew3, ew4, ew5, ew6, ew7, ew8, ew9, ew10, ew11, ew12]
    refine zireturn (k := 59) rfl rfl rfl ?_
    rw [← hQ]
    exact ⟨by rw [c9]; rfl, rfl, rfl⟩
  refine ztabC (k := 1) (v := 9) 9 rfl rfl (by decide) rfl rfl (fun c10 => ?_) (fun c10 => ?_)
  · skip
    refine zaload_n (k := 60) rfl rfl ?_
    refine zgF 6 (k := 61) rfl ob_1 fl_11_29 rfl fx_1_6 ?_
    refine zgI 12 (k := 62) rfl ob_30 fl_11_162 rfl fx_30_12 ?_
    try simp only [e30, e31, e32, e33, e34, e35, e36, e37, e38, e39, e40, ew0, ew1, ew2, ew3, ew4, ew5, ew6, ew7, ew8, ew9, ew10, ew11, ew12]
    refine zireturn (k := 63) rfl rfl rfl ?_
    rw [← hQ]
    exact ⟨by rw [c10]; rfl, rfl, rfl⟩
  refine ztabC (k := 1) (v := 10) 10 rfl rfl (by decide) rfl rfl (fun c11 => ?_) (fun c11 => ?_)
  · skip
    refine zaload_n (k := 64) rfl rfl ?_
    refine zgI 15 (k := 65) rfl ob_1 fl_11_94 rfl fx_1_15 ?_
    try simp only [e30, e31, e32, e33, e34, e35, e36, e37, e38, e39, e40, ew0, ew1, ew2, ew3, ew4, ew5, ew6, ew7, ew8, ew9, ew10, ew11, ew12]
    refine zireturn (k := 66) rfl rfl rfl ?_
    rw [← hQ]
    exact ⟨by rw [c11]; rfl, rfl, rfl⟩
  refine ztabC (k := 1) (v := 11) 11 rfl rfl (by decide) rfl rfl (fun c12 => ?_) (fun c12 => ?_)
  · skip
    refine zaload_n (k := 67) rfl rfl ?_
    refine zgF 4 (k := 68) rfl ob_1 fl_11_64 rfl fx_1_4 ?_
    refine zgI 2 (k := 69) rfl ob_62 fl_11_165 rfl fx_62_2 ?_
    try simp only [e30, e31, e32, e33, e34, e35, e36, e37, e38, e39, e40, ew0, ew1, ew2, ew3, ew4, ew5, ew6, ew7, ew8, ew9, ew10, ew11, ew12]
    refine zireturn (k := 70) rfl rfl rfl ?_
    rw [← hQ]
    exact ⟨by rw [c12]; rfl, rfl, rfl⟩
  refine ztabC (k := 1) (v := 12) 12 rfl rfl (by decide) rfl rfl (fun c13 => ?_) (fun c13 => ?_)
  · skip
    refine zaload_n (k := 71) rfl rfl ?_
    refine zgI 10 (k := 72) rfl ob_1 fl_11_77 rfl fx_1_10 ?_
    try simp only [e30, e31, e32, e33, e34, e35, e36, e37, e38, e39, e40, ew0, ew1, ew2, ew3, ew4, ew5, ew6, ew7, ew8, ew9, ew10, ew11, ew12]
    refine zireturn (k := 73) rfl rfl rfl ?_
    rw [← hQ]
    exact ⟨by rw [c13]; rfl, rfl, rfl⟩
  refine ztabOut (k := 1) rfl (by omega) rfl ?_
  refine ziconst (k := 74) rfl (by decide) ?_
  refine zireturn (k := 75) rfl rfl rfl ?_
  rw [← hQ]
  exact ⟨by rw [hasQ_n (by omega)], rfl, rfl⟩
