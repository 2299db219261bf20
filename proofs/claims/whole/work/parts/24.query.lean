/-! NineTimes: questions -/
theorem zor_c : ∀ j : Fin 6, ∀ x : Fin 64, x.val < 2 ^ j.val → zor ((x.val : Nat) : Int) (zshl 1 ((j.val : Nat) : Int)) = ((x.val + 2 ^ j.val : Nat) : Int) := by decide +kernel
theorem zor_bit {j : Nat} {x : Int} (hj : j < 6) (hx : 0 ≤ x ∧ x < 2 ^ j) : zor x (zshl 1 (j : Int)) = x + 2 ^ j := by
  have hp : (2 : Int) ^ j = ((2 ^ j : Nat) : Int) := by simp
  have hle : 2 ^ j ≤ 2 ^ 6 := Nat.pow_le_pow_right (by decide) (by omega)
  have h := zor_c ⟨j, hj⟩ ⟨x.toNat, by omega⟩ (by show x.toNat < 2 ^ j; omega)
  have e : ((x.toNat : Nat) : Int) = x := by omega
  dsimp only at h
  rw [e] at h
  rw [h, hp]
  omega
def knb (Wm S : zv_H) (c : Int) : Nat → Int
  | 0 => 0
  | j + 1 => if knwF Wm S j c (S 0 0) = true then knb Wm S c j + 2 ^ j else knb Wm S c j
theorem knb_b (Wm S : zv_H) (c : Int) : ∀ j : Nat, 0 ≤ knb Wm S c j ∧ knb Wm S c j < 2 ^ j
  | 0 => ⟨Int.le_refl _, by show (0 : Int) < 2 ^ 0; decide⟩
  | j + 1 => by
    have ih := knb_b Wm S c j
    have hp : (2 : Int) ^ (j + 1) = 2 ^ j * 2 := Int.pow_succ _ _
    rw [show knb Wm S c (j + 1) = if knwF Wm S j c (S 0 0) = true then knb Wm S c j + 2 ^ j else knb Wm S c j from rfl, hp]
    split <;> omega
set_option maxHeartbeats 4000000 in
set_option maxRecDepth 20000 in
theorem c_NT_knownBits {Γ : zv_M} {L : Int} {w : Int} {σ S Wm : zv_H} (h8 : σ 1 8 = w) (hw : w ∈ wrL) (hW : vw 12 σ w = Wm) (hS : vw 10 σ 30 = S) (hSI : SI (Wm 0 1) (Wm 0 3) S) (hWI : WI Wm) {c : Int} (hc : 0 ≤ c ∧ c < 7) : zC Γ m_NT_knownBits 2 0 0 (GM L) [zR 1, zI c] σ (zFn (some (zI (knb Wm S c (Wm 0 3).toNat))) (GM L) σ) := by
  refine zC_of (ls0 := [_, _, _, _]) zm_NT_knownBits (by decide) rfl (Nat.le_of_ble_eq_true rfl) ?_
  generalize hQ : (zFn (some (zI (knb Wm S c (Wm 0 3).toNat))) (GM L) σ) = Q
  have ha : (30 : Int) ∈ stL := by decide
  have e30 : σ 30 = S 0 := st_e0 hS
  have e31 : σ 31 = S 1 := st_e (f := 1) hS (by omega)
  have e32 : σ 32 = S 2 := st_e (f := 2) hS (by omega)
  have e33 : σ 33 = S 3 := st_e (f := 3) hS (by omega)
  have e34 : σ 34 = S 4 := st_e (f := 4) hS (by omega)
  have e35 : σ 35 = S 5 := st_e (f := 5) hS (by omega)
  have e36 : σ 36 = S 6 := st_e (f := 6) hS (by omega)
  have e37 : σ 37 = S 7 := st_e (f := 7) hS (by omega)
  have e38 : σ 38 = S 8 := st_e (f := 8) hS (by omega)
  have e39 : σ 39 = S 9 := st_e (f := 9) hS (by omega)
  have e40 : σ 40 = S 10 := st_e (f := 10) hS (by omega)
  have ew0 : σ w = Wm 0 := st_e0 hW
  have ew1 : σ (w + 1) = Wm 1 := st_e (f := 1) hW (by omega)
  have ew2 : σ (w + 2) = Wm 2 := st_e (f := 2) hW (by omega)
  have ew3 : σ (w + 3) = Wm 3 := st_e (f := 3) hW (by omega)
  have ew4 : σ (w + 4) = Wm 4 := st_e (f := 4) hW (by omega)
  have ew5 : σ (w + 5) = Wm 5 := st_e (f := 5) hW (by omega)
  have ew6 : σ (w + 6) = Wm 6 := st_e (f := 6) hW (by omega)
  have ew7 : σ (w + 7) = Wm 7 := st_e (f := 7) hW (by omega)
  have ew8 : σ (w + 8) = Wm 8 := st_e (f := 8) hW (by omega)
  have ew9 : σ (w + 9) = Wm 9 := st_e (f := 9) hW (by omega)
  have ew10 : σ (w + 10) = Wm 10 := st_e (f := 10) hW (by omega)
  have ew11 : σ (w + 11) = Wm 11 := st_e (f := 11) hW (by omega)
  have ew12 : σ (w + 12) = Wm 12 := st_e (f := 12) hW (by omega)
  have hSI0 := hSI
  have hWI0 := hWI
  obtain ⟨b0, b11, b12, bc, bm, bl, br⟩ := hSI
  obtain ⟨w1, w2, w3, w4, w5, w6, w7, w8, w9, w10⟩ := hWI
  refine ziconst (k := 0) rfl (by decide) ?_
  refine zistore_n (k := 1) (ls' := [_, _, _, _]) rfl (Nat.le_of_ble_eq_true rfl) rfl ?_
  refine ziconst (k := 2) rfl (by decide) ?_
  refine zistore_n (k := 3) (ls' := [_, _, _, _]) rfl (Nat.le_of_ble_eq_true rfl) rfl ?_
  have lp4 : ∀ (g : Nat) (j : Nat), ((Wm 0 3).toNat - j) < g → ((j : Int) ≤ Wm 0 3) → zV Γ m_NT_knownBits 2 0 0 Q (GM L) (0, 0) 4 [some (zR 1), some (zI c), some (zI (knb Wm S c j)), some (zI j)] [] σ := by
    intro g
    induction g with
    | zero => intro j hg; exact absurd hg (Nat.not_lt_zero _)
    | succ g ih4 =>
      intro j hg hj
      refine ziload_n (k := 4) rfl rfl ?_
      refine zaload_n (k := 5) rfl rfl ?_
      refine zgR 8 (k := 6) rfl ob_1 fl_11_19 rfl fx_1_8 ?_
      first | rw [h8] | rw [h0.2 1 8 (by omega) (by omega) (by omega), h8]
      refine zgI 3 (k := 7) rfl (wr_ob hw) fl_11_136 rfl (wr_fx_3 hw) ?_
      try simp only [e30, e31, e32, e33, e34, e35, e36, e37, e38, e39, e40, ew0, ew1, ew2, ew3, ew4, ew5, ew6, ew7, ew8, ew9, ew10, ew11, ew12]
      refine zicmp_ge (k := 8) rfl rfl (fun c1 => ?_) (fun c1 => ?_)
      · skip
        rw [show j = (Wm 0 3).toNat by omega]
        refine ziload_n (k := 28) rfl rfl ?_
        refine zireturn (k := 29) rfl rfl rfl ?_
        rw [← hQ]
        exact ⟨rfl, rfl, rfl⟩
      · skip
        refine zaload_n (k := 9) rfl rfl ?_
        refine zgF 6 (k := 10) rfl ob_1 fl_11_29 rfl fx_1_6 ?_
        refine zaload_n (k := 11) rfl rfl ?_
        refine zgR 8 (k := 12) rfl ob_1 fl_11_19 rfl fx_1_8 ?_
        first | rw [h8] | rw [h0.2 1 8 (by omega) (by omega) (by omega), h8]
        refine ziload_n (k := 13) rfl rfl ?_
        refine ziload_n (k := 14) rfl rfl ?_
        refine zaload_n (k := 15) rfl rfl ?_
        refine zgF 6 (k := 16) rfl ob_1 fl_11_29 rfl fx_1_6 ?_
        refine zgI 0 (k := 17) rfl ob_30 fl_11_139 rfl fx_30_0 ?_
        try simp only [e30, e31, e32, e33, e34, e35, e36, e37, e38, e39, e40, ew0, ew1, ew2, ew3, ew4, ew5, ew6, ew7, ew8, ew9, ew10, ew11, ew12]
        refine zfV1 (k := 18) rfl (k_known ha hw hS hW (by omega) (by omega) (by omega)) fm_State_isKnown lk_11_308 rfl rfl ob_30 ⟨_, rfl, rfl⟩ (Nat.le_of_ble_eq_true rfl) (by decide) ⟨by decide, by decide⟩ ?_
        refine zif_eq (k := 19) rfl rfl (fun c2 => ?_) (fun c2 => ?_)
        · skip
          refine ziincB (k := 26) (ls' := [_, _, _, _]) rfl rfl (by decide) (by omega) rfl ?_
          refine zgoto (k := 27) rfl rfl ?_
          first
          | (have en : knb Wm S c (j + 1) = knb Wm S c j := if_neg (show ¬ knwF Wm S j c (S 0 0) = true from zB_f (by assumption))
             have r := ih4 (j + 1) (by omega) (by omega)
             rw [en] at r
             exact r)
          | (have en : knb Wm S c (j + 1) = knb Wm S c j + 2 ^ j := if_pos (show knwF Wm S j c (S 0 0) = true from zB_t (by assumption))
             have r := ih4 (j + 1) (by omega) (by omega)
             rw [en] at r
             exact r)
        · skip
          refine ziload_n (k := 20) rfl rfl ?_
          refine ziconst (k := 21) rfl (by decide) ?_
          refine ziload_n (k := 22) rfl rfl ?_
          refine zishl (k := 23) rfl ?_
          refine zior (k := 24) rfl ?_
          rw [zor_bit (by omega) (knb_b Wm S c j)]
          refine zistore_n (k := 25) (ls' := [_, _, _, _]) rfl (Nat.le_of_ble_eq_true rfl) rfl ?_
          refine ziincB (k := 26) (ls' := [_, _, _, _]) rfl rfl (by decide) (by omega) rfl ?_
          refine zgoto (k := 27) rfl rfl ?_
          first
          | (have en : knb Wm S c (j + 1) = knb Wm S c j := if_neg (show ¬ knwF Wm S j c (S 0 0) = true from zB_f (by assumption))
             have r := ih4 (j + 1) (by omega) (by omega)
             rw [en] at r
             exact r)
          | (have en : knb Wm S c (j + 1) = knb Wm S c j + 2 ^ j := if_pos (show knwF Wm S j c (S 0 0) = true from zB_t (by assumption))
             have r := ih4 (j + 1) (by omega) (by omega)
             rw [en] at r
             exact r)
  exact lp4 _ 0 (Nat.lt_succ_self _) (by omega)
set_option maxHeartbeats 4000000 in
set_option maxRecDepth 20000 in
theorem c_NT_weeksAhead {Γ : zv_M} {L : Int} {w : Int} {σ S Wm : zv_H} (h8 : σ 1 8 = w) (hw : w ∈ wrL) (hW : vw 12 σ w = Wm) (hS : vw 10 σ 30 = S) (hSI : SI (Wm 0 1) (Wm 0 3) S) (hWI : WI Wm)  : zC Γ m_NT_weeksAhead 1 0 0 (GM L) [zR 1] σ (zFn (some (zI (min 80 (999 - S 0 0)))) (GM L) σ) := by
  refine zC_of (ls0 := [_]) zm_NT_weeksAhead (by decide) rfl (Nat.le_of_ble_eq_true rfl) ?_
  generalize hQ : (zFn (some (zI (min 80 (999 - S 0 0)))) (GM L) σ) = Q
  have ha : (30 : Int) ∈ stL := by decide
  have e30 : σ 30 = S 0 := st_e0 hS
  have e31 : σ 31 = S 1 := st_e (f := 1) hS (by omega)
  have e32 : σ 32 = S 2 := st_e (f := 2) hS (by omega)
  have e33 : σ 33 = S 3 := st_e (f := 3) hS (by omega)
  have e34 : σ 34 = S 4 := st_e (f := 4) hS (by omega)
  have e35 : σ 35 = S 5 := st_e (f := 5) hS (by omega)
  have e36 : σ 36 = S 6 := st_e (f := 6) hS (by omega)
  have e37 : σ 37 = S 7 := st_e (f := 7) hS (by omega)
  have e38 : σ 38 = S 8 := st_e (f := 8) hS (by omega)
  have e39 : σ 39 = S 9 := st_e (f := 9) hS (by omega)
  have e40 : σ 40 = S 10 := st_e (f := 10) hS (by omega)
  have ew0 : σ w = Wm 0 := st_e0 hW
  have ew1 : σ (w + 1) = Wm 1 := st_e (f := 1) hW (by omega)
  have ew2 : σ (w + 2) = Wm 2 := st_e (f := 2) hW (by omega)
  have ew3 : σ (w + 3) = Wm 3 := st_e (f := 3) hW (by omega)
  have ew4 : σ (w + 4) = Wm 4 := st_e (f := 4) hW (by omega)
  have ew5 : σ (w + 5) = Wm 5 := st_e (f := 5) hW (by omega)
  have ew6 : σ (w + 6) = Wm 6 := st_e (f := 6) hW (by omega)
  have ew7 : σ (w + 7) = Wm 7 := st_e (f := 7) hW (by omega)
  have ew8 : σ (w + 8) = Wm 8 := st_e (f := 8) hW (by omega)
  have ew9 : σ (w + 9) = Wm 9 := st_e (f := 9) hW (by omega)
  have ew10 : σ (w + 10) = Wm 10 := st_e (f := 10) hW (by omega)
  have ew11 : σ (w + 11) = Wm 11 := st_e (f := 11) hW (by omega)
  have ew12 : σ (w + 12) = Wm 12 := st_e (f := 12) hW (by omega)
  have hSI0 := hSI
  have hWI0 := hWI
  obtain ⟨b0, b11, b12, bc, bm, bl, br⟩ := hSI
  obtain ⟨w1, w2, w3, w4, w5, w6, w7, w8, w9, w10⟩ := hWI
  refine zbipush (k := 0) rfl rfl ?_
  refine zsipush (k := 1) rfl rfl ?_
  refine zaload_n (k := 2) rfl rfl ?_
  refine zgF 6 (k := 3) rfl ob_1 fl_11_29 rfl fx_1_6 ?_
  refine zgI 0 (k := 4) rfl ob_30 fl_11_139 rfl fx_30_0 ?_
  try simp only [e30, e31, e32, e33, e34, e35, e36, e37, e38, e39, e40, ew0, ew1, ew2, ew3, ew4, ew5, ew6, ew7, ew8, ew9, ew10, ew11, ew12]
  refine zisubB (k := 5) rfl (by omega) ?_
  refine zfS1 (k := 6) rfl c_J_minI fm_J_minI lk_11_303 rfl rfl (Nat.le_of_ble_eq_true rfl) (by decide) ⟨by decide, by decide⟩ ?_
  refine zireturn (k := 7) rfl rfl rfl ?_
  rw [← hQ]
  exact ⟨rfl, rfl, rfl⟩
set_option maxHeartbeats 4000000 in
set_option maxRecDepth 20000 in
theorem c_NT_canGo {Γ : zv_M} {L : Int} {w : Int} {σ S Wm : zv_H} (h8 : σ 1 8 = w) (hw : w ∈ wrL) (hW : vw 12 σ w = Wm) (hS : vw 10 σ 30 = S) (hSI : SI (Wm 0 1) (Wm 0 3) S) (hWI : WI Wm) {n : Int} : zC Γ m_NT_canGo 1 0 0 (GM L) [zR 1, zI n] σ (zFn (some (zI (if 1 ≤ n ∧ n ≤ 100 ∧ n ≤ 999 - S 0 0 then 1 else 0))) (GM L) σ) := by
  refine zC_of (ls0 := [_, _]) zm_NT_canGo (by decide) rfl (Nat.le_of_ble_eq_true rfl) ?_
  generalize hQ : (zFn (some (zI (if 1 ≤ n ∧ n ≤ 100 ∧ n ≤ 999 - S 0 0 then 1 else 0))) (GM L) σ) = Q
  have ha : (30 : Int) ∈ stL := by decide
  have e30 : σ 30 = S 0 := st_e0 hS
  have e31 : σ 31 = S 1 := st_e (f := 1) hS (by omega)
  have e32 : σ 32 = S 2 := st_e (f := 2) hS (by omega)
  have e33 : σ 33 = S 3 := st_e (f := 3) hS (by omega)
  have e34 : σ 34 = S 4 := st_e (f := 4) hS (by omega)
  have e35 : σ 35 = S 5 := st_e (f := 5) hS (by omega)
  have e36 : σ 36 = S 6 := st_e (f := 6) hS (by omega)
  have e37 : σ 37 = S 7 := st_e (f := 7) hS (by omega)
  have e38 : σ 38 = S 8 := st_e (f := 8) hS (by omega)
  have e39 : σ 39 = S 9 := st_e (f := 9) hS (by omega)
  have e40 : σ 40 = S 10 := st_e (f := 10) hS (by omega)
  have ew0 : σ w = Wm 0 := st_e0 hW
  have ew1 : σ (w + 1) = Wm 1 := st_e (f := 1) hW (by omega)
  have ew2 : σ (w + 2) = Wm 2 := st_e (f := 2) hW (by omega)
  have ew3 : σ (w + 3) = Wm 3 := st_e (f := 3) hW (by omega)
  have ew4 : σ (w + 4) = Wm 4 := st_e (f := 4) hW (by omega)
  have ew5 : σ (w + 5) = Wm 5 := st_e (f := 5) hW (by omega)
  have ew6 : σ (w + 6) = Wm 6 := st_e (f := 6) hW (by omega)
  have ew7 : σ (w + 7) = Wm 7 := st_e (f := 7) hW (by omega)
  have ew8 : σ (w + 8) = Wm 8 := st_e (f := 8) hW (by omega)
  have ew9 : σ (w + 9) = Wm 9 := st_e (f := 9) hW (by omega)
  have ew10 : σ (w + 10) = Wm 10 := st_e (f := 10) hW (by omega)
  have ew11 : σ (w + 11) = Wm 11 := st_e (f := 11) hW (by omega)
  have ew12 : σ (w + 12) = Wm 12 := st_e (f := 12) hW (by omega)
  have hSI0 := hSI
  have hWI0 := hWI
  obtain ⟨b0, b11, b12, bc, bm, bl, br⟩ := hSI
  obtain ⟨w1, w2, w3, w4, w5, w6, w7, w8, w9, w10⟩ := hWI
  refine ziload_n (k := 0) rfl rfl ?_
  refine ziconst (k := 1) rfl (by decide) ?_
  refine zicmp_lt (k := 2) rfl rfl (fun c1 => ?_) (fun c1 => ?_)
  · skip
    refine ziconst (k := 15) rfl (by decide) ?_
    refine zzreturn (k := 16) rfl rfl (by first | exact Or.inl rfl | exact Or.inr rfl | omega) rfl ?_
    rw [← hQ]
    exact ⟨by first | (rw [if_pos (by omega)]; done) | (rw [if_neg (by omega)]; done) | (exfalso; omega), rfl, rfl⟩
  · skip
    refine ziload_n (k := 3) rfl rfl ?_
    refine zbipush (k := 4) rfl rfl ?_
    refine zicmp_gt (k := 5) rfl rfl (fun c2 => ?_) (fun c2 => ?_)
    · skip
      refine ziconst (k := 15) rfl (by decide) ?_
      refine zzreturn (k := 16) rfl rfl (by first | exact Or.inl rfl | exact Or.inr rfl | omega) rfl ?_
      rw [← hQ]
      exact ⟨by first | (rw [if_pos (by omega)]; done) | (rw [if_neg (by omega)]; done) | (exfalso; omega), rfl, rfl⟩
    · skip
      refine ziload_n (k := 6) rfl rfl ?_
      refine zsipush (k := 7) rfl rfl ?_
      refine zaload_n (k := 8) rfl rfl ?_
      refine zgF 6 (k := 9) rfl ob_1 fl_11_29 rfl fx_1_6 ?_
      refine zgI 0 (k := 10) rfl ob_30 fl_11_139 rfl fx_30_0 ?_
      try simp only [e30, e31, e32, e33, e34, e35, e36, e37, e38, e39, e40, ew0, ew1, ew2, ew3, ew4, ew5, ew6, ew7, ew8, ew9, ew10, ew11, ew12]
      refine zisubB (k := 11) rfl (by omega) ?_
      refine zicmp_gt (k := 12) rfl rfl (fun c3 => ?_) (fun c3 => ?_)
      · skip
        refine ziconst (k := 15) rfl (by decide) ?_
        refine zzreturn (k := 16) rfl rfl (by first | exact Or.inl rfl | exact Or.inr rfl | omega) rfl ?_
        rw [← hQ]
        exact ⟨by first | (rw [if_pos (by omega)]; done) | (rw [if_neg (by omega)]; done) | (exfalso; omega), rfl, rfl⟩
      · skip
        refine ziconst (k := 13) rfl (by decide) ?_
        refine zgoto (k := 14) rfl rfl ?_
        refine zzreturn (k := 16) rfl rfl (by first | exact Or.inl rfl | exact Or.inr rfl | omega) rfl ?_
        rw [← hQ]
        exact ⟨by first | (rw [if_pos (by omega)]; done) | (rw [if_neg (by omega)]; done) | (exfalso; omega), rfl, rfl⟩
set_option maxHeartbeats 4000000 in
set_option maxRecDepth 20000 in
theorem c_NT_way {Γ : zv_M} {L : Int} {w : Int} {σ S Wm : zv_H} (h8 : σ 1 8 = w) (hw : w ∈ wrL) (hW : vw 12 σ w = Wm) (hS : vw 10 σ 30 = S) (hSI : SI (Wm 0 1) (Wm 0 3) S) (hWI : WI Wm) {f t : Int} : zC Γ m_NT_way 2 0 0 (GM L) [zR 1, zI f, zI t] σ (zFn (some (zI (dstF Wm f t))) (GM L) σ) := by
  refine zC_of (ls0 := [_, _, _]) zm_NT_way (by decide) rfl (Nat.le_of_ble_eq_true rfl) ?_
  generalize hQ : (zFn (some (zI (dstF Wm f t))) (GM L) σ) = Q
  have ha : (30 : Int) ∈ stL := by decide
  have e30 : σ 30 = S 0 := st_e0 hS
  have e31 : σ 31 = S 1 := st_e (f := 1) hS (by omega)
  have e32 : σ 32 = S 2 := st_e (f := 2) hS (by omega)
  have e33 : σ 33 = S 3 := st_e (f := 3) hS (by omega)
  have e34 : σ 34 = S 4 := st_e (f := 4) hS (by omega)
  have e35 : σ 35 = S 5 := st_e (f := 5) hS (by omega)
  have e36 : σ 36 = S 6 := st_e (f := 6) hS (by omega)
  have e37 : σ 37 = S 7 := st_e (f := 7) hS (by omega)
  have e38 : σ 38 = S 8 := st_e (f := 8) hS (by omega)
  have e39 : σ 39 = S 9 := st_e (f := 9) hS (by omega)
  have e40 : σ 40 = S 10 := st_e (f := 10) hS (by omega)
  have ew0 : σ w = Wm 0 := st_e0 hW
  have ew1 : σ (w + 1) = Wm 1 := st_e (f := 1) hW (by omega)
  have ew2 : σ (w + 2) = Wm 2 := st_e (f := 2) hW (by omega)
  have ew3 : σ (w + 3) = Wm 3 := st_e (f := 3) hW (by omega)
  have ew4 : σ (w + 4) = Wm 4 := st_e (f := 4) hW (by omega)
  have ew5 : σ (w + 5) = Wm 5 := st_e (f := 5) hW (by omega)
  have ew6 : σ (w + 6) = Wm 6 := st_e (f := 6) hW (by omega)
  have ew7 : σ (w + 7) = Wm 7 := st_e (f := 7) hW (by omega)
  have ew8 : σ (w + 8) = Wm 8 := st_e (f := 8) hW (by omega)
  have ew9 : σ (w + 9) = Wm 9 := st_e (f := 9) hW (by omega)
  have ew10 : σ (w + 10) = Wm 10 := st_e (f := 10) hW (by omega)
  have ew11 : σ (w + 11) = Wm 11 := st_e (f := 11) hW (by omega)
  have ew12 : σ (w + 12) = Wm 12 := st_e (f := 12) hW (by omega)
  have hSI0 := hSI
  have hWI0 := hWI
  obtain ⟨b0, b11, b12, bc, bm, bl, br⟩ := hSI
  obtain ⟨w1, w2, w3, w4, w5, w6, w7, w8, w9, w10⟩ := hWI
  refine zaload_n (k := 0) rfl rfl ?_
  refine zgR 8 (k := 1) rfl ob_1 fl_11_19 rfl fx_1_8 ?_
  first | rw [h8] | rw [h0.2 1 8 (by omega) (by omega) (by omega), h8]
  refine ziload_n (k := 2) rfl rfl ?_
  refine ziload_n (k := 3) rfl rfl ?_
  refine zfV1 (k := 4) rfl (k_dist hw hW (by omega)) fm_War_distance lk_11_197 rfl rfl (wr_ob hw) ⟨_, rfl, rfl⟩ (Nat.le_of_ble_eq_true rfl) (by decide) ⟨by decide, by decide⟩ ?_
  refine zireturn (k := 5) rfl rfl rfl ?_
  rw [← hQ]
  exact ⟨rfl, rfl, rfl⟩
def manQ (Wm S : zv_H) (m t : Int) : Int := if ¬ (0 ≤ m ∧ m < Wm 0 3) then -1 else if t = 0 then S 4 m else if t = 1 then S 5 m else if t = 2 then S 6 m else if t = 3 then S 7 m else if t = 4 then S 8 m else if t = 5 then Wm 7 m else -1
def ctyQ (Wm S : zv_H) (c t : Int) : Int := if ¬ (0 ≤ c ∧ c < Wm 0 1) then -1 else if t = 0 then S 1 c else if t = 1 then S 2 c else if t = 2 then S 3 c else if t = 3 then knb Wm S c (Wm 0 3).toNat else -1
def knwQ (Wm S : zv_H) (m c : Int) : Int := if ¬ ((0 ≤ m ∧ m < Wm 0 3) ∧ (0 ≤ c ∧ c < Wm 0 1)) then -1 else if S 9 (m * 7 + c) < 1000000 then max 0 (S 9 (m * 7 + c) - S 0 0) else -1
set_option maxHeartbeats 4000000 in
set_option maxRecDepth 20000 in
theorem c_NT_man {Γ : zv_M} {L : Int} {w : Int} {σ S Wm : zv_H} (h8 : σ 1 8 = w) (hw : w ∈ wrL) (hW : vw 12 σ w = Wm) (hS : vw 10 σ 30 = S) (hSI : SI (Wm 0 1) (Wm 0 3) S) (hWI : WI Wm) {m t : Int} : zC Γ m_NT_man 1 0 0 (GM L) [zR 1, zI m, zI t] σ (zFn (some (zI (manQ Wm S m t))) (GM L) σ) := by
  refine zC_of (ls0 := [_, _, _]) zm_NT_man (by decide) rfl (Nat.le_of_ble_eq_true rfl) ?_
  generalize hQ : (zFn (some (zI (manQ Wm S m t))) (GM L) σ) = Q
  have ha : (30 : Int) ∈ stL := by decide
  have e30 : σ 30 = S 0 := st_e0 hS
  have e31 : σ 31 = S 1 := st_e (f := 1) hS (by omega)
  have e32 : σ 32 = S 2 := st_e (f := 2) hS (by omega)
  have e33 : σ 33 = S 3 := st_e (f := 3) hS (by omega)
  have e34 : σ 34 = S 4 := st_e (f := 4) hS (by omega)
  have e35 : σ 35 = S 5 := st_e (f := 5) hS (by omega)
  have e36 : σ 36 = S 6 := st_e (f := 6) hS (by omega)
  have e37 : σ 37 = S 7 := st_e (f := 7) hS (by omega)
  have e38 : σ 38 = S 8 := st_e (f := 8) hS (by omega)
  have e39 : σ 39 = S 9 := st_e (f := 9) hS (by omega)
  have e40 : σ 40 = S 10 := st_e (f := 10) hS (by omega)
  have ew0 : σ w = Wm 0 := st_e0 hW
  have ew1 : σ (w + 1) = Wm 1 := st_e (f := 1) hW (by omega)
  have ew2 : σ (w + 2) = Wm 2 := st_e (f := 2) hW (by omega)
  have ew3 : σ (w + 3) = Wm 3 := st_e (f := 3) hW (by omega)
  have ew4 : σ (w + 4) = Wm 4 := st_e (f := 4) hW (by omega)
  have ew5 : σ (w + 5) = Wm 5 := st_e (f := 5) hW (by omega)
  have ew6 : σ (w + 6) = Wm 6 := st_e (f := 6) hW (by omega)
  have ew7 : σ (w + 7) = Wm 7 := st_e (f := 7) hW (by omega)
  have ew8 : σ (w + 8) = Wm 8 := st_e (f := 8) hW (by omega)
  have ew9 : σ (w + 9) = Wm 9 := st_e (f := 9) hW (by omega)
  have ew10 : σ (w + 10) = Wm 10 := st_e (f := 10) hW (by omega)
  have ew11 : σ (w + 11) = Wm 11 := st_e (f := 11) hW (by omega)
  have ew12 : σ (w + 12) = Wm 12 := st_e (f := 12) hW (by omega)
  have hSI0 := hSI
  have hWI0 := hWI
  obtain ⟨b0, b11, b12, bc, bm, bl, br⟩ := hSI
  obtain ⟨w1, w2, w3, w4, w5, w6, w7, w8, w9, w10⟩ := hWI
  refine zaload_n (k := 0) rfl rfl ?_
  refine zgR 8 (k := 1) rfl ob_1 fl_11_19 rfl fx_1_8 ?_
  first | rw [h8] | rw [h0.2 1 8 (by omega) (by omega) (by omega), h8]
  refine ziload_n (k := 2) rfl rfl ?_
  refine zfV1 (k := 3) rfl (c_War_hasMan hw) fm_War_hasMan lk_11_181 rfl rfl (wr_ob hw) ⟨_, rfl, rfl⟩ (Nat.le_of_ble_eq_true rfl) (by decide) ⟨by decide, by decide⟩ ?_
  try simp only [e30, e31, e32, e33, e34, e35, e36, e37, e38, e39, e40, ew0, ew1, ew2, ew3, ew4, ew5, ew6, ew7, ew8, ew9, ew10, ew11, ew12]
  refine zif_ne (k := 4) rfl rfl (fun c1 => ?_) (fun c1 => ?_)
  · skip
    have hmm : 0 ≤ m ∧ m < Wm 0 3 := by split at c1 <;> first | assumption | (exfalso; omega)
    refine ziload_n (k := 7) rfl rfl ?_
    refine ztabC (k := 8) (v := 0) 0 rfl rfl (by decide) rfl rfl (fun c2 => ?_) (fun c2 => ?_)
    · skip
      refine zaload_n (k := 9) rfl rfl ?_
      refine zgF 6 (k := 10) rfl ob_1 fl_11_29 rfl fx_1_6 ?_
      refine zgF 4 (k := 11) rfl ob_30 fl_11_200 rfl fx_30_4 ?_
      refine ziload_n (k := 12) rfl rfl ?_
      refine zfS1 (k := 13) rfl (c_NT_at ar_34) fm_NT_at lk_11_174 rfl rfl (Nat.le_of_ble_eq_true rfl) (by decide) ⟨by decide, by decide⟩ ?_
      rw [zat_in (by omega)]
      try simp only [e30, e31, e32, e33, e34, e35, e36, e37, e38, e39, e40, ew0, ew1, ew2, ew3, ew4, ew5, ew6, ew7, ew8, ew9, ew10, ew11, ew12]
      refine zireturn (k := 14) rfl rfl rfl ?_
      unfold manQ at hQ
      rw [← hQ]
      try split at c1
      all_goals first
      | (exfalso; omega)
      | exact ⟨by first | (rw [if_pos (by omega)]; done) | (rw [if_neg (by omega), if_pos (by omega)]; done) | (rw [if_neg (by omega), if_neg (by omega), if_pos (by omega)]; done) | (rw [if_neg (by omega), if_neg (by omega), if_neg (by omega), if_pos (by omega)]; done) | (rw [if_neg (by omega), if_neg (by omega), if_neg (by omega), if_neg (by omega), if_pos (by omega)]; done) | (rw [if_neg (by omega), if_neg (by omega), if_neg (by omega), if_neg (by omega), if_neg (by omega), if_pos (by omega)]; done) | (rw [if_neg (by omega), if_neg (by omega), if_neg (by omega), if_neg (by omega), if_neg (by omega), if_neg (by omega), if_pos (by omega)]; done) | (rw [if_neg (by omega), if_neg (by omega), if_neg (by omega), if_neg (by omega), if_neg (by omega), if_neg (by omega), if_neg (by omega)]; done), rfl, rfl⟩
    refine ztabC (k := 8) (v := 1) 1 rfl rfl (by decide) rfl rfl (fun c3 => ?_) (fun c3 => ?_)
    · skip
      refine zaload_n (k := 15) rfl rfl ?_
      refine zgF 6 (k := 16) rfl ob_1 fl_11_29 rfl fx_1_6 ?_
      refine zgF 5 (k := 17) rfl ob_30 fl_11_149 rfl fx_30_5 ?_
      refine ziload_n (k := 18) rfl rfl ?_
      refine zfS1 (k := 19) rfl (c_NT_at ar_35) fm_NT_at lk_11_174 rfl rfl (Nat.le_of_ble_eq_true rfl) (by decide) ⟨by decide, by decide⟩ ?_
      rw [zat_in (by omega)]
      try simp only [e30, e31, e32, e33, e34, e35, e36, e37, e38, e39, e40, ew0, ew1, ew2, ew3, ew4, ew5, ew6, ew7, ew8, ew9, ew10, ew11, ew12]
      refine zireturn (k := 20) rfl rfl rfl ?_
      unfold manQ at hQ
      rw [← hQ]
      try split at c1
      all_goals first
      | (exfalso; omega)
      | exact ⟨by first | (rw [if_pos (by omega)]; done) | (rw [if_neg (by omega), if_pos (by omega)]; done) | (rw [if_neg (by omega), if_neg (by omega), if_pos (by omega)]; done) | (rw [if_neg (by omega), if_neg (by omega), if_neg (by omega), if_pos (by omega)]; done) | (rw [if_neg (by omega), if_neg (by omega), if_neg (by omega), if_neg (by omega), if_pos (by omega)]; done) | (rw [if_neg (by omega), if_neg (by omega), if_neg (by omega), if_neg (by omega), if_neg (by omega), if_pos (by omega)]; done) | (rw [if_neg (by omega), if_neg (by omega), if_neg (by omega), if_neg (by omega), if_neg (by omega), if_neg (by omega), if_pos (by omega)]; done) | (rw [if_neg (by omega), if_neg (by omega), if_neg (by omega), if_neg (by omega), if_neg (by omega), if_neg (by omega), if_neg (by omega)]; done), rfl, rfl⟩
    refine ztabC (k := 8) (v := 2) 2 rfl rfl (by decide) rfl rfl (fun c4 => ?_) (fun c4 => ?_)
    · skip
      refine zaload_n (k := 21) rfl rfl ?_
      refine zgF 6 (k := 22) rfl ob_1 fl_11_29 rfl fx_1_6 ?_
      refine zgF 6 (k := 23) rfl ob_30 fl_11_203 rfl fx_30_6 ?_
      refine ziload_n (k := 24) rfl rfl ?_
      refine zfS1 (k := 25) rfl (c_NT_at ar_36) fm_NT_at lk_11_174 rfl rfl (Nat.le_of_ble_eq_true rfl) (by decide) ⟨by decide, by decide⟩ ?_
      rw [zat_in (by omega)]
      try simp only [e30, e31, e32, e33, e34, e35, e36, e37, e38, e39, e40, ew0, ew1, ew2, ew3, ew4, ew5, ew6, ew7, ew8, ew9, ew10, ew11, ew12]
      refine zireturn (k := 26) rfl rfl rfl ?_
      unfold manQ at hQ
      rw [← hQ]
      try split at c1
      all_goals first
      | (exfalso; omega)
      | exact ⟨by first | (rw [if_pos (by omega)]; done) | (rw [if_neg (by omega), if_pos (by omega)]; done) | (rw [if_neg (by omega), if_neg (by omega), if_pos (by omega)]; done) | (rw [if_neg (by omega), if_neg (by omega), if_neg (by omega), if_pos (by omega)]; done) | (rw [if_neg (by omega), if_neg (by omega), if_neg (by omega), if_neg (by omega), if_pos (by omega)]; done) | (rw [if_neg (by omega), if_neg (by omega), if_neg (by omega), if_neg (by omega), if_neg (by omega), if_pos (by omega)]; done) | (rw [if_neg (by omega), if_neg (by omega), if_neg (by omega), if_neg (by omega), if_neg (by omega), if_neg (by omega), if_pos (by omega)]; done) | (rw [if_neg (by omega), if_neg (by omega), if_neg (by omega), if_neg (by omega), if_neg (by omega), if_neg (by omega), if_neg (by omega)]; done), rfl, rfl⟩
    refine ztabC (k := 8) (v := 3) 3 rfl rfl (by decide) rfl rfl (fun c5 => ?_) (fun c5 => ?_)
    · skip
      refine zaload_n (k := 27) rfl rfl ?_
      refine zgF 6 (k := 28) rfl ob_1 fl_11_29 rfl fx_1_6 ?_
      refine zgF 7 (k := 29) rfl ob_30 fl_11_156 rfl fx_30_7 ?_
      refine ziload_n (k := 30) rfl rfl ?_
      refine zfS1 (k := 31) rfl (c_NT_at ar_37) fm_NT_at lk_11_174 rfl rfl (Nat.le_of_ble_eq_true rfl) (by decide) ⟨by decide, by decide⟩ ?_
      rw [zat_in (by omega)]
      try simp only [e30, e31, e32, e33, e34, e35, e36, e37, e38, e39, e40, ew0, ew1, ew2, ew3, ew4, ew5, ew6, ew7, ew8, ew9, ew10, ew11, ew12]
      refine zireturn (k := 32) rfl rfl rfl ?_
      unfold manQ at hQ
      rw [← hQ]
      try split at c1
      all_goals first
      | (exfalso; omega)
      | exact ⟨by first | (rw [if_pos (by omega)]; done) | (rw [if_neg (by omega), if_pos (by omega)]; done) | (rw [if_neg (by omega), if_neg (by omega), if_pos (by omega)]; done) | (rw [if_neg (by omega), if_neg (by omega), if_neg (by omega), if_pos (by omega)]; done) | (rw [if_neg (by omega), if_neg (by omega), if_neg (by omega), if_neg (by omega), if_pos (by omega)]; done) | (rw [if_neg (by omega), if_neg (by omega), if_neg (by omega), if_neg (by omega), if_neg (by omega), if_pos (by omega)]; done) | (rw [if_neg (by omega), if_neg (by omega), if_neg (by omega), if_neg (by omega), if_neg (by omega), if_neg (by omega), if_pos (by omega)]; done) | (rw [if_neg (by omega), if_neg (by omega), if_neg (by omega), if_neg (by omega), if_neg (by omega), if_neg (by omega), if_neg (by omega)]; done), rfl, rfl⟩
    refine ztabC (k := 8) (v := 4) 4 rfl rfl (by decide) rfl rfl (fun c6 => ?_) (fun c6 => ?_)
    · skip
      refine zaload_n (k := 33) rfl rfl ?_
      refine zgF 6 (k := 34) rfl ob_1 fl_11_29 rfl fx_1_6 ?_
      refine zgF 8 (k := 35) rfl ob_30 fl_11_159 rfl fx_30_8 ?_
      refine ziload_n (k := 36) rfl rfl ?_
      refine zfS1 (k := 37) rfl (c_NT_at ar_38) fm_NT_at lk_11_174 rfl rfl (Nat.le_of_ble_eq_true rfl) (by decide) ⟨by decide, by decide⟩ ?_
      rw [zat_in (by omega)]
      try simp only [e30, e31, e32, e33, e34, e35, e36, e37, e38, e39, e40, ew0, ew1, ew2, ew3, ew4, ew5, ew6, ew7, ew8, ew9, ew10, ew11, ew12]
      refine zireturn (k := 38) rfl rfl rfl ?_
      unfold manQ at hQ
      rw [← hQ]
      try split at c1
      all_goals first
      | (exfalso; omega)
      | exact ⟨by first | (rw [if_pos (by omega)]; done) | (rw [if_neg (by omega), if_pos (by omega)]; done) | (rw [if_neg (by omega), if_neg (by omega), if_pos (by omega)]; done) | (rw [if_neg (by omega), if_neg (by omega), if_neg (by omega), if_pos (by omega)]; done) | (rw [if_neg (by omega), if_neg (by omega), if_neg (by omega), if_neg (by omega), if_pos (by omega)]; done) | (rw [if_neg (by omega), if_neg (by omega), if_neg (by omega), if_neg (by omega), if_neg (by omega), if_pos (by omega)]; done) | (rw [if_neg (by omega), if_neg (by omega), if_neg (by omega), if_neg (by omega), if_neg (by omega), if_neg (by omega), if_pos (by omega)]; done) | (rw [if_neg (by omega), if_neg (by omega), if_neg (by omega), if_neg (by omega), if_neg (by omega), if_neg (by omega), if_neg (by omega)]; done), rfl, rfl⟩
    refine ztabC (k := 8) (v := 5) 5 rfl rfl (by decide) rfl rfl (fun c7 => ?_) (fun c7 => ?_)
    · skip
      refine zaload_n (k := 39) rfl rfl ?_
      refine zgR 8 (k := 40) rfl ob_1 fl_11_19 rfl fx_1_8 ?_
      first | rw [h8] | rw [h0.2 1 8 (by omega) (by omega) (by omega), h8]
      refine zgF 11 (k := 41) rfl (wr_ob hw) fl_11_206 rfl (wr_fx_11 hw) ?_
      refine ziload_n (k := 42) rfl rfl ?_
      refine zfS1 (k := 43) rfl (c_NT_at (wr_ar_7 hw)) fm_NT_at lk_11_174 rfl rfl (Nat.le_of_ble_eq_true rfl) (by decide) ⟨by decide, by decide⟩ ?_
      rw [zat_in (by omega)]
      try simp only [e30, e31, e32, e33, e34, e35, e36, e37, e38, e39, e40, ew0, ew1, ew2, ew3, ew4, ew5, ew6, ew7, ew8, ew9, ew10, ew11, ew12]
      refine zireturn (k := 44) rfl rfl rfl ?_
      unfold manQ at hQ
      rw [← hQ]
      try split at c1
      all_goals first
      | (exfalso; omega)
      | exact ⟨by first | (rw [if_pos (by omega)]; done) | (rw [if_neg (by omega), if_pos (by omega)]; done) | (rw [if_neg (by omega), if_neg (by omega), if_pos (by omega)]; done) | (rw [if_neg (by omega), if_neg (by omega), if_neg (by omega), if_pos (by omega)]; done) | (rw [if_neg (by omega), if_neg (by omega), if_neg (by omega), if_neg (by omega), if_pos (by omega)]; done) | (rw [if_neg (by omega), if_neg (by omega), if_neg (by omega), if_neg (by omega), if_neg (by omega), if_pos (by omega)]; done) | (rw [if_neg (by omega), if_neg (by omega), if_neg (by omega), if_neg (by omega), if_neg (by omega), if_neg (by omega), if_pos (by omega)]; done) | (rw [if_neg (by omega), if_neg (by omega), if_neg (by omega), if_neg (by omega), if_neg (by omega), if_neg (by omega), if_neg (by omega)]; done), rfl, rfl⟩
    refine ztabOut (k := 8) rfl (by omega) rfl ?_
    refine ziconst (k := 45) rfl (by decide) ?_
    refine zireturn (k := 46) rfl rfl rfl ?_
    unfold manQ at hQ
    rw [← hQ]
    try split at c1
    all_goals first
    | (exfalso; omega)
    | exact ⟨by first | (rw [if_pos (by omega)]; done) | (rw [if_neg (by omega), if_pos (by omega)]; done) | (rw [if_neg (by omega), if_neg (by omega), if_pos (by omega)]; done) | (rw [if_neg (by omega), if_neg (by omega), if_neg (by omega), if_pos (by omega)]; done) | (rw [if_neg (by omega), if_neg (by omega), if_neg (by omega), if_neg (by omega), if_pos (by omega)]; done) | (rw [if_neg (by omega), if_neg (by omega), if_neg (by omega), if_neg (by omega), if_neg (by omega), if_pos (by omega)]; done) | (rw [if_neg (by omega), if_neg (by omega), if_neg (by omega), if_neg (by omega), if_neg (by omega), if_neg (by omega), if_pos (by omega)]; done) | (rw [if_neg (by omega), if_neg (by omega), if_neg (by omega), if_neg (by omega), if_neg (by omega), if_neg (by omega), if_neg (by omega)]; done), rfl, rfl⟩
  · skip
    refine ziconst (k := 5) rfl (by decide) ?_
    refine zireturn (k := 6) rfl rfl rfl ?_
    unfold manQ at hQ
    rw [← hQ]
    try split at c1
    all_goals first
    | (exfalso; omega)
    | exact ⟨by first | (rw [if_pos (by omega)]; done) | (rw [if_neg (by omega), if_pos (by omega)]; done) | (rw [if_neg (by omega), if_neg (by omega), if_pos (by omega)]; done) | (rw [if_neg (by omega), if_neg (by omega), if_neg (by omega), if_pos (by omega)]; done) | (rw [if_neg (by omega), if_neg (by omega), if_neg (by omega), if_neg (by omega), if_pos (by omega)]; done) | (rw [if_neg (by omega), if_neg (by omega), if_neg (by omega), if_neg (by omega), if_neg (by omega), if_pos (by omega)]; done) | (rw [if_neg (by omega), if_neg (by omega), if_neg (by omega), if_neg (by omega), if_neg (by omega), if_neg (by omega), if_pos (by omega)]; done) | (rw [if_neg (by omega), if_neg (by omega), if_neg (by omega), if_neg (by omega), if_neg (by omega), if_neg (by omega), if_neg (by omega)]; done), rfl, rfl⟩
set_option maxHeartbeats 4000000 in
set_option maxRecDepth 20000 in
theorem c_NT_county {Γ : zv_M} {L : Int} {w : Int} {σ S Wm : zv_H} (h8 : σ 1 8 = w) (hw : w ∈ wrL) (hW : vw 12 σ w = Wm) (hS : vw 10 σ 30 = S) (hSI : SI (Wm 0 1) (Wm 0 3) S) (hWI : WI Wm) {c t : Int} : zC Γ m_NT_county 3 0 0 (GM L) [zR 1, zI c, zI t] σ (zFn (some (zI (ctyQ Wm S c t))) (GM L) σ) := by
  refine zC_of (ls0 := [_, _, _]) zm_NT_county (by decide) rfl (Nat.le_of_ble_eq_true rfl) ?_
  generalize hQ : (zFn (some (zI (ctyQ Wm S c t))) (GM L) σ) = Q
  have ha : (30 : Int) ∈ stL := by decide
  have e30 : σ 30 = S 0 := st_e0 hS
  have e31 : σ 31 = S 1 := st_e (f := 1) hS (by omega)
  have e32 : σ 32 = S 2 := st_e (f := 2) hS (by omega)
  have e33 : σ 33 = S 3 := st_e (f := 3) hS (by omega)
  have e34 : σ 34 = S 4 := st_e (f := 4) hS (by omega)
  have e35 : σ 35 = S 5 := st_e (f := 5) hS (by omega)
  have e36 : σ 36 = S 6 := st_e (f := 6) hS (by omega)
  have e37 : σ 37 = S 7 := st_e (f := 7) hS (by omega)
  have e38 : σ 38 = S 8 := st_e (f := 8) hS (by omega)
  have e39 : σ 39 = S 9 := st_e (f := 9) hS (by omega)
  have e40 : σ 40 = S 10 := st_e (f := 10) hS (by omega)
  have ew0 : σ w = Wm 0 := st_e0 hW
  have ew1 : σ (w + 1) = Wm 1 := st_e (f := 1) hW (by omega)
  have ew2 : σ (w + 2) = Wm 2 := st_e (f := 2) hW (by omega)
  have ew3 : σ (w + 3) = Wm 3 := st_e (f := 3) hW (by omega)
  have ew4 : σ (w + 4) = Wm 4 := st_e (f := 4) hW (by omega)
  have ew5 : σ (w + 5) = Wm 5 := st_e (f := 5) hW (by omega)
  have ew6 : σ (w + 6) = Wm 6 := st_e (f := 6) hW (by omega)
  have ew7 : σ (w + 7) = Wm 7 := st_e (f := 7) hW (by omega)
  have ew8 : σ (w + 8) = Wm 8 := st_e (f := 8) hW (by omega)
  have ew9 : σ (w + 9) = Wm 9 := st_e (f := 9) hW (by omega)
  have ew10 : σ (w + 10) = Wm 10 := st_e (f := 10) hW (by omega)
  have ew11 : σ (w + 11) = Wm 11 := st_e (f := 11) hW (by omega)
  have ew12 : σ (w + 12) = Wm 12 := st_e (f := 12) hW (by omega)
  have hSI0 := hSI
  have hWI0 := hWI
  obtain ⟨b0, b11, b12, bc, bm, bl, br⟩ := hSI
  obtain ⟨w1, w2, w3, w4, w5, w6, w7, w8, w9, w10⟩ := hWI
  refine zaload_n (k := 0) rfl rfl ?_
  refine zgR 8 (k := 1) rfl ob_1 fl_11_19 rfl fx_1_8 ?_
  first | rw [h8] | rw [h0.2 1 8 (by omega) (by omega) (by omega), h8]
  refine ziload_n (k := 2) rfl rfl ?_
  refine zfV1 (k := 3) rfl (c_War_hasCounty hw) fm_War_hasCounty lk_11_168 rfl rfl (wr_ob hw) ⟨_, rfl, rfl⟩ (Nat.le_of_ble_eq_true rfl) (by decide) ⟨by decide, by decide⟩ ?_
  try simp only [e30, e31, e32, e33, e34, e35, e36, e37, e38, e39, e40, ew0, ew1, ew2, ew3, ew4, ew5, ew6, ew7, ew8, ew9, ew10, ew11, ew12]
  refine zif_ne (k := 4) rfl rfl (fun c1 => ?_) (fun c1 => ?_)
  · skip
    have hcc : 0 ≤ c ∧ c < Wm 0 1 := by split at c1 <;> first | assumption | (exfalso; omega)
    refine ziload_n (k := 7) rfl rfl ?_
    refine ztabC (k := 8) (v := 0) 0 rfl rfl (by decide) rfl rfl (fun c2 => ?_) (fun c2 => ?_)
    · skip
      refine zaload_n (k := 9) rfl rfl ?_
      refine zgF 6 (k := 10) rfl ob_1 fl_11_29 rfl fx_1_6 ?_
      refine zgF 1 (k := 11) rfl ob_30 fl_11_142 rfl fx_30_1 ?_
      refine ziload_n (k := 12) rfl rfl ?_
      refine zfS1 (k := 13) rfl (c_NT_at ar_31) fm_NT_at lk_11_174 rfl rfl (Nat.le_of_ble_eq_true rfl) (by decide) ⟨by decide, by decide⟩ ?_
      rw [zat_in (by omega)]
      try simp only [e30, e31, e32, e33, e34, e35, e36, e37, e38, e39, e40, ew0, ew1, ew2, ew3, ew4, ew5, ew6, ew7, ew8, ew9, ew10, ew11, ew12]
      refine zireturn (k := 14) rfl rfl rfl ?_
      unfold ctyQ at hQ
      rw [← hQ]
      try split at c1
      all_goals first
      | (exfalso; omega)
      | exact ⟨by first | (rw [if_pos (by omega)]; done) | (rw [if_neg (by omega), if_pos (by omega)]; done) | (rw [if_neg (by omega), if_neg (by omega), if_pos (by omega)]; done) | (rw [if_neg (by omega), if_neg (by omega), if_neg (by omega), if_pos (by omega)]; done) | (rw [if_neg (by omega), if_neg (by omega), if_neg (by omega), if_neg (by omega), if_pos (by omega)]; done) | (rw [if_neg (by omega), if_neg (by omega), if_neg (by omega), if_neg (by omega), if_neg (by omega)]; done), rfl, rfl⟩
    refine ztabC (k := 8) (v := 1) 1 rfl rfl (by decide) rfl rfl (fun c3 => ?_) (fun c3 => ?_)
    · skip
      refine zaload_n (k := 15) rfl rfl ?_
      refine zgF 6 (k := 16) rfl ob_1 fl_11_29 rfl fx_1_6 ?_
      refine zgF 2 (k := 17) rfl ob_30 fl_11_187 rfl fx_30_2 ?_
      refine ziload_n (k := 18) rfl rfl ?_
      refine zfS1 (k := 19) rfl (c_NT_at ar_32) fm_NT_at lk_11_174 rfl rfl (Nat.le_of_ble_eq_true rfl) (by decide) ⟨by decide, by decide⟩ ?_
      rw [zat_in (by omega)]
      try simp only [e30, e31, e32, e33, e34, e35, e36, e37, e38, e39, e40, ew0, ew1, ew2, ew3, ew4, ew5, ew6, ew7, ew8, ew9, ew10, ew11, ew12]
      refine zireturn (k := 20) rfl rfl rfl ?_
      unfold ctyQ at hQ
      rw [← hQ]
      try split at c1
      all_goals first
      | (exfalso; omega)
      | exact ⟨by first | (rw [if_pos (by omega)]; done) | (rw [if_neg (by omega), if_pos (by omega)]; done) | (rw [if_neg (by omega), if_neg (by omega), if_pos (by omega)]; done) | (rw [if_neg (by omega), if_neg (by omega), if_neg (by omega), if_pos (by omega)]; done) | (rw [if_neg (by omega), if_neg (by omega), if_neg (by omega), if_neg (by omega), if_pos (by omega)]; done) | (rw [if_neg (by omega), if_neg (by omega), if_neg (by omega), if_neg (by omega), if_neg (by omega)]; done), rfl, rfl⟩
    refine ztabC (k := 8) (v := 2) 2 rfl rfl (by decide) rfl rfl (fun c4 => ?_) (fun c4 => ?_)
    · skip
      refine zaload_n (k := 21) rfl rfl ?_
      refine zgF 6 (k := 22) rfl ob_1 fl_11_29 rfl fx_1_6 ?_
      refine zgF 3 (k := 23) rfl ob_30 fl_11_190 rfl fx_30_3 ?_
      refine ziload_n (k := 24) rfl rfl ?_
      refine zfS1 (k := 25) rfl (c_NT_at ar_33) fm_NT_at lk_11_174 rfl rfl (Nat.le_of_ble_eq_true rfl) (by decide) ⟨by decide, by decide⟩ ?_
      rw [zat_in (by omega)]
      try simp only [e30, e31, e32, e33, e34, e35, e36, e37, e38, e39, e40, ew0, ew1, ew2, ew3, ew4, ew5, ew6, ew7, ew8, ew9, ew10, ew11, ew12]
      refine zireturn (k := 26) rfl rfl rfl ?_
      unfold ctyQ at hQ
      rw [← hQ]
      try split at c1
      all_goals first
      | (exfalso; omega)
      | exact ⟨by first | (rw [if_pos (by omega)]; done) | (rw [if_neg (by omega), if_pos (by omega)]; done) | (rw [if_neg (by omega), if_neg (by omega), if_pos (by omega)]; done) | (rw [if_neg (by omega), if_neg (by omega), if_neg (by omega), if_pos (by omega)]; done) | (rw [if_neg (by omega), if_neg (by omega), if_neg (by omega), if_neg (by omega), if_pos (by omega)]; done) | (rw [if_neg (by omega), if_neg (by omega), if_neg (by omega), if_neg (by omega), if_neg (by omega)]; done), rfl, rfl⟩
    refine ztabC (k := 8) (v := 3) 3 rfl rfl (by decide) rfl rfl (fun c5 => ?_) (fun c5 => ?_)
    · skip
      refine zaload_n (k := 27) rfl rfl ?_
      refine ziload_n (k := 28) rfl rfl ?_
      refine zfV1 (k := 29) rfl (c_NT_knownBits h8 hw hW hS hSI0 hWI0 (by omega)) fm_NT_knownBits lk_11_193 rfl rfl ob_1 ⟨_, rfl, rfl⟩ (Nat.le_of_ble_eq_true rfl) (by decide) ⟨by decide, by decide⟩ ?_
      refine zireturn (k := 30) rfl rfl rfl ?_
      unfold ctyQ at hQ
      rw [← hQ]
      try split at c1
      all_goals first
      | (exfalso; omega)
      | exact ⟨by first | (rw [if_pos (by omega)]; done) | (rw [if_neg (by omega), if_pos (by omega)]; done) | (rw [if_neg (by omega), if_neg (by omega), if_pos (by omega)]; done) | (rw [if_neg (by omega), if_neg (by omega), if_neg (by omega), if_pos (by omega)]; done) | (rw [if_neg (by omega), if_neg (by omega), if_neg (by omega), if_neg (by omega), if_pos (by omega)]; done) | (rw [if_neg (by omega), if_neg (by omega), if_neg (by omega), if_neg (by omega), if_neg (by omega)]; done), rfl, rfl⟩
    refine ztabOut (k := 8) rfl (by omega) rfl ?_
    refine ziconst (k := 31) rfl (by decide) ?_
    refine zireturn (k := 32) rfl rfl rfl ?_
    unfold ctyQ at hQ
    rw [← hQ]
    try split at c1
    all_goals first
    | (exfalso; omega)
    | exact ⟨by first | (rw [if_pos (by omega)]; done) | (rw [if_neg (by omega), if_pos (by omega)]; done) | (rw [if_neg (by omega), if_neg (by omega), if_pos (by omega)]; done) | (rw [if_neg (by omega), if_neg (by omega), if_neg (by omega), if_pos (by omega)]; done) | (rw [if_neg (by omega), if_neg (by omega), if_neg (by omega), if_neg (by omega), if_pos (by omega)]; done) | (rw [if_neg (by omega), if_neg (by omega), if_neg (by omega), if_neg (by omega), if_neg (by omega)]; done), rfl, rfl⟩
  · skip
    refine ziconst (k := 5) rfl (by decide) ?_
    refine zireturn (k := 6) rfl rfl rfl ?_
    unfold ctyQ at hQ
    rw [← hQ]
    try split at c1
    all_goals first
    | (exfalso; omega)
    | exact ⟨by first | (rw [if_pos (by omega)]; done) | (rw [if_neg (by omega), if_pos (by omega)]; done) | (rw [if_neg (by omega), if_neg (by omega), if_pos (by omega)]; done) | (rw [if_neg (by omega), if_neg (by omega), if_neg (by omega), if_pos (by omega)]; done) | (rw [if_neg (by omega), if_neg (by omega), if_neg (by omega), if_neg (by omega), if_pos (by omega)]; done) | (rw [if_neg (by omega), if_neg (by omega), if_neg (by omega), if_neg (by omega), if_neg (by omega)]; done), rfl, rfl⟩
