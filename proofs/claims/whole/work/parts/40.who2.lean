set_option maxHeartbeats 4000000 in
set_option maxRecDepth 20000 in
theorem c_NT_mostLeft {Γ : zv_M} {L : Int} {w : Int} {σ S Wm : zv_H} (h8 : σ 1 8 = w) (hw : w ∈ wrL) (hW : vw 12 σ w = Wm) (hS : vw 10 σ 30 = S) (hSI : SI (Wm 0 1) (Wm 0 3) S) (hWI : WI Wm) {b s : Int} (hs : -1 ≤ s ∧ s ≤ 5) : zC Γ m_NT_mostLeft 1 0 0 (GM L) [zR 1, zI b, zI s] σ (zFn (some (zI (mlQ (Wm 7) (Wm 0 3).toNat b s))) (GM L) σ) := by
  refine zC_of (ls0 := [_, _, _, _, _, _, _]) zm_NT_mostLeft (by decide) rfl (Nat.le_of_ble_eq_true rfl) ?_
  generalize hQ : (zFn (some (zI (mlQ (Wm 7) (Wm 0 3).toNat b s))) (GM L) σ) = Q
  have ha : (30 : Int) ∈ stL := by decide
  have e30 : σ 30 = S 0 := st_e0 hS
  have e31 : σ 31 = S 1 := st_e (f := 1) hS (by omega)
  have e32 : σ 32 = S 2 := st_e (f := 2) hS (by omega)
  have e33 : σ 33 = S 3 := st_e (f := 3) hS (by omega)
  have e34 : σ 34 = S 4 := st_e (f := 4) hS (by omega)
  have e35 : σ 35 = S 5 := st_e (f := 5) hS (by omega)
  have e36 : σ 36 = S 6 := st_e (f := 6) hS (by omega)
  have e37 : σ 37 = S 7 := st_e (f := 7) hS (by omega)
  have e38 : σ 38 = S 8 := st_e (f := 8) hS (by omega)
  have e39 : σ 39 = S 9 := st_e (f := 9) hS (by omega)
  have e40 : σ 40 = S 10 := st_e (f := 10) hS (by omega)
  have ew0 : σ w = Wm 0 := st_e0 hW
  have ew1 : σ (w + 1) = Wm 1 := st_e (f := 1) hW (by omega)
  have ew2 : σ (w + 2) = Wm 2 := st_e (f := 2) hW (by omega)
  have ew3 : σ (w + 3) = Wm 3 := st_e (f := 3) hW (by omega)
  have ew4 : σ (w + 4) = Wm 4 := st_e (f := 4) hW (by omega)
  have ew5 : σ (w + 5) = Wm 5 := st_e (f := 5) hW (by omega)
  have ew6 : σ (w + 6) = Wm 6 := st_e (f := 6) hW (by omega)
  have ew7 : σ (w + 7) = Wm 7 := st_e (f := 7) hW (by omega)
  have ew8 : σ (w + 8) = Wm 8 := st_e (f := 8) hW (by omega)
  have ew9 : σ (w + 9) = Wm 9 := st_e (f := 9) hW (by omega)
  have ew10 : σ (w + 10) = Wm 10 := st_e (f := 10) hW (by omega)
  have ew11 : σ (w + 11) = Wm 11 := st_e (f := 11) hW (by omega)
  have ew12 : σ (w + 12) = Wm 12 := st_e (f := 12) hW (by omega)
  have hSI0 := hSI
  have hWI0 := hWI
  obtain ⟨b0, b11, b12, bc, bm, bl, br⟩ := hSI
  obtain ⟨w1, w2, w3, w4, w5, w6, w7, w8, w9, w10⟩ := hWI
  refine ziload_n (k := 0) rfl rfl ?_
  refine ziconst (k := 1) rfl (by decide) ?_
  refine zicmp_ne (k := 2) rfl rfl (fun c1 => ?_) (fun c1 => ?_)
  · skip
    refine ziconst (k := 5) rfl (by decide) ?_
    refine zistore_n (k := 6) (ls' := [_, _, _, _, _, _, _]) rfl (Nat.le_of_ble_eq_true rfl) rfl ?_
    refine ziconst (k := 7) rfl (by decide) ?_
    refine zistore (k := 8) (ls' := [_, _, _, _, _, _, _]) rfl (Nat.le_of_ble_eq_true rfl) rfl ?_
    refine ziconst (k := 9) rfl (by decide) ?_
    refine zistore (k := 10) (ls' := [_, _, _, _, _, _, _]) rfl (Nat.le_of_ble_eq_true rfl) rfl ?_
    have lp15 : ∀ (g : Nat) (j : Nat), ((Wm 0 3).toNat - j) < g → ((j : Int) ≤ Wm 0 3) → zV Γ m_NT_mostLeft 1 0 0 Q (GM L) (0, 0) 15 [some (zR 1), some (zI b), some (zI s), some (zI (mlH (Wm 7) b s j)), some (zI (mlL (Wm 7) b s j)), some (zI j), none] [] σ := by
      intro g
      induction g with
      | zero => intro j hg; exact absurd hg (Nat.not_lt_zero _)
      | succ g ih15 =>
        intro j hg hj
        have mb := ml_b (Wm 7) b s j
        refine ziload (k := 11) rfl rfl ?_
        refine zaload_n (k := 12) rfl rfl ?_
        refine zgR 8 (k := 13) rfl ob_1 fl_11_19 rfl fx_1_8 ?_
        first | rw [h8] | rw [h0.2 1 8 (by omega) (by omega) (by omega), h8]
        refine zgI 3 (k := 14) rfl (wr_ob hw) fl_11_136 rfl (wr_fx_3 hw) ?_
        try simp only [e30, e31, e32, e33, e34, e35, e36, e37, e38, e39, e40, ew0, ew1, ew2, ew3, ew4, ew5, ew6, ew7, ew8, ew9, ew10, ew11, ew12]
        refine zicmp_ge (k := 15) rfl rfl (fun c2 => ?_) (fun c2 => ?_)
        · skip
          rw [show j = (Wm 0 3).toNat by omega]
          refine ziload_n (k := 45) rfl rfl ?_
          refine ziload (k := 46) rfl rfl ?_
          refine zfS1 (k := 47) rfl c_J_maxI fm_J_maxI lk_11_312 rfl rfl (Nat.le_of_ble_eq_true rfl) (by decide) ⟨by decide, by decide⟩ ?_
          refine zireturn (k := 48) rfl rfl rfl ?_
          rw [← hQ]
          exact ⟨by unfold mlQ; rw [if_neg (by omega)], rfl, rfl⟩
        · skip
          refine ziload_n (k := 16) rfl rfl ?_
          refine ziload (k := 17) rfl rfl ?_
          refine zishr (k := 18) rfl ?_
          refine ziconst (k := 19) rfl (by decide) ?_
          refine ziandM (k := 20) 1 rfl (by decide) rfl 2 rfl ?_
          refine ziconst (k := 21) rfl (by decide) ?_
          refine zicmp_ne (k := 22) rfl rfl (fun c3 => ?_) (fun c3 => ?_)
          · skip
            refine ziincB (k := 43) (ls' := [_, _, _, _, _, _, _]) rfl rfl (by decide) (by omega) rfl ?_
            refine zgoto (k := 44) rfl rfl ?_
            first
            | (have en : mlH (Wm 7) b s (j + 1) = mlH (Wm 7) b s j := if_neg (by omega)
               have en2 : mlL (Wm 7) b s (j + 1) = mlL (Wm 7) b s j := if_neg (by omega)
               have r := ih15 (j + 1) (by omega) (by omega)
               rw [en, en2] at r
               exact r)
            | (have en : mlH (Wm 7) b s (j + 1) = mlH (Wm 7) b s j + zshr (Wm 7 j) s % 2 := if_pos (by omega)
               have en2 : mlL (Wm 7) b s (j + 1) = mlL (Wm 7) b s j + (1 - zshr (Wm 7 j) s % 2) := if_pos (by omega)
               have r := ih15 (j + 1) (by omega) (by omega)
               rw [en, en2] at r
               exact r)
          · skip
            refine zaload_n (k := 23) rfl rfl ?_
            refine zgR 8 (k := 24) rfl ob_1 fl_11_19 rfl fx_1_8 ?_
            first | rw [h8] | rw [h0.2 1 8 (by omega) (by omega) (by omega), h8]
            refine zgF 11 (k := 25) rfl (wr_ob hw) fl_11_206 rfl (wr_fx_11 hw) ?_
            refine ziload (k := 26) rfl rfl ?_
            refine zfS1 (k := 27) rfl (c_NT_at (wr_ar_7 hw)) fm_NT_at lk_11_174 rfl rfl (Nat.le_of_ble_eq_true rfl) (by decide) ⟨by decide, by decide⟩ ?_
            rw [zat_in (by omega)]
            try simp only [e30, e31, e32, e33, e34, e35, e36, e37, e38, e39, e40, ew0, ew1, ew2, ew3, ew4, ew5, ew6, ew7, ew8, ew9, ew10, ew11, ew12]
            refine ziload_n (k := 28) rfl rfl ?_
            refine zishr (k := 29) rfl ?_
            refine ziconst (k := 30) rfl (by decide) ?_
            refine ziandM (k := 31) 1 rfl (by decide) rfl 2 rfl ?_
            refine zistore (k := 32) (ls' := [_, _, _, _, _, _, _]) rfl (Nat.le_of_ble_eq_true rfl) rfl ?_
            refine ziload_n (k := 33) rfl rfl ?_
            refine ziload (k := 34) rfl rfl ?_
            refine ziaddB (k := 35) rfl (by omega) ?_
            refine zistore_n (k := 36) (ls' := [_, _, _, _, _, _, _]) rfl (Nat.le_of_ble_eq_true rfl) rfl ?_
            refine ziload (k := 37) rfl rfl ?_
            refine ziconst (k := 38) rfl (by decide) ?_
            refine ziload (k := 39) rfl rfl ?_
            refine zisubB (k := 40) rfl (by omega) ?_
            refine ziaddB (k := 41) rfl (by omega) ?_
            refine zistore (k := 42) (ls' := [_, _, _, _, _, _, _]) rfl (Nat.le_of_ble_eq_true rfl) rfl ?_
            refine ziincB (k := 43) (ls' := [_, _, _, _, _, _, _]) rfl rfl (by decide) (by omega) rfl ?_
            refine zgoto (k := 44) rfl rfl ?_
            refine zforget (ls' := [_, _, _, _, _, _, _]) 6 rfl ?_
            first
            | (have en : mlH (Wm 7) b s (j + 1) = mlH (Wm 7) b s j := if_neg (by omega)
               have en2 : mlL (Wm 7) b s (j + 1) = mlL (Wm 7) b s j := if_neg (by omega)
               have r := ih15 (j + 1) (by omega) (by omega)
               rw [en, en2] at r
               exact r)
            | (have en : mlH (Wm 7) b s (j + 1) = mlH (Wm 7) b s j + zshr (Wm 7 j) s % 2 := if_pos (by omega)
               have en2 : mlL (Wm 7) b s (j + 1) = mlL (Wm 7) b s j + (1 - zshr (Wm 7 j) s % 2) := if_pos (by omega)
               have r := ih15 (j + 1) (by omega) (by omega)
               rw [en, en2] at r
               exact r)
    exact lp15 _ 0 (Nat.lt_succ_self _) (by omega)
  · skip
    refine ziconst (k := 3) rfl (by decide) ?_
    refine zireturn (k := 4) rfl rfl rfl ?_
    rw [← hQ]
    exact ⟨by unfold mlQ; rw [if_pos (by omega)], rfl, rfl⟩
set_option maxHeartbeats 4000000 in
set_option maxRecDepth 20000 in
theorem c_NT_tellingSign {Γ : zv_M} {L : Int} {w : Int} {σ S Wm : zv_H} (h8 : σ 1 8 = w) (hw : w ∈ wrL) (hW : vw 12 σ w = Wm) (hS : vw 10 σ 30 = S) (hSI : SI (Wm 0 1) (Wm 0 3) S) (hWI : WI Wm) {b : Int} : zC Γ m_NT_tellingSign 2 0 0 (GM L) [zR 1, zI b] σ (zFn (some (zI (telQ (Wm 7) (Wm 0 3).toNat b))) (GM L) σ) := by
  refine zC_of (ls0 := [_, _, _, _]) zm_NT_tellingSign (by decide) rfl (Nat.le_of_ble_eq_true rfl) ?_
  generalize hQ : (zFn (some (zI (telQ (Wm 7) (Wm 0 3).toNat b))) (GM L) σ) = Q
  have ha : (30 : Int) ∈ stL := by decide
  have e30 : σ 30 = S 0 := st_e0 hS
  have e31 : σ 31 = S 1 := st_e (f := 1) hS (by omega)
  have e32 : σ 32 = S 2 := st_e (f := 2) hS (by omega)
  have e33 : σ 33 = S 3 := st_e (f := 3) hS (by omega)
  have e34 : σ 34 = S 4 := st_e (f := 4) hS (by omega)
  have e35 : σ 35 = S 5 := st_e (f := 5) hS (by omega)
  have e36 : σ 36 = S 6 := st_e (f := 6) hS (by omega)
  have e37 : σ 37 = S 7 := st_e (f := 7) hS (by omega)
  have e38 : σ 38 = S 8 := st_e (f := 8) hS (by omega)
  have e39 : σ 39 = S 9 := st_e (f := 9) hS (by omega)
  have e40 : σ 40 = S 10 := st_e (f := 10) hS (by omega)
  have ew0 : σ w = Wm 0 := st_e0 hW
  have ew1 : σ (w + 1) = Wm 1 := st_e (f := 1) hW (by omega)
  have ew2 : σ (w + 2) = Wm 2 := st_e (f := 2) hW (by omega)
  have ew3 : σ (w + 3) = Wm 3 := st_e (f := 3) hW (by omega)
  have ew4 : σ (w + 4) = Wm 4 := st_e (f := 4) hW (by omega)
  have ew5 : σ (w + 5) = Wm 5 := st_e (f := 5) hW (by omega)
  have ew6 : σ (w + 6) = Wm 6 := st_e (f := 6) hW (by omega)
  have ew7 : σ (w + 7) = Wm 7 := st_e (f := 7) hW (by omega)
  have ew8 : σ (w + 8) = Wm 8 := st_e (f := 8) hW (by omega)
  have ew9 : σ (w + 9) = Wm 9 := st_e (f := 9) hW (by omega)
  have ew10 : σ (w + 10) = Wm 10 := st_e (f := 10) hW (by omega)
  have ew11 : σ (w + 11) = Wm 11 := st_e (f := 11) hW (by omega)
  have ew12 : σ (w + 12) = Wm 12 := st_e (f := 12) hW (by omega)
  have hSI0 := hSI
  have hWI0 := hWI
  obtain ⟨b0, b11, b12, bc, bm, bl, br⟩ := hSI
  obtain ⟨w1, w2, w3, w4, w5, w6, w7, w8, w9, w10⟩ := hWI
  refine ziload_n (k := 0) rfl rfl ?_
  refine zif_ne (k := 1) rfl rfl (fun c1 => ?_) (fun c1 => ?_)
  · skip
    refine ziconst (k := 4) rfl (by decide) ?_
    refine zistore_n (k := 5) (ls' := [_, _, _, _]) rfl (Nat.le_of_ble_eq_true rfl) rfl ?_
    refine ziconst (k := 6) rfl (by decide) ?_
    refine zistore_n (k := 7) (ls' := [_, _, _, _]) rfl (Nat.le_of_ble_eq_true rfl) rfl ?_
    have lp10 : ∀ (g : Nat) (j : Nat), (5 - j) < g → (j ≤ 5) → zV Γ m_NT_tellingSign 2 0 0 Q (GM L) (0, 0) 10 [some (zR 1), some (zI b), some (zI (telN (Wm 7) (Wm 0 3).toNat b j)), some (zI (j + 1))] [] σ := by
      intro g
      induction g with
      | zero => intro j hg; exact absurd hg (Nat.not_lt_zero _)
      | succ g ih10 =>
        intro j hg hj
        have tb := telN_b (Wm 7) (Wm 0 3).toNat b j
        refine ziload_n (k := 8) rfl rfl ?_
        refine zbipush (k := 9) rfl rfl ?_
        refine zicmp_ge (k := 10) rfl rfl (fun c2 => ?_) (fun c2 => ?_)
        · skip
          refine ziload_n (k := 24) rfl rfl ?_
          refine zireturn (k := 25) rfl rfl rfl ?_
          rw [← hQ]
          exact ⟨by unfold telQ; rw [if_neg (by omega), show j = 5 by omega], rfl, rfl⟩
        · skip
          refine zaload_n (k := 11) rfl rfl ?_
          refine ziload_n (k := 12) rfl rfl ?_
          refine ziload_n (k := 13) rfl rfl ?_
          refine zfV1 (k := 14) rfl (c_NT_mostLeft h8 hw hW hS hSI0 hWI0 (by omega)) fm_NT_mostLeft lk_11_269 rfl rfl ob_1 ⟨_, rfl, rfl⟩ (Nat.le_of_ble_eq_true rfl) (by decide) ⟨by decide, by decide⟩ ?_
          refine zaload_n (k := 15) rfl rfl ?_
          refine ziload_n (k := 16) rfl rfl ?_
          refine ziload_n (k := 17) rfl rfl ?_
          refine zfV1 (k := 18) rfl (c_NT_mostLeft h8 hw hW hS hSI0 hWI0 (by omega)) fm_NT_mostLeft lk_11_269 rfl rfl ob_1 ⟨_, rfl, rfl⟩ (Nat.le_of_ble_eq_true rfl) (by decide) ⟨by decide, by decide⟩ ?_
          refine zicmp_ge (k := 19) rfl rfl (fun c3 => ?_) (fun c3 => ?_)
          · skip
            refine ziincB (k := 22) (ls' := [_, _, _, _]) rfl rfl (by decide) (by omega) rfl ?_
            refine zgoto (k := 23) rfl rfl ?_
            first
            | (have en : telN (Wm 7) (Wm 0 3).toNat b (j + 1) = telN (Wm 7) (Wm 0 3).toNat b j := if_neg (by omega)
               have r := ih10 (j + 1) (by omega) (by omega)
               rw [en] at r
               exact r)
            | (have en : telN (Wm 7) (Wm 0 3).toNat b (j + 1) = ((j + 1 : Nat) : Int) := if_pos (by omega)
               have r := ih10 (j + 1) (by omega) (by omega)
               rw [en] at r
               exact r)
          · skip
            refine ziload_n (k := 20) rfl rfl ?_
            refine zistore_n (k := 21) (ls' := [_, _, _, _]) rfl (Nat.le_of_ble_eq_true rfl) rfl ?_
            refine ziincB (k := 22) (ls' := [_, _, _, _]) rfl rfl (by decide) (by omega) rfl ?_
            refine zgoto (k := 23) rfl rfl ?_
            first
            | (have en : telN (Wm 7) (Wm 0 3).toNat b (j + 1) = telN (Wm 7) (Wm 0 3).toNat b j := if_neg (by omega)
               have r := ih10 (j + 1) (by omega) (by omega)
               rw [en] at r
               exact r)
            | (have en : telN (Wm 7) (Wm 0 3).toNat b (j + 1) = ((j + 1 : Nat) : Int) := if_pos (by omega)
               have r := ih10 (j + 1) (by omega) (by omega)
               rw [en] at r
               exact r)
    exact lp10 _ 0 (Nat.lt_succ_self _) (by omega)
  · skip
    refine ziconst (k := 2) rfl (by decide) ?_
    refine zireturn (k := 3) rfl rfl rfl ?_
    rw [← hQ]
    exact ⟨by unfold telQ; rw [if_pos (by omega)], rfl, rfl⟩
theorem telQ_b (sg : Int → Int) (n : Nat) (b : Int) : -1 ≤ telQ sg n b ∧ telQ sg n b ≤ 5 := by
  unfold telQ
  have h := telN_b sg n b 5
  split <;> omega
set_option maxHeartbeats 4000000 in
set_option maxRecDepth 20000 in
theorem c_NT_who {Γ : zv_M} {L : Int} {w : Int} {σ S Wm : zv_H} (h8 : σ 1 8 = w) (hw : w ∈ wrL) (hW : vw 12 σ w = Wm) (hS : vw 10 σ 30 = S) (hSI : SI (Wm 0 1) (Wm 0 3) S) (hWI : WI Wm) (hs : 0 ≤ σ 1 15 ∧ σ 1 15 ≤ 16) {t : Int} : zC Γ m_NT_who 3 0 0 (GM L) [zR 1, zI t] σ (zFn (some (zI (whoQ (Wm 7) (Wm 0 3).toNat (sebN (Wm 7) (σ 286) (σ 287) (σ 1 15).toNat (Wm 0 3).toNat) t))) (GM L) σ) := by
  refine zC_of (ls0 := [_, _, _]) zm_NT_who (by decide) rfl (Nat.le_of_ble_eq_true rfl) ?_
  generalize hQ : (zFn (some (zI (whoQ (Wm 7) (Wm 0 3).toNat (sebN (Wm 7) (σ 286) (σ 287) (σ 1 15).toNat (Wm 0 3).toNat) t))) (GM L) σ) = Q
  have ha : (30 : Int) ∈ stL := by decide
  have e30 : σ 30 = S 0 := st_e0 hS
  have e31 : σ 31 = S 1 := st_e (f := 1) hS (by omega)
  have e32 : σ 32 = S 2 := st_e (f := 2) hS (by omega)
  have e33 : σ 33 = S 3 := st_e (f := 3) hS (by omega)
  have e34 : σ 34 = S 4 := st_e (f := 4) hS (by omega)
  have e35 : σ 35 = S 5 := st_e (f := 5) hS (by omega)
  have e36 : σ 36 = S 6 := st_e (f := 6) hS (by omega)
  have e37 : σ 37 = S 7 := st_e (f := 7) hS (by omega)
  have e38 : σ 38 = S 8 := st_e (f := 8) hS (by omega)
  have e39 : σ 39 = S 9 := st_e (f := 9) hS (by omega)
  have e40 : σ 40 = S 10 := st_e (f := 10) hS (by omega)
  have ew0 : σ w = Wm 0 := st_e0 hW
  have ew1 : σ (w + 1) = Wm 1 := st_e (f := 1) hW (by omega)
  have ew2 : σ (w + 2) = Wm 2 := st_e (f := 2) hW (by omega)
  have ew3 : σ (w + 3) = Wm 3 := st_e (f := 3) hW (by omega)
  have ew4 : σ (w + 4) = Wm 4 := st_e (f := 4) hW (by omega)
  have ew5 : σ (w + 5) = Wm 5 := st_e (f := 5) hW (by omega)
  have ew6 : σ (w + 6) = Wm 6 := st_e (f := 6) hW (by omega)
  have ew7 : σ (w + 7) = Wm 7 := st_e (f := 7) hW (by omega)
  have ew8 : σ (w + 8) = Wm 8 := st_e (f := 8) hW (by omega)
  have ew9 : σ (w + 9) = Wm 9 := st_e (f := 9) hW (by omega)
  have ew10 : σ (w + 10) = Wm 10 := st_e (f := 10) hW (by omega)
  have ew11 : σ (w + 11) = Wm 11 := st_e (f := 11) hW (by omega)
  have ew12 : σ (w + 12) = Wm 12 := st_e (f := 12) hW (by omega)
  have hSI0 := hSI
  have hWI0 := hWI
  obtain ⟨b0, b11, b12, bc, bm, bl, br⟩ := hSI
  obtain ⟨w1, w2, w3, w4, w5, w6, w7, w8, w9, w10⟩ := hWI
  have tqb := telQ_b (Wm 7) (Wm 0 3).toNat (sebN (Wm 7) (σ 286) (σ 287) (σ 1 15).toNat (Wm 0 3).toNat)
  refine zaload_n (k := 0) rfl rfl ?_
  refine zfV1 (k := 1) rfl (c_NT_seenBits h8 hw hW hS hSI0 hWI0 hs) fm_NT_seenBits lk_11_263 rfl rfl ob_1 ⟨_, rfl, rfl⟩ (Nat.le_of_ble_eq_true rfl) (by decide) ⟨by decide, by decide⟩ ?_
  refine zistore_n (k := 2) (ls' := [_, _, _]) rfl (Nat.le_of_ble_eq_true rfl) rfl ?_
  refine ziload_n (k := 3) rfl rfl ?_
  refine ztabC (k := 4) (v := 0) 0 rfl rfl (by decide) rfl rfl (fun c1 => ?_) (fun c1 => ?_)
  · skip
    refine ziload_n (k := 5) rfl rfl ?_
    refine zireturn (k := 6) rfl rfl rfl ?_
    rw [← hQ]
    exact ⟨by unfold whoQ; first | (rw [if_pos (by omega)]; done) | (rw [if_neg (by omega), if_pos (by omega)]; done) | (rw [if_neg (by omega), if_neg (by omega), if_pos (by omega)]; done) | (rw [if_neg (by omega), if_neg (by omega), if_neg (by omega)]; done), rfl, rfl⟩
  refine ztabC (k := 4) (v := 1) 1 rfl rfl (by decide) rfl rfl (fun c2 => ?_) (fun c2 => ?_)
  · skip
    refine zaload_n (k := 7) rfl rfl ?_
    refine ziload_n (k := 8) rfl rfl ?_
    refine zfV1 (k := 9) rfl (c_NT_tellingSign h8 hw hW hS hSI0 hWI0) fm_NT_tellingSign lk_11_266 rfl rfl ob_1 ⟨_, rfl, rfl⟩ (Nat.le_of_ble_eq_true rfl) (by decide) ⟨by decide, by decide⟩ ?_
    refine zireturn (k := 10) rfl rfl rfl ?_
    rw [← hQ]
    exact ⟨by unfold whoQ; first | (rw [if_pos (by omega)]; done) | (rw [if_neg (by omega), if_pos (by omega)]; done) | (rw [if_neg (by omega), if_neg (by omega), if_pos (by omega)]; done) | (rw [if_neg (by omega), if_neg (by omega), if_neg (by omega)]; done), rfl, rfl⟩
  refine ztabC (k := 4) (v := 2) 2 rfl rfl (by decide) rfl rfl (fun c3 => ?_) (fun c3 => ?_)
  · skip
    refine zaload_n (k := 11) rfl rfl ?_
    refine ziload_n (k := 12) rfl rfl ?_
    refine zaload_n (k := 13) rfl rfl ?_
    refine ziload_n (k := 14) rfl rfl ?_
    refine zfV1 (k := 15) rfl (c_NT_tellingSign h8 hw hW hS hSI0 hWI0) fm_NT_tellingSign lk_11_266 rfl rfl ob_1 ⟨_, rfl, rfl⟩ (Nat.le_of_ble_eq_true rfl) (by decide) ⟨by decide, by decide⟩ ?_
    refine zfV1 (k := 16) rfl (c_NT_mostLeft h8 hw hW hS hSI0 hWI0 (by omega)) fm_NT_mostLeft lk_11_269 rfl rfl ob_1 ⟨_, rfl, rfl⟩ (Nat.le_of_ble_eq_true rfl) (by decide) ⟨by decide, by decide⟩ ?_
    refine zireturn (k := 17) rfl rfl rfl ?_
    rw [← hQ]
    exact ⟨by unfold whoQ; first | (rw [if_pos (by omega)]; done) | (rw [if_neg (by omega), if_pos (by omega)]; done) | (rw [if_neg (by omega), if_neg (by omega), if_pos (by omega)]; done) | (rw [if_neg (by omega), if_neg (by omega), if_neg (by omega)]; done), rfl, rfl⟩
  refine ztabOut (k := 4) rfl (by omega) rfl ?_
  refine ziconst (k := 18) rfl (by decide) ?_
  refine zireturn (k := 19) rfl rfl rfl ?_
  rw [← hQ]
  exact ⟨by unfold whoQ; first | (rw [if_pos (by omega)]; done) | (rw [if_neg (by omega), if_pos (by omega)]; done) | (rw [if_neg (by omega), if_neg (by omega), if_pos (by omega)]; done) | (rw [if_neg (by omega), if_neg (by omega), if_neg (by omega)]; done), rfl, rfl⟩
