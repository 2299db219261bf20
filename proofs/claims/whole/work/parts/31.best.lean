/-! best -/
theorem SI_p {nc nm : Int} {S : zv_H} (h : SI nc nm S) {c v : Int} (he : 0 ≤ v ∧ v ≤ 999) : SI nc nm (zup S 2 c v) := by
  obtain ⟨b0, b11, b12, bc, bm, bl, br⟩ := h
  refine ⟨by rw [zup_n (by omega)]; exact b0, by rw [zup_n (by omega)]; exact b11, by rw [zup_n (by omega)]; exact b12, fun k h1 h2 => ?_, fun k h1 h2 => ?_, fun k h1 h2 => ?_, fun k h1 h2 => ?_⟩
  · have q := bc k h1 h2
    rw [zup_n (by omega), zup_n (a' := 3) (by omega)]
    refine ⟨q.1, ?_, q.2.2⟩
    unfold zup
    split <;> omega
  · rw [zup_n (by omega), zup_n (a' := 5) (by omega), zup_n (a' := 6) (by omega), zup_n (a' := 7) (by omega), zup_n (a' := 8) (by omega)]; exact bm k h1 h2
  · rw [zup_n (by omega)]; exact bl k h1 h2
  · rw [zup_n (by omega)]; exact br k h1 h2
def lftF (Wm S : zv_H) (c : Int) (n : Nat) (p : Int) : Int := (gooF Wm (zup S 2 c p) n).1 1 c
def bstL (Wm S : zv_H) (c : Int) (n : Nat) : Nat → Int × Int
  | 0 => (0, 21)
  | j + 1 => if lftF Wm S c n (37 * j) < (bstL Wm S c n j).2 then (37 * j, lftF Wm S c n (37 * j)) else bstL Wm S c n j
theorem lft_b {Wm S : zv_H} {c : Int} {n : Nat} {p : Int} (hW : WI Wm) (h : SI (Wm 0 1) (Wm 0 3) S) (hc : 0 ≤ c ∧ c < Wm 0 1) (hp : 0 ≤ p ∧ p ≤ 999) : 0 ≤ lftF Wm S c n p ∧ lftF Wm S c n p ≤ 20 := ((SI_goo hW (SI_p h hp) n).2.2.2.1 c hc.1 hc.2).1
theorem bst_0 {Wm S : zv_H} {c : Int} {n : Nat} (hW : WI Wm) (h : SI (Wm 0 1) (Wm 0 3) S) (hc : 0 ≤ c ∧ c < Wm 0 1) {j : Nat} (hj : (bstL Wm S c n j).2 ≤ 0) : ∀ d : Nat, j + d ≤ 28 → bstL Wm S c n (j + d) = bstL Wm S c n j
  | 0, _ => rfl
  | d + 1, hd => by
    have ih := bst_0 hW h hc hj d (by omega)
    have b := lft_b (n := n) hW h hc (p := 37 * ((j + d : Nat) : Int)) (by omega)
    rw [show j + (d + 1) = (j + d) + 1 by omega, show bstL Wm S c n (j + d + 1) = if lftF Wm S c n (37 * ((j + d : Nat) : Int)) < (bstL Wm S c n (j + d)).2 then (37 * ((j + d : Nat) : Int), lftF Wm S c n (37 * ((j + d : Nat) : Int))) else bstL Wm S c n (j + d) from rfl, ih, if_neg (by omega)]
def bstQ (Wm S : zv_H) (c n t : Int) : Int := if ¬ ((0 ≤ c ∧ c < Wm 0 1) ∧ (1 ≤ n ∧ n ≤ 40) ∧ n ≤ min 80 (999 - S 0 0) ∧ (0 ≤ t ∧ t ≤ 1)) then -1 else if t = 0 then (bstL Wm S c n.toNat 28).1 else (bstL Wm S c n.toNat 28).2
theorem scr_w {σ σ1 : zv_H} {w : Int} (h : scr σ σ1) (hw : w ∈ wrL) : vw 12 σ1 w = vw 12 σ w := by
  have := wr_far hw
  exact vw_eq (fun x k h1 h2 => h x k (by omega) (by omega)) (by omega)
theorem scr_30 {σ σ1 : zv_H} (h : scr σ σ1) : vw 10 σ1 30 = vw 10 σ 30 := vw_eq (fun x k h1 h2 => h x k (by omega) (by omega)) (by omega)
set_option maxHeartbeats 4000000 in
set_option maxRecDepth 20000 in
theorem c_NT_best {Γ : zv_M} {L : Int} {w : Int} {σ S Wm : zv_H} (h8 : σ 1 8 = w) (hw : w ∈ wrL) (hW : vw 12 σ w = Wm) (hS : vw 10 σ 30 = S) (hSI : SI (Wm 0 1) (Wm 0 3) S) (hWI : WI Wm) (hZ : SZ S) (hAZ : SZ (vw 10 σ 41)) {c n t : Int} : zC Γ m_NT_best 8 0 0 (GM L) [zR 1, zI c, zI n, zI t] σ (zPI (GM L) (fun z σ' => z = bstQ Wm S c n t ∧ scr σ σ' ∧ SZ (vw 10 σ' 41))) := by
  refine zC_of (ls0 := [_, _, _, _, _, _, _, _]) zm_NT_best (by decide) rfl (Nat.le_of_ble_eq_true rfl) ?_
  generalize hQ : (zPI (GM L) (fun z σ' => z = bstQ Wm S c n t ∧ scr σ σ' ∧ SZ (vw 10 σ' 41))) = Q
  have ha : (30 : Int) ∈ stL := by decide
  have e30 : σ 30 = S 0 := st_e0 hS
  have e31 : σ 31 = S 1 := st_e (f := 1) hS (by omega)
  have e32 : σ 32 = S 2 := st_e (f := 2) hS (by omega)
  have e33 : σ 33 = S 3 := st_e (f := 3) hS (by omega)
  have e34 : σ 34 = S 4 := st_e (f := 4) hS (by omega)
  have e35 : σ 35 = S 5 := st_e (f := 5) hS (by omega)
  have e36 : σ 36 = S 6 := st_e (f := 6) hS (by omega)
  have e37 : σ 37 = S 7 := st_e (f := 7) hS (by omega)
  have e38 : σ 38 = S 8 := st_e (f := 8) hS (by omega)
  have e39 : σ 39 = S 9 := st_e (f := 9) hS (by omega)
  have e40 : σ 40 = S 10 := st_e (f := 10) hS (by omega)
  have ew0 : σ w = Wm 0 := st_e0 hW
  have ew1 : σ (w + 1) = Wm 1 := st_e (f := 1) hW (by omega)
  have ew2 : σ (w + 2) = Wm 2 := st_e (f := 2) hW (by omega)
  have ew3 : σ (w + 3) = Wm 3 := st_e (f := 3) hW (by omega)
  have ew4 : σ (w + 4) = Wm 4 := st_e (f := 4) hW (by omega)
  have ew5 : σ (w + 5) = Wm 5 := st_e (f := 5) hW (by omega)
  have ew6 : σ (w + 6) = Wm 6 := st_e (f := 6) hW (by omega)
  have ew7 : σ (w + 7) = Wm 7 := st_e (f := 7) hW (by omega)
  have ew8 : σ (w + 8) = Wm 8 := st_e (f := 8) hW (by omega)
  have ew9 : σ (w + 9) = Wm 9 := st_e (f := 9) hW (by omega)
  have ew10 : σ (w + 10) = Wm 10 := st_e (f := 10) hW (by omega)
  have ew11 : σ (w + 11) = Wm 11 := st_e (f := 11) hW (by omega)
  have ew12 : σ (w + 12) = Wm 12 := st_e (f := 12) hW (by omega)
  have hSI0 := hSI
  have hWI0 := hWI
  obtain ⟨b0, b11, b12, bc, bm, bl, br⟩ := hSI
  obtain ⟨w1, w2, w3, w4, w5, w6, w7, w8, w9, w10⟩ := hWI
  have ha1 : (41 : Int) ∈ stL := by decide
  refine zaload_n (k := 0) rfl rfl ?_
  refine zgR 8 (k := 1) rfl ob_1 fl_11_19 rfl fx_1_8 ?_
  first | rw [h8] | rw [h0.2 1 8 (by omega) (by omega) (by omega), h82] | rw [h0.2 1 8 (by omega) (by omega) (by omega), h8]
  refine ziload_n (k := 2) rfl rfl ?_
  refine zfV1 (k := 3) rfl (c_War_hasCounty hw) fm_War_hasCounty lk_11_168 rfl rfl (wr_ob hw) ⟨_, rfl, rfl⟩ (Nat.le_of_ble_eq_true rfl) (by decide) ⟨by decide, by decide⟩ ?_
  try simp only [e30, e31, e32, e33, e34, e35, e36, e37, e38, e39, e40, ew0, ew1, ew2, ew3, ew4, ew5, ew6, ew7, ew8, ew9, ew10, ew11, ew12]
  refine zif_eq (k := 4) rfl rfl (fun c1 => ?_) (fun c1 => ?_)
  · skip
    refine ziconst (k := 20) rfl (by decide) ?_
    refine zireturn (k := 21) rfl rfl rfl ?_
    rw [← hQ]
    exact ⟨rfl, _, rfl, by unfold bstQ; rw [if_pos (by (try split at c1) <;> omega)], scr_rf σ, hAZ⟩
  · skip
    have hcc : 0 ≤ c ∧ c < Wm 0 1 := by split at c1 <;> first | assumption | (exfalso; omega)
    refine ziload_n (k := 5) rfl rfl ?_
    refine ziconst (k := 6) rfl (by decide) ?_
    refine zicmp_lt (k := 7) rfl rfl (fun c2 => ?_) (fun c2 => ?_)
    · skip
      refine ziconst (k := 20) rfl (by decide) ?_
      refine zireturn (k := 21) rfl rfl rfl ?_
      rw [← hQ]
      exact ⟨rfl, _, rfl, by unfold bstQ; rw [if_pos (by (try split at c1) <;> omega)], scr_rf σ, hAZ⟩
    · skip
      refine ziload_n (k := 8) rfl rfl ?_
      refine zbipush (k := 9) rfl rfl ?_
      refine zicmp_gt (k := 10) rfl rfl (fun c3 => ?_) (fun c3 => ?_)
      · skip
        refine ziconst (k := 20) rfl (by decide) ?_
        refine zireturn (k := 21) rfl rfl rfl ?_
        rw [← hQ]
        exact ⟨rfl, _, rfl, by unfold bstQ; rw [if_pos (by (try split at c1) <;> omega)], scr_rf σ, hAZ⟩
      · skip
        refine ziload_n (k := 11) rfl rfl ?_
        refine zaload_n (k := 12) rfl rfl ?_
        refine zfV1 (k := 13) rfl (c_NT_weeksAhead h8 hw hW hS hSI0 hWI0) fm_NT_weeksAhead lk_11_212 rfl rfl ob_1 ⟨_, rfl, rfl⟩ (Nat.le_of_ble_eq_true rfl) (by decide) ⟨by decide, by decide⟩ ?_
        refine zicmp_gt (k := 14) rfl rfl (fun c4 => ?_) (fun c4 => ?_)
        · skip
          refine ziconst (k := 20) rfl (by decide) ?_
          refine zireturn (k := 21) rfl rfl rfl ?_
          rw [← hQ]
          exact ⟨rfl, _, rfl, by unfold bstQ; rw [if_pos (by (try split at c1) <;> omega)], scr_rf σ, hAZ⟩
        · skip
          refine ziload_n (k := 15) rfl rfl ?_
          refine zif_lt (k := 16) rfl rfl (fun c5 => ?_) (fun c5 => ?_)
          · skip
            refine ziconst (k := 20) rfl (by decide) ?_
            refine zireturn (k := 21) rfl rfl rfl ?_
            rw [← hQ]
            exact ⟨rfl, _, rfl, by unfold bstQ; rw [if_pos (by (try split at c1) <;> omega)], scr_rf σ, hAZ⟩
          · skip
            refine ziload_n (k := 17) rfl rfl ?_
            refine ziconst (k := 18) rfl (by decide) ?_
            refine zicmp_le (k := 19) rfl rfl (fun c6 => ?_) (fun c6 => ?_)
            · skip
              obtain ⟨N, rfl⟩ : ∃ N : Nat, n = N := ⟨n.toNat, by omega⟩
              refine ziconst (k := 22) rfl (by decide) ?_
              refine zistore (k := 23) (ls' := [_, _, _, _, _, _, _, _]) rfl (Nat.le_of_ble_eq_true rfl) rfl ?_
              refine zbipush (k := 24) rfl rfl ?_
              refine zistore (k := 25) (ls' := [_, _, _, _, _, _, _, _]) rfl (Nat.le_of_ble_eq_true rfl) rfl ?_
              refine ziconst (k := 26) rfl (by decide) ?_
              refine zistore (k := 27) (ls' := [_, _, _, _, _, _, _, _]) rfl (Nat.le_of_ble_eq_true rfl) rfl ?_
              have lp51 : ∀ (g : Nat) (j : Nat) (σ2 : zv_H), (28 - j) < g → (j ≤ 28) → (scr σ σ2) → (SZ (vw 10 σ2 41)) → zV Γ m_NT_best 8 0 0 Q (GM L) (0, 0) 51 [some (zR 1), some (zI c), some (zI N), some (zI t), some (zI (bstL Wm S c N j).1), some (zI (bstL Wm S c N j).2), some (zI (37 * j)), none] [] σ2 := by
                intro g
                induction g with
                | zero => intro j σ2 hg; exact absurd hg (Nat.not_lt_zero _)
                | succ g ih51 =>
                  intro j σ2 hg hj hs hz
                  have h82 : σ2 1 8 = w := by rw [hs 1 8 (by omega) (by omega)]; exact h8
                  have hW2 : vw 12 σ2 w = Wm := (scr_w hs hw).trans hW
                  have hS2 : vw 10 σ2 30 = S := (scr_30 hs).trans hS
                  refine ziload (k := 28) rfl rfl ?_
                  refine zsipush (k := 29) rfl rfl ?_
                  refine zicmp_gt (k := 30) rfl rfl (fun c7 => ?_) (fun c7 => ?_)
                  · skip
                    have hend : bstL Wm S c N 28 = bstL Wm S c N j := by
                      first
                      | (rw [show (28 : Nat) = j by omega]; done)
                      | (rw [show (28 : Nat) = j + (28 - j) by omega]; exact bst_0 hWI0 hSI0 hcc (by omega) _ (by omega))
                    refine ziload_n (k := 68) rfl rfl ?_
                    refine zif_ne (k := 69) rfl rfl (fun c8 => ?_) (fun c8 => ?_)
                    · skip
                      refine ziload (k := 72) rfl rfl ?_
                      refine zireturn (k := 73) rfl rfl rfl ?_
                      rw [← hQ]
                      refine ⟨rfl, _, rfl, ?_, hs, hz⟩
                      unfold bstQ
                      rw [if_neg (by omega)]
                      rw [show (N : Int).toNat = N from rfl, hend]
                      first
                      | (rw [if_pos (by omega)]; done)
                      | (rw [if_neg (by omega)]; done)
                    · skip
                      refine ziload (k := 70) rfl rfl ?_
                      refine zgoto (k := 71) rfl rfl ?_
                      refine zireturn (k := 73) rfl rfl rfl ?_
                      rw [← hQ]
                      refine ⟨rfl, _, rfl, ?_, hs, hz⟩
                      unfold bstQ
                      rw [if_neg (by omega)]
                      rw [show (N : Int).toNat = N from rfl, hend]
                      first
                      | (rw [if_pos (by omega)]; done)
                      | (rw [if_neg (by omega)]; done)
                  · skip
                    refine ziload (k := 31) rfl rfl ?_
                    refine zif_le (k := 32) rfl rfl (fun c9 => ?_) (fun c9 => ?_)
                    · skip
                      have hend : bstL Wm S c N 28 = bstL Wm S c N j := by
                        first
                        | (rw [show (28 : Nat) = j by omega]; done)
                        | (rw [show (28 : Nat) = j + (28 - j) by omega]; exact bst_0 hWI0 hSI0 hcc (by omega) _ (by omega))
                      refine ziload_n (k := 68) rfl rfl ?_
                      refine zif_ne (k := 69) rfl rfl (fun c10 => ?_) (fun c10 => ?_)
                      · skip
                        refine ziload (k := 72) rfl rfl ?_
                        refine zireturn (k := 73) rfl rfl rfl ?_
                        rw [← hQ]
                        refine ⟨rfl, _, rfl, ?_, hs, hz⟩
                        unfold bstQ
                        rw [if_neg (by omega)]
                        rw [show (N : Int).toNat = N from rfl, hend]
                        first
                        | (rw [if_pos (by omega)]; done)
                        | (rw [if_neg (by omega)]; done)
                      · skip
                        refine ziload (k := 70) rfl rfl ?_
                        refine zgoto (k := 71) rfl rfl ?_
                        refine zireturn (k := 73) rfl rfl rfl ?_
                        rw [← hQ]
                        refine ⟨rfl, _, rfl, ?_, hs, hz⟩
                        unfold bstQ
                        rw [if_neg (by omega)]
                        rw [show (N : Int).toNat = N from rfl, hend]
                        first
                        | (rw [if_pos (by omega)]; done)
                        | (rw [if_neg (by omega)]; done)
                    · skip
                      refine zaload_n (k := 33) rfl rfl ?_
                      refine zgF 7 (k := 34) rfl ob_1 fl_11_33 rfl fx_1_7 ?_
                      refine zaload_n (k := 35) rfl rfl ?_
                      refine zgF 6 (k := 36) rfl ob_1 fl_11_29 rfl fx_1_6 ?_
                      refine zpV0 (k := 37) rfl (k_copy ha1 (by decide) (by omega) hz hS2 hZ) fm_State_copy lk_11_216 rfl rfl ob_41 ⟨_, rfl, rfl⟩ (Nat.le_of_ble_eq_true rfl) (by decide) ⟨by decide, by decide⟩ (fun σ3 h0 => ?_)
                      refine zaload_n (k := 38) rfl rfl ?_
                      refine zgF 7 (k := 39) rfl ob_1 fl_11_33 rfl fx_1_7 ?_
                      refine zgF 2 (k := 40) rfl ob_41 fl_11_187 rfl fx_41_2 ?_
                      refine ziload_n (k := 41) rfl rfl ?_
                      refine ziload (k := 42) rfl rfl ?_
                      refine zpS0 (k := 43) rfl (k_put (a := 41) (g := 2) ar_43 (by omega) h0 (by omega) (by omega)) fm_NT_put lk_11_244 rfl rfl (Nat.le_of_ble_eq_true rfl) (by decide) ⟨by decide, by decide⟩ (fun σn hh => ?_)
                      clear h0
                      have h0 := hh
                      clear hh
                      refine zaload_n (k := 44) rfl rfl ?_
                      refine zgF 2 (k := 45) rfl ob_1 fl_11_48 rfl fx_1_2 ?_
                      refine zaload_n (k := 46) rfl rfl ?_
                      refine zgR 8 (k := 47) rfl ob_1 fl_11_19 rfl fx_1_8 ?_
                      first | rw [h8] | rw [h0.2 1 8 (by omega) (by omega) (by omega), h82] | rw [h0.2 1 8 (by omega) (by omega) (by omega), h8]
                      refine zaload_n (k := 48) rfl rfl ?_
                      refine zgF 7 (k := 49) rfl ob_1 fl_11_33 rfl fx_1_7 ?_
                      refine ziload_n (k := 50) rfl rfl ?_
                      refine zpVI (k := 51) rfl (c_March_go ha1 hw h0 hW2 (SI_p (c := c) hSI0 (v := 37 * (j : Int)) (by omega)) hWI0 N (by omega)) fm_March_go lk_11_220 rfl rfl ob_55 ⟨_, rfl, rfl⟩ (Nat.le_of_ble_eq_true rfl) (by decide) ⟨by decide, by decide⟩ (fun z σ5 h2 => ?_)
                      clear h0
                      have h0 := h2.2
                      refine zpop (k := 52) rfl rfl ?_
                      refine zaload_n (k := 53) rfl rfl ?_
                      refine zgF 7 (k := 54) rfl ob_1 fl_11_33 rfl fx_1_7 ?_
                      refine zgF 1 (k := 55) rfl ob_41 fl_11_142 rfl fx_41_1 ?_
                      refine ziload_n (k := 56) rfl rfl ?_
                      refine zfS1 (k := 57) rfl (c_NT_at ar_42) fm_NT_at lk_11_174 rfl rfl (Nat.le_of_ble_eq_true rfl) (by decide) ⟨by decide, by decide⟩ ?_
                      rw [zat_in (by omega), show σ5 42 = _ from st_e (f := 1) h0.1 (by omega), show (gooF Wm (zup S 2 c (37 * (j : Int))) N).1 1 c = lftF Wm S c N (37 * (j : Int)) from rfl]
                      have lb := lft_b (n := N) hWI0 hSI0 hcc (p := 37 * (j : Int)) (by omega)
                      refine zistore (k := 58) (ls' := [_, _, _, _, _, _, _, _]) rfl (Nat.le_of_ble_eq_true rfl) rfl ?_
                      refine ziload (k := 59) rfl rfl ?_
                      refine ziload (k := 60) rfl rfl ?_
                      refine zicmp_ge (k := 61) rfl rfl (fun c11 => ?_) (fun c11 => ?_)
                      · skip
                        refine ziincB (k := 66) (ls' := [_, _, _, _, _, _, _, _]) rfl rfl (by decide) (by omega) rfl ?_
                        refine zgoto (k := 67) rfl rfl ?_
                        refine zforget (ls' := [_, _, _, _, _, _, _, _]) 7 rfl ?_
                        have hz9 := SZ_goo hWI0 (SI_p (c := c) hSI0 (v := 37 * (j : Int)) (by omega)) (SZ_up hZ (by unfold inS; omega)) N
                        rw [← h0.1] at hz9
                        first
                        | (have en : bstL Wm S c N (j + 1) = bstL Wm S c N j := if_neg (by omega)
                           have r := ih51 (j + 1) _ (by omega) (by omega) (scr_tr hs (scr_st h0)) hz9
                           rw [en, show 37 * ((j + 1 : Nat) : Int) = 37 * (j : Int) + 37 by omega] at r
                           exact r)
                        | (have en : bstL Wm S c N (j + 1) = (37 * (j : Int), lftF Wm S c N (37 * (j : Int))) := if_pos (by omega)
                           have r := ih51 (j + 1) _ (by omega) (by omega) (scr_tr hs (scr_st h0)) hz9
                           rw [en, show 37 * ((j + 1 : Nat) : Int) = 37 * (j : Int) + 37 by omega] at r
                           exact r)
                      · skip
                        refine ziload (k := 62) rfl rfl ?_
                        refine zistore (k := 63) (ls' := [_, _, _, _, _, _, _, _]) rfl (Nat.le_of_ble_eq_true rfl) rfl ?_
                        refine ziload (k := 64) rfl rfl ?_
                        refine zistore (k := 65) (ls' := [_, _, _, _, _, _, _, _]) rfl (Nat.le_of_ble_eq_true rfl) rfl ?_
                        refine ziincB (k := 66) (ls' := [_, _, _, _, _, _, _, _]) rfl rfl (by decide) (by omega) rfl ?_
                        refine zgoto (k := 67) rfl rfl ?_
                        refine zforget (ls' := [_, _, _, _, _, _, _, _]) 7 rfl ?_
                        have hz9 := SZ_goo hWI0 (SI_p (c := c) hSI0 (v := 37 * (j : Int)) (by omega)) (SZ_up hZ (by unfold inS; omega)) N
                        rw [← h0.1] at hz9
                        first
                        | (have en : bstL Wm S c N (j + 1) = bstL Wm S c N j := if_neg (by omega)
                           have r := ih51 (j + 1) _ (by omega) (by omega) (scr_tr hs (scr_st h0)) hz9
                           rw [en, show 37 * ((j + 1 : Nat) : Int) = 37 * (j : Int) + 37 by omega] at r
                           exact r)
                        | (have en : bstL Wm S c N (j + 1) = (37 * (j : Int), lftF Wm S c N (37 * (j : Int))) := if_pos (by omega)
                           have r := ih51 (j + 1) _ (by omega) (by omega) (scr_tr hs (scr_st h0)) hz9
                           rw [en, show 37 * ((j + 1 : Nat) : Int) = 37 * (j : Int) + 37 by omega] at r
                           exact r)
              exact lp51 _ 0 _ (Nat.lt_succ_self _) (by omega) (scr_rf σ) hAZ
            · skip
              refine ziconst (k := 20) rfl (by decide) ?_
              refine zireturn (k := 21) rfl rfl rfl ?_
              rw [← hQ]
              exact ⟨rfl, _, rfl, by unfold bstQ; rw [if_pos (by (try split at c1) <;> omega)], scr_rf σ, hAZ⟩
