/-! who it was -/
def sfit (sg sS sH : Int → Int) (m : Int) : Nat → Bool
  | 0 => true
  | r + 1 => sfit sg sS sH m r && decide (zshr (sg m) (sS r) % 2 = sH r)
theorem sfit_s (sg sS sH : Int → Int) (m : Int) (r : Nat) : sfit sg sS sH m (r + 1) = (sfit sg sS sH m r && decide (zshr (sg m) (sS r) % 2 = sH r)) := rfl
def sebN (sg sS sH : Int → Int) (n : Nat) : Nat → Int
  | 0 => 0
  | j + 1 => if sfit sg sS sH j n = true then sebN sg sS sH n j + 2 ^ j else sebN sg sS sH n j
theorem sebN_b (sg sS sH : Int → Int) (n : Nat) : ∀ j : Nat, 0 ≤ sebN sg sS sH n j ∧ sebN sg sS sH n j < 2 ^ j
  | 0 => ⟨Int.le_refl _, by show (0 : Int) < 2 ^ 0; decide⟩
  | j + 1 => by
    have ih := sebN_b sg sS sH n j
    have hp : (2 : Int) ^ (j + 1) = 2 ^ j * 2 := Int.pow_succ _ _
    rw [show sebN sg sS sH n (j + 1) = if sfit sg sS sH j n = true then sebN sg sS sH n j + 2 ^ j else sebN sg sS sH n j from rfl, hp]
    split <;> omega
def mlH (sg : Int → Int) (b s : Int) : Nat → Int
  | 0 => 0
  | j + 1 => if zshr b j % 2 = 1 then mlH sg b s j + zshr (sg j) s % 2 else mlH sg b s j
def mlL (sg : Int → Int) (b s : Int) : Nat → Int
  | 0 => 0
  | j + 1 => if zshr b j % 2 = 1 then mlL sg b s j + (1 - zshr (sg j) s % 2) else mlL sg b s j
theorem ml_b (sg : Int → Int) (b s : Int) : ∀ j : Nat, (0 ≤ mlH sg b s j ∧ mlH sg b s j ≤ j) ∧ (0 ≤ mlL sg b s j ∧ mlL sg b s j ≤ j)
  | 0 => ⟨⟨Int.le_refl _, Int.le_refl _⟩, ⟨Int.le_refl _, Int.le_refl _⟩⟩
  | j + 1 => by
    have ih := ml_b sg b s j
    rw [show mlH sg b s (j + 1) = if zshr b j % 2 = 1 then mlH sg b s j + zshr (sg j) s % 2 else mlH sg b s j from rfl, show mlL sg b s (j + 1) = if zshr b j % 2 = 1 then mlL sg b s j + (1 - zshr (sg j) s % 2) else mlL sg b s j from rfl]
    split <;> omega
def mlQ (sg : Int → Int) (n : Nat) (b s : Int) : Int := if s = -1 then -1 else max (mlH sg b s n) (mlL sg b s n)
def telN (sg : Int → Int) (n : Nat) (b : Int) : Nat → Int
  | 0 => 0
  | j + 1 => if mlQ sg n b (j + 1) < mlQ sg n b (telN sg n b j) then ((j + 1 : Nat) : Int) else telN sg n b j
theorem telN_b (sg : Int → Int) (n : Nat) (b : Int) : ∀ j : Nat, 0 ≤ telN sg n b j ∧ telN sg n b j ≤ j
  | 0 => ⟨Int.le_refl _, Int.le_refl _⟩
  | j + 1 => by
    have ih := telN_b sg n b j
    rw [show telN sg n b (j + 1) = if mlQ sg n b (j + 1) < mlQ sg n b (telN sg n b j) then ((j + 1 : Nat) : Int) else telN sg n b j from rfl]
    split <;> omega
def telQ (sg : Int → Int) (n : Nat) (b : Int) : Int := if b = 0 then -1 else telN sg n b 5
def whoQ (sg : Int → Int) (n : Nat) (b t : Int) : Int := if t = 0 then b else if t = 1 then telQ sg n b else if t = 2 then mlQ sg n b (telQ sg n b) else -1
set_option maxHeartbeats 4000000 in
set_option maxRecDepth 20000 in
theorem c_NT_seenBits {Γ : zv_M} {L : Int} {w : Int} {σ S Wm : zv_H} (h8 : σ 1 8 = w) (hw : w ∈ wrL) (hW : vw 12 σ w = Wm) (hS : vw 10 σ 30 = S) (hSI : SI (Wm 0 1) (Wm 0 3) S) (hWI : WI Wm) (hs : 0 ≤ σ 1 15 ∧ σ 1 15 ≤ 16) : zC Γ m_NT_seenBits 1 0 0 (GM L) [zR 1] σ (zFn (some (zI (sebN (Wm 7) (σ 286) (σ 287) (σ 1 15).toNat (Wm 0 3).toNat))) (GM L) σ) := by
  refine zC_of (ls0 := [_, _, _, _, _]) zm_NT_seenBits (by decide) rfl (Nat.le_of_ble_eq_true rfl) ?_
  generalize hQ : (zFn (some (zI (sebN (Wm 7) (σ 286) (σ 287) (σ 1 15).toNat (Wm 0 3).toNat))) (GM L) σ) = Q
  have ha : (30 : Int) ∈ stL := by decide
  have e30 : σ 30 = S 0 := st_e0 hS
  have e31 : σ 31 = S 1 := st_e (f := 1) hS (by omega)
  have e32 : σ 32 = S 2 := st_e (f := 2) hS (by omega)
  have e33 : σ 33 = S 3 := st_e (f := 3) hS (by omega)
  have e34 : σ 34 = S 4 := st_e (f := 4) hS (by omega)
  have e35 : σ 35 = S 5 := st_e (f := 5) hS (by omega)
  have e36 : σ 36 = S 6 := st_e (f := 6) hS (by omega)
  have e37 : σ 37 = S 7 := st_e (f := 7) hS (by omega)
  have e38 : σ 38 = S 8 := st_e (f := 8) hS (by omega)
  have e39 : σ 39 = S 9 := st_e (f := 9) hS (by omega)
  have e40 : σ 40 = S 10 := st_e (f := 10) hS (by omega)
  have ew0 : σ w = Wm 0 := st_e0 hW
  have ew1 : σ (w + 1) = Wm 1 := st_e (f := 1) hW (by omega)
  have ew2 : σ (w + 2) = Wm 2 := st_e (f := 2) hW (by omega)
  have ew3 : σ (w + 3) = Wm 3 := st_e (f := 3) hW (by omega)
  have ew4 : σ (w + 4) = Wm 4 := st_e (f := 4) hW (by omega)
  have ew5 : σ (w + 5) = Wm 5 := st_e (f := 5) hW (by omega)
  have ew6 : σ (w + 6) = Wm 6 := st_e (f := 6) hW (by omega)
  have ew7 : σ (w + 7) = Wm 7 := st_e (f := 7) hW (by omega)
  have ew8 : σ (w + 8) = Wm 8 := st_e (f := 8) hW (by omega)
  have ew9 : σ (w + 9) = Wm 9 := st_e (f := 9) hW (by omega)
  have ew10 : σ (w + 10) = Wm 10 := st_e (f := 10) hW (by omega)
  have ew11 : σ (w + 11) = Wm 11 := st_e (f := 11) hW (by omega)
  have ew12 : σ (w + 12) = Wm 12 := st_e (f := 12) hW (by omega)
  have hSI0 := hSI
  have hWI0 := hWI
  obtain ⟨b0, b11, b12, bc, bm, bl, br⟩ := hSI
  obtain ⟨w1, w2, w3, w4, w5, w6, w7, w8, w9, w10⟩ := hWI
  refine ziconst (k := 0) rfl (by decide) ?_
  refine zistore_n (k := 1) (ls' := [_, _, _, _, _]) rfl (Nat.le_of_ble_eq_true rfl) rfl ?_
  refine ziconst (k := 2) rfl (by decide) ?_
  refine zistore_n (k := 3) (ls' := [_, _, _, _, _]) rfl (Nat.le_of_ble_eq_true rfl) rfl ?_
  have lp4 : ∀ (g : Nat) (j : Nat), ((Wm 0 3).toNat - j) < g → ((j : Int) ≤ Wm 0 3) → zV Γ m_NT_seenBits 1 0 0 Q (GM L) (0, 0) 4 [some (zR 1), some (zI (sebN (Wm 7) (σ 286) (σ 287) (σ 1 15).toNat j)), some (zI j), none, none] [] σ := by
    intro g
    induction g with
    | zero => intro j hg; exact absurd hg (Nat.not_lt_zero _)
    | succ g ih4 =>
      intro j hg hj
      refine ziload_n (k := 4) rfl rfl ?_
      refine zaload_n (k := 5) rfl rfl ?_
      refine zgR 8 (k := 6) rfl ob_1 fl_11_19 rfl fx_1_8 ?_
      first | rw [h8] | rw [h0.2 1 8 (by omega) (by omega) (by omega), h8]
      refine zgI 3 (k := 7) rfl (wr_ob hw) fl_11_136 rfl (wr_fx_3 hw) ?_
      try simp only [e30, e31, e32, e33, e34, e35, e36, e37, e38, e39, e40, ew0, ew1, ew2, ew3, ew4, ew5, ew6, ew7, ew8, ew9, ew10, ew11, ew12]
      refine zicmp_ge (k := 8) rfl rfl (fun c1 => ?_) (fun c1 => ?_)
      · skip
        rw [show j = (Wm 0 3).toNat by omega]
        refine ziload_n (k := 52) rfl rfl ?_
        refine zireturn (k := 53) rfl rfl rfl ?_
        rw [← hQ]
        exact ⟨rfl, rfl, rfl⟩
      · skip
        refine ziconst (k := 9) rfl (by decide) ?_
        refine zistore_n (k := 10) (ls' := [_, _, _, _, _]) rfl (Nat.le_of_ble_eq_true rfl) rfl ?_
        refine ziconst (k := 11) rfl (by decide) ?_
        refine zistore (k := 12) (ls' := [_, _, _, _, _]) rfl (Nat.le_of_ble_eq_true rfl) rfl ?_
        have lp20 : ∀ (g : Nat) (r : Nat) (v : Int), ((σ 1 15).toNat - r) < g → ((r : Int) ≤ σ 1 15) → (v = zB (sfit (Wm 7) (σ 286) (σ 287) j r)) → zV Γ m_NT_seenBits 1 0 0 Q (GM L) (0, 0) 20 [some (zR 1), some (zI (sebN (Wm 7) (σ 286) (σ 287) (σ 1 15).toNat j)), some (zI j), some (zI v), some (zI r)] [] σ := by
          intro g
          induction g with
          | zero => intro r v hg; exact absurd hg (Nat.not_lt_zero _)
          | succ g ih20 =>
            intro r v hg hr hf
            have vb := zB_r (sfit (Wm 7) (σ 286) (σ 287) j r)
            refine ziload (k := 13) rfl rfl ?_
            refine zaload_n (k := 14) rfl rfl ?_
            refine zgI 15 (k := 15) rfl ob_1 fl_11_94 rfl fx_1_15 ?_
            try simp only [e30, e31, e32, e33, e34, e35, e36, e37, e38, e39, e40, ew0, ew1, ew2, ew3, ew4, ew5, ew6, ew7, ew8, ew9, ew10, ew11, ew12]
            refine zicmp_ge (k := 16) rfl rfl (fun c2 => ?_) (fun c2 => ?_)
            · skip
              have hrr : sfit (Wm 7) (σ 286) (σ 287) j r = sfit (Wm 7) (σ 286) (σ 287) j (σ 1 15).toNat := by rw [show r = (σ 1 15).toNat by omega]
              rw [hf]
              refine ziload_n (k := 42) rfl rfl ?_
              refine zif_eq (k := 43) rfl rfl (fun c3 => ?_) (fun c3 => ?_)
              · skip
                refine ziincB (k := 50) (ls' := [_, _, _, _, _]) rfl rfl (by decide) (by omega) rfl ?_
                refine zgoto (k := 51) rfl rfl ?_
                refine zforget (ls' := [_, _, _, _, _]) 3 rfl ?_
                refine zforget (ls' := [_, _, _, _, _]) 4 rfl ?_
                first
                | (have en : sebN (Wm 7) (σ 286) (σ 287) (σ 1 15).toNat (j + 1) = sebN (Wm 7) (σ 286) (σ 287) (σ 1 15).toNat j := if_neg (by rw [← hrr]; exact zB_f (by assumption))
                   have r := ih4 (j + 1) (by omega) (by omega)
                   rw [en] at r
                   exact r)
                | (have en : sebN (Wm 7) (σ 286) (σ 287) (σ 1 15).toNat (j + 1) = sebN (Wm 7) (σ 286) (σ 287) (σ 1 15).toNat j + 2 ^ j := if_pos (by rw [← hrr]; exact zB_t cz)
                   have r := ih4 (j + 1) (by omega) (by omega)
                   rw [en] at r
                   exact r)
              · skip
                have cz : zB (sfit (Wm 7) (σ 286) (σ 287) j r) ≠ 0 := by assumption
                refine ziload_n (k := 44) rfl rfl ?_
                refine ziconst (k := 45) rfl (by decide) ?_
                refine ziload_n (k := 46) rfl rfl ?_
                refine zishl (k := 47) rfl ?_
                refine zior (k := 48) rfl ?_
                rw [zor_bit (by omega) (sebN_b (Wm 7) (σ 286) (σ 287) (σ 1 15).toNat j)]
                refine zistore_n (k := 49) (ls' := [_, _, _, _, _]) rfl (Nat.le_of_ble_eq_true rfl) rfl ?_
                refine ziincB (k := 50) (ls' := [_, _, _, _, _]) rfl rfl (by decide) (by omega) rfl ?_
                refine zgoto (k := 51) rfl rfl ?_
                refine zforget (ls' := [_, _, _, _, _]) 3 rfl ?_
                refine zforget (ls' := [_, _, _, _, _]) 4 rfl ?_
                first
                | (have en : sebN (Wm 7) (σ 286) (σ 287) (σ 1 15).toNat (j + 1) = sebN (Wm 7) (σ 286) (σ 287) (σ 1 15).toNat j := if_neg (by rw [← hrr]; exact zB_f (by assumption))
                   have r := ih4 (j + 1) (by omega) (by omega)
                   rw [en] at r
                   exact r)
                | (have en : sebN (Wm 7) (σ 286) (σ 287) (σ 1 15).toNat (j + 1) = sebN (Wm 7) (σ 286) (σ 287) (σ 1 15).toNat j + 2 ^ j := if_pos (by rw [← hrr]; exact zB_t cz)
                   have r := ih4 (j + 1) (by omega) (by omega)
                   rw [en] at r
                   exact r)
            · skip
              refine ziload_n (k := 17) rfl rfl ?_
              refine zif_eq (k := 18) rfl rfl (fun c4 => ?_) (fun c4 => ?_)
              · skip
                refine ziconst (k := 38) rfl (by decide) ?_
                refine zistore_n (k := 39) (ls' := [_, _, _, _, _]) rfl (Nat.le_of_ble_eq_true rfl) rfl ?_
                refine ziincB (k := 40) (ls' := [_, _, _, _, _]) rfl rfl (by decide) (by omega) rfl ?_
                refine zgoto (k := 41) rfl rfl ?_
                refine ih20 (r + 1) _ (by omega) (by omega) ?_
                rw [sfit_s]
                first
                | (rw [show sfit (Wm 7) (σ 286) (σ 287) j r = false by cases hh : sfit (Wm 7) (σ 286) (σ 287) j r; rfl; rw [hh] at hf; exact absurd (show zB true = 0 from hf.symm.trans (by assumption)) (by decide)]; rfl)
                | (rw [zB_t (b := sfit (Wm 7) (σ 286) (σ 287) j r) (by rw [← hf]; assumption), decide_eq_false (by assumption)]; rfl)
                | (rw [zB_t (b := sfit (Wm 7) (σ 286) (σ 287) j r) (by rw [← hf]; assumption), decide_eq_true (by assumption)]; rfl)
              · skip
                refine zaload_n (k := 19) rfl rfl ?_
                refine zgR 8 (k := 20) rfl ob_1 fl_11_19 rfl fx_1_8 ?_
                first | rw [h8] | rw [h0.2 1 8 (by omega) (by omega) (by omega), h8]
                refine zgF 11 (k := 21) rfl (wr_ob hw) fl_11_206 rfl (wr_fx_11 hw) ?_
                refine ziload_n (k := 22) rfl rfl ?_
                refine zfS1 (k := 23) rfl (c_NT_at (wr_ar_7 hw)) fm_NT_at lk_11_174 rfl rfl (Nat.le_of_ble_eq_true rfl) (by decide) ⟨by decide, by decide⟩ ?_
                rw [zat_in (by omega)]
                try simp only [e30, e31, e32, e33, e34, e35, e36, e37, e38, e39, e40, ew0, ew1, ew2, ew3, ew4, ew5, ew6, ew7, ew8, ew9, ew10, ew11, ew12]
                refine zaload_n (k := 24) rfl rfl ?_
                refine zgF 13 (k := 25) rfl ob_1 fl_11_87 rfl fx_1_13 ?_
                refine ziload (k := 26) rfl rfl ?_
                refine zfS1 (k := 27) rfl (c_NT_at ar_286) fm_NT_at lk_11_174 rfl rfl (Nat.le_of_ble_eq_true rfl) (by decide) ⟨by decide, by decide⟩ ?_
                rw [zat_in (by omega)]
                try simp only [e30, e31, e32, e33, e34, e35, e36, e37, e38, e39, e40, ew0, ew1, ew2, ew3, ew4, ew5, ew6, ew7, ew8, ew9, ew10, ew11, ew12]
                refine zishr (k := 28) rfl ?_
                refine ziconst (k := 29) rfl (by decide) ?_
                refine ziandM (k := 30) 1 rfl (by decide) rfl 2 rfl ?_
                refine zaload_n (k := 31) rfl rfl ?_
                refine zgF 14 (k := 32) rfl ob_1 fl_11_91 rfl fx_1_14 ?_
                refine ziload (k := 33) rfl rfl ?_
                refine zfS1 (k := 34) rfl (c_NT_at ar_287) fm_NT_at lk_11_174 rfl rfl (Nat.le_of_ble_eq_true rfl) (by decide) ⟨by decide, by decide⟩ ?_
                rw [zat_in (by omega)]
                try simp only [e30, e31, e32, e33, e34, e35, e36, e37, e38, e39, e40, ew0, ew1, ew2, ew3, ew4, ew5, ew6, ew7, ew8, ew9, ew10, ew11, ew12]
                refine zicmp_ne (k := 35) rfl rfl (fun c5 => ?_) (fun c5 => ?_)
                · skip
                  refine ziconst (k := 38) rfl (by decide) ?_
                  refine zistore_n (k := 39) (ls' := [_, _, _, _, _]) rfl (Nat.le_of_ble_eq_true rfl) rfl ?_
                  refine ziincB (k := 40) (ls' := [_, _, _, _, _]) rfl rfl (by decide) (by omega) rfl ?_
                  refine zgoto (k := 41) rfl rfl ?_
                  refine ih20 (r + 1) _ (by omega) (by omega) ?_
                  rw [sfit_s]
                  first
                  | (rw [show sfit (Wm 7) (σ 286) (σ 287) j r = false by cases hh : sfit (Wm 7) (σ 286) (σ 287) j r; rfl; rw [hh] at hf; exact absurd (show zB true = 0 from hf.symm.trans (by assumption)) (by decide)]; rfl)
                  | (rw [zB_t (b := sfit (Wm 7) (σ 286) (σ 287) j r) (by rw [← hf]; assumption), decide_eq_false (by assumption)]; rfl)
                  | (rw [zB_t (b := sfit (Wm 7) (σ 286) (σ 287) j r) (by rw [← hf]; assumption), decide_eq_true (by assumption)]; rfl)
                · skip
                  refine ziconst (k := 36) rfl (by decide) ?_
                  refine zgoto (k := 37) rfl rfl ?_
                  refine zistore_n (k := 39) (ls' := [_, _, _, _, _]) rfl (Nat.le_of_ble_eq_true rfl) rfl ?_
                  refine ziincB (k := 40) (ls' := [_, _, _, _, _]) rfl rfl (by decide) (by omega) rfl ?_
                  refine zgoto (k := 41) rfl rfl ?_
                  refine ih20 (r + 1) _ (by omega) (by omega) ?_
                  rw [sfit_s]
                  first
                  | (rw [show sfit (Wm 7) (σ 286) (σ 287) j r = false by cases hh : sfit (Wm 7) (σ 286) (σ 287) j r; rfl; rw [hh] at hf; exact absurd (show zB true = 0 from hf.symm.trans (by assumption)) (by decide)]; rfl)
                  | (rw [zB_t (b := sfit (Wm 7) (σ 286) (σ 287) j r) (by rw [← hf]; assumption), decide_eq_false (by assumption)]; rfl)
                  | (rw [zB_t (b := sfit (Wm 7) (σ 286) (σ 287) j r) (by rw [← hf]; assumption), decide_eq_true (by assumption)]; rfl)
        exact lp20 _ 0 _ (Nat.lt_succ_self _) (by omega) rfl
  exact lp4 _ 0 (Nat.lt_succ_self _) (by omega)
