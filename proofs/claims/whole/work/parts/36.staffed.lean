theorem zshl_c : ∀ j : Fin 8, zshl 1 ((j.val : Nat) : Int) = ((2 ^ j.val : Nat) : Int) := by decide +kernel
theorem zshl_p {c : Int} (h : 0 ≤ c ∧ c ≤ 7) : zshl 1 c = ((2 ^ c.toNat : Nat) : Int) := by
  have q := zshl_c ⟨c.toNat, by omega⟩
  dsimp only at q
  rw [show ((c.toNat : Nat) : Int) = c by omega] at q
  exact q
theorem pow_b {c : Int} (h : 0 ≤ c ∧ c ≤ 7) : 1 ≤ 2 ^ c.toNat ∧ 2 ^ c.toNat ≤ 128 := ⟨Nat.one_le_two_pow, Nat.pow_le_pow_right (n := 2) (j := 7) (by decide) (by omega)⟩
noncomputable def stfF (Wm : zv_H) (n full : Int) : Nat → Int
  | 0 => full
  | j + 1 => @ite Int (bcn j < bcn (stfF Wm n full j) ∧ nerP Wm j n) (Classical.propDecidable _) (j : Int) (stfF Wm n full j)
theorem stfF_1 {Wm : zv_H} {n u : Int} {j : Nat} (h : bcn j < bcn (stfF Wm n u j) ∧ nerP Wm j n) : stfF Wm n u (j + 1) = (j : Int) := if_pos h
theorem stfF_0 {Wm : zv_H} {n u : Int} {j : Nat} (h : ¬ (bcn j < bcn (stfF Wm n u j) ∧ nerP Wm j n)) : stfF Wm n u (j + 1) = stfF Wm n u j := if_neg h
theorem stfF_b (Wm : zv_H) (n u : Int) (hu : 0 ≤ u ∧ u ≤ 127) : ∀ j : Nat, (j : Int) ≤ u → 0 ≤ stfF Wm n u j ∧ stfF Wm n u j ≤ 127
  | 0, _ => hu
  | j + 1, h => by
    by_cases q : bcn j < bcn (stfF Wm n u j) ∧ nerP Wm j n
    · rw [stfF_1 q]; omega
    · rw [stfF_0 q]; exact stfF_b Wm n u hu j (by omega)
noncomputable def stfQ (Wm : zv_H) (n : Int) : Int := if 0 ≤ n ∧ n ≤ 99 then stfF Wm n (((2 ^ (Wm 0 1).toNat : Nat) : Int) - 1) (2 ^ (Wm 0 1).toNat - 1) else -1
set_option maxHeartbeats 4000000 in
set_option maxRecDepth 20000 in
theorem c_NT_staffed {Γ : zv_M} {L : Int} {w : Int} {σ S Wm : zv_H} (h8 : σ 1 8 = w) (hw : w ∈ wrL) (hW : vw 12 σ w = Wm) (hS : vw 10 σ 30 = S) (hSI : SI (Wm 0 1) (Wm 0 3) S) (hWI : WI Wm) {n : Int} : zC Γ m_NT_staffed 3 0 0 (GM L) [zR 1, zI n] σ (zPI (GM L) (fun z σ' => z = stfQ Wm n ∧ σ' = σ)) := by
  refine zC_of (ls0 := [_, _, _, _, _]) zm_NT_staffed (by decide) rfl (Nat.le_of_ble_eq_true rfl) ?_
  generalize hQ : (zPI (GM L) (fun z σ' => z = stfQ Wm n ∧ σ' = σ)) = Q
  have ha : (30 : Int) ∈ stL := by decide
  have e30 : σ 30 = S 0 := st_e0 hS
  have e31 : σ 31 = S 1 := st_e (f := 1) hS (by omega)
  have e32 : σ 32 = S 2 := st_e (f := 2) hS (by omega)
  have e33 : σ 33 = S 3 := st_e (f := 3) hS (by omega)
  have e34 : σ 34 = S 4 := st_e (f := 4) hS (by omega)
  have e35 : σ 35 = S 5 := st_e (f := 5) hS (by omega)
  have e36 : σ 36 = S 6 := st_e (f := 6) hS (by omega)
  have e37 : σ 37 = S 7 := st_e (f := 7) hS (by omega)
  have e38 : σ 38 = S 8 := st_e (f := 8) hS (by omega)
  have e39 : σ 39 = S 9 := st_e (f := 9) hS (by omega)
  have e40 : σ 40 = S 10 := st_e (f := 10) hS (by omega)
  have ew0 : σ w = Wm 0 := st_e0 hW
  have ew1 : σ (w + 1) = Wm 1 := st_e (f := 1) hW (by omega)
  have ew2 : σ (w + 2) = Wm 2 := st_e (f := 2) hW (by omega)
  have ew3 : σ (w + 3) = Wm 3 := st_e (f := 3) hW (by omega)
  have ew4 : σ (w + 4) = Wm 4 := st_e (f := 4) hW (by omega)
  have ew5 : σ (w + 5) = Wm 5 := st_e (f := 5) hW (by omega)
  have ew6 : σ (w + 6) = Wm 6 := st_e (f := 6) hW (by omega)
  have ew7 : σ (w + 7) = Wm 7 := st_e (f := 7) hW (by omega)
  have ew8 : σ (w + 8) = Wm 8 := st_e (f := 8) hW (by omega)
  have ew9 : σ (w + 9) = Wm 9 := st_e (f := 9) hW (by omega)
  have ew10 : σ (w + 10) = Wm 10 := st_e (f := 10) hW (by omega)
  have ew11 : σ (w + 11) = Wm 11 := st_e (f := 11) hW (by omega)
  have ew12 : σ (w + 12) = Wm 12 := st_e (f := 12) hW (by omega)
  have hSI0 := hSI
  have hWI0 := hWI
  obtain ⟨b0, b11, b12, bc, bm, bl, br⟩ := hSI
  obtain ⟨w1, w2, w3, w4, w5, w6, w7, w8, w9, w10⟩ := hWI
  have pb := pow_b w1
  refine ziload_n (k := 0) rfl rfl ?_
  refine zif_lt (k := 1) rfl rfl (fun c1 => ?_) (fun c1 => ?_)
  · skip
    refine ziconst (k := 5) rfl (by decide) ?_
    refine zireturn (k := 6) rfl rfl rfl ?_
    rw [← hQ]
    exact ⟨rfl, _, rfl, by unfold stfQ; rw [if_neg (by omega)], rfl⟩
  · skip
    refine ziload_n (k := 2) rfl rfl ?_
    refine zbipush (k := 3) rfl rfl ?_
    refine zicmp_le (k := 4) rfl rfl (fun c2 => ?_) (fun c2 => ?_)
    · skip
      refine ziconst (k := 7) rfl (by decide) ?_
      refine zaload_n (k := 8) rfl rfl ?_
      refine zgR 8 (k := 9) rfl ob_1 fl_11_19 rfl fx_1_8 ?_
      first | rw [h8] | rw [h0.2 1 8 (by omega) (by omega) (by omega), h8]
      refine zgI 1 (k := 10) rfl (wr_ob hw) fl_11_130 rfl (wr_fx_1 hw) ?_
      try simp only [e30, e31, e32, e33, e34, e35, e36, e37, e38, e39, e40, ew0, ew1, ew2, ew3, ew4, ew5, ew6, ew7, ew8, ew9, ew10, ew11, ew12]
      refine zishl (k := 11) rfl ?_
      rw [zshl_p w1]
      refine ziconst (k := 12) rfl (by decide) ?_
      refine zisubB (k := 13) rfl (by omega) ?_
      refine zistore_n (k := 14) (ls' := [_, _, _, _, _]) rfl (Nat.le_of_ble_eq_true rfl) rfl ?_
      obtain ⟨u, hu⟩ : ∃ u : Nat, 2 ^ (Wm 0 1).toNat = u + 1 := ⟨2 ^ (Wm 0 1).toNat - 1, by omega⟩
      rw [show ((2 ^ (Wm 0 1).toNat : Nat) : Int) - 1 = (u : Int) by omega]
      refine ziload_n (k := 15) rfl rfl ?_
      refine zistore_n (k := 16) (ls' := [_, _, _, _, _]) rfl (Nat.le_of_ble_eq_true rfl) rfl ?_
      refine ziconst (k := 17) rfl (by decide) ?_
      refine zistore (k := 18) (ls' := [_, _, _, _, _]) rfl (Nat.le_of_ble_eq_true rfl) rfl ?_
      have lp29 : ∀ (g : Nat) (j : Nat) (σ2 : zv_H), (u - j) < g → (j ≤ u) → (σ2 = σ) → zV Γ m_NT_staffed 3 0 0 Q (GM L) (0, 0) 29 [some (zR 1), some (zI n), some (zI u), some (zI (stfF Wm n u j)), some (zI j)] [] σ2 := by
        intro g
        induction g with
        | zero => intro j σ2 hg; exact absurd hg (Nat.not_lt_zero _)
        | succ g ih29 =>
          intro j σ2 hg hj hs
          rw [hs]
          have mb := stfF_b Wm n u (by omega) j (by omega)
          refine ziload (k := 19) rfl rfl ?_
          refine ziload_n (k := 20) rfl rfl ?_
          refine zicmp_ge (k := 21) rfl rfl (fun c3 => ?_) (fun c3 => ?_)
          · skip
            refine ziload_n (k := 37) rfl rfl ?_
            refine zireturn (k := 38) rfl rfl rfl ?_
            rw [← hQ]
            exact ⟨rfl, _, rfl, by unfold stfQ; rw [if_pos (by omega), hu, show ((u + 1 : Nat) : Int) - 1 = (u : Int) by omega, show u + 1 - 1 = j by omega], rfl⟩
          · skip
            refine ziload (k := 22) rfl rfl ?_
            refine zfS1 (k := 23) rfl (c_J_bitCount (by omega)) fm_J_bitCount lk_11_248 rfl rfl (Nat.le_of_ble_eq_true rfl) (by decide) ⟨by decide, by decide⟩ ?_
            refine ziload_n (k := 24) rfl rfl ?_
            refine zfS1 (k := 25) rfl (c_J_bitCount (by omega)) fm_J_bitCount lk_11_248 rfl rfl (Nat.le_of_ble_eq_true rfl) (by decide) ⟨by decide, by decide⟩ ?_
            refine zicmp_ge (k := 26) rfl rfl (fun c4 => ?_) (fun c4 => ?_)
            · skip
              refine ziincB (k := 35) (ls' := [_, _, _, _, _]) rfl rfl (by decide) (by omega) rfl ?_
              refine zgoto (k := 36) rfl rfl ?_
              first
              | (have r := ih29 (j + 1) _ (by omega) (by omega) rfl
                 rw [stfF_0 (fun q => by omega)] at r
                 exact r)
              | (have r := ih29 (j + 1) _ (by omega) (by omega) rfl
                 rw [stfF_0 (fun q => by rcases h2.2 with g | g; omega; exact g.2 q.2)] at r
                 exact r)
              | (have r := ih29 (j + 1) _ (by omega) (by omega) rfl
                 rw [stfF_1 ⟨by omega, by rcases h2.2 with g | g; exact g.2; omega⟩] at r
                 exact r)
            · skip
              refine zaload_n (k := 27) rfl rfl ?_
              refine zgR 8 (k := 28) rfl ob_1 fl_11_19 rfl fx_1_8 ?_
              first | rw [h8] | rw [h0.2 1 8 (by omega) (by omega) (by omega), h8]
              refine ziload (k := 29) rfl rfl ?_
              refine ziload_n (k := 30) rfl rfl ?_
              refine zpVI (k := 31) rfl (c_War_isNear hw hW w1) fm_War_isNear lk_11_256 rfl rfl (wr_ob hw) ⟨_, rfl, rfl⟩ (Nat.le_of_ble_eq_true rfl) (by decide) ⟨by decide, by decide⟩ (fun z σ3 h2 => ?_)
              rw [h2.1]
              refine zif_eq (k := 32) rfl rfl (fun c5 => ?_) (fun c5 => ?_)
              · skip
                refine ziincB (k := 35) (ls' := [_, _, _, _, _]) rfl rfl (by decide) (by omega) rfl ?_
                refine zgoto (k := 36) rfl rfl ?_
                first
                | (have r := ih29 (j + 1) _ (by omega) (by omega) rfl
                   rw [stfF_0 (fun q => by omega)] at r
                   exact r)
                | (have r := ih29 (j + 1) _ (by omega) (by omega) rfl
                   rw [stfF_0 (fun q => by rcases h2.2 with g | g; omega; exact g.2 q.2)] at r
                   exact r)
                | (have r := ih29 (j + 1) _ (by omega) (by omega) rfl
                   rw [stfF_1 ⟨by omega, by rcases h2.2 with g | g; exact g.2; omega⟩] at r
                   exact r)
              · skip
                refine ziload (k := 33) rfl rfl ?_
                refine zistore_n (k := 34) (ls' := [_, _, _, _, _]) rfl (Nat.le_of_ble_eq_true rfl) rfl ?_
                refine ziincB (k := 35) (ls' := [_, _, _, _, _]) rfl rfl (by decide) (by omega) rfl ?_
                refine zgoto (k := 36) rfl rfl ?_
                first
                | (have r := ih29 (j + 1) _ (by omega) (by omega) rfl
                   rw [stfF_0 (fun q => by omega)] at r
                   exact r)
                | (have r := ih29 (j + 1) _ (by omega) (by omega) rfl
                   rw [stfF_0 (fun q => by rcases h2.2 with g | g; omega; exact g.2 q.2)] at r
                   exact r)
                | (have r := ih29 (j + 1) _ (by omega) (by omega) rfl
                   rw [stfF_1 ⟨by omega, by rcases h2.2 with g | g; exact g.2; omega⟩] at r
                   exact r)
      exact lp29 _ 0 _ (Nat.lt_succ_self _) (by omega) rfl
    · skip
      refine ziconst (k := 5) rfl (by decide) ?_
      refine zireturn (k := 6) rfl rfl rfl ?_
      rw [← hQ]
      exact ⟨rfl, _, rfl, by unfold stfQ; rw [if_neg (by omega)], rfl⟩
