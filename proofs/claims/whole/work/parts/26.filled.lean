def sumN (f : Int → Int) : Nat → Int
  | 0 => 0
  | j + 1 => sumN f j + f j
theorem sumN_b {f : Int → Int} {B : Int} : ∀ n : Nat, (∀ k, 0 ≤ k → k < (n : Int) → 0 ≤ f k ∧ f k ≤ B) → 0 ≤ sumN f n ∧ sumN f n ≤ n * B
  | 0, _ => ⟨Int.le_refl _, by show (0 : Int) ≤ _; rw [show ((0 : Nat) : Int) = 0 from rfl]; omega⟩
  | j + 1, h => by
    have ih := sumN_b j (fun k h1 h2 => h k h1 (by omega))
    have q := h j (by omega) (by omega)
    have e : ((j + 1 : Nat) : Int) * B = j * B + B := by rw [Int.natCast_add, Int.add_mul]; simp
    rw [e, show sumN f (j + 1) = sumN f j + f j from rfl]
    omega
theorem ztot_sum {σ : zv_H} {a : Int} : ∀ n : Nat, n ≤ 60 → (∀ k, 0 ≤ k → k < (n : Int) → 0 ≤ σ a k ∧ σ a k ≤ 10000) → ztot σ a n = sumN (σ a) n
  | 0, _, _ => rfl
  | j + 1, hn, h => by
    have ih := ztot_sum j (by omega) (fun k h1 h2 => h k h1 (by omega))
    have q := h j (by omega) (by omega)
    have b := sumN_b (f := σ a) (B := 10000) j (fun k h1 h2 => h k h1 (by omega))
    rw [show ztot σ a (j + 1) = w32 (ztot σ a j + σ a j) from rfl, ih, w32_id (by omega) (by omega)]
    rfl
theorem zmn_le {m n : Int} (h : 0 ≤ m ∧ m ≤ n) : zmn m n = m.toNat := by
  unfold zmn
  split
  · rfl
  · rw [show n = m by omega]
theorem k_total {Γ : zv_M} {L : Int} {σ : zv_H} {a n m : Int} (ha : zv_ar (GM L) a .int n) (h0 : 0 ≤ m ∧ m ≤ n) (hn : n ≤ 60) (hb : ∀ k, 0 ≤ k → k < m → 0 ≤ σ a k ∧ σ a k ≤ 10000) : zC Γ m_NT_total 0 0 0 (GM L) [zR a, zI m] σ (zFn (some (zI (sumN (σ a) m.toNat))) (GM L) σ) := by
  have h := c_NT_total (Γ := Γ) (m := m) (σ := σ) ha (by omega) (by omega)
  rw [zmn_le h0, ztot_sum _ (by omega) (fun k h1 h2 => hb k h1 (by omega))] at h
  exact h
def filQ (Wm S : zv_H) : Int := fnd (fun j => decide (sumN ((gooF Wm S j).1 1) (Wm 0 1).toNat = 0)) (aheadN S + 1) 0
/-- least LURE, told by what it is -/
def lurQ (Wm S : zv_H) (m c z : Int) : Prop := if ¬ ((0 ≤ m ∧ m < Wm 0 3) ∧ (0 ≤ c ∧ c < Wm 0 1)) then z = -1 else if S 5 m ≠ 0 ∨ S 4 m = c then z = -1 else if dstF Wm (S 4 m) c = -1 then z = -1 else lurP Wm S m c z
set_option maxHeartbeats 4000000 in
set_option maxRecDepth 20000 in
theorem c_NT_filled {Γ : zv_M} {L : Int} {w : Int} {σ S Wm : zv_H} (h8 : σ 1 8 = w) (hw : w ∈ wrL) (hW : vw 12 σ w = Wm) (hS : vw 10 σ 30 = S) (hSI : SI (Wm 0 1) (Wm 0 3) S) (hWI : WI Wm) (hZ : SZ S) (hAZ : SZ (vw 10 σ 41))  : zC Γ m_NT_filled 8 0 0 (GM L) [zR 1] σ (zPI (GM L) (fun z σ' => z = filQ Wm S ∧ scr σ σ' ∧ SZ (vw 10 σ' 41))) := by
  refine zC_of (ls0 := [_, _, _]) zm_NT_filled (by decide) rfl (Nat.le_of_ble_eq_true rfl) ?_
  generalize hQ : (zPI (GM L) (fun z σ' => z = filQ Wm S ∧ scr σ σ' ∧ SZ (vw 10 σ' 41))) = Q
  have ha : (30 : Int) ∈ stL := by decide
  have e30 : σ 30 = S 0 := st_e0 hS
  have e31 : σ 31 = S 1 := st_e (f := 1) hS (by omega)
  have e32 : σ 32 = S 2 := st_e (f := 2) hS (by omega)
  have e33 : σ 33 = S 3 := st_e (f := 3) hS (by omega)
  have e34 : σ 34 = S 4 := st_e (f := 4) hS (by omega)
  have e35 : σ 35 = S 5 := st_e (f := 5) hS (by omega)
  have e36 : σ 36 = S 6 := st_e (f := 6) hS (by omega)
  have e37 : σ 37 = S 7 := st_e (f := 7) hS (by omega)
  have e38 : σ 38 = S 8 := st_e (f := 8) hS (by omega)
  have e39 : σ 39 = S 9 := st_e (f := 9) hS (by omega)
  have e40 : σ 40 = S 10 := st_e (f := 10) hS (by omega)
  have ew0 : σ w = Wm 0 := st_e0 hW
  have ew1 : σ (w + 1) = Wm 1 := st_e (f := 1) hW (by omega)
  have ew2 : σ (w + 2) = Wm 2 := st_e (f := 2) hW (by omega)
  have ew3 : σ (w + 3) = Wm 3 := st_e (f := 3) hW (by omega)
  have ew4 : σ (w + 4) = Wm 4 := st_e (f := 4) hW (by omega)
  have ew5 : σ (w + 5) = Wm 5 := st_e (f := 5) hW (by omega)
  have ew6 : σ (w + 6) = Wm 6 := st_e (f := 6) hW (by omega)
  have ew7 : σ (w + 7) = Wm 7 := st_e (f := 7) hW (by omega)
  have ew8 : σ (w + 8) = Wm 8 := st_e (f := 8) hW (by omega)
  have ew9 : σ (w + 9) = Wm 9 := st_e (f := 9) hW (by omega)
  have ew10 : σ (w + 10) = Wm 10 := st_e (f := 10) hW (by omega)
  have ew11 : σ (w + 11) = Wm 11 := st_e (f := 11) hW (by omega)
  have ew12 : σ (w + 12) = Wm 12 := st_e (f := 12) hW (by omega)
  have hSI0 := hSI
  have hWI0 := hWI
  obtain ⟨b0, b11, b12, bc, bm, bl, br⟩ := hSI
  obtain ⟨w1, w2, w3, w4, w5, w6, w7, w8, w9, w10⟩ := hWI
  have ha1 : (41 : Int) ∈ stL := by decide
  refine zaload_n (k := 0) rfl rfl ?_
  refine zgF 7 (k := 1) rfl ob_1 fl_11_33 rfl fx_1_7 ?_
  refine zaload_n (k := 2) rfl rfl ?_
  refine zgF 6 (k := 3) rfl ob_1 fl_11_29 rfl fx_1_6 ?_
  refine zpV0 (k := 4) rfl (k_copy (by decide) ha (by decide) hAZ hS hZ) fm_State_copy lk_11_216 rfl rfl ob_41 ⟨_, rfl, rfl⟩ (Nat.le_of_ble_eq_true rfl) (by decide) ⟨by decide, by decide⟩ (fun σ1 h0 => ?_)
  refine zaload_n (k := 5) rfl rfl ?_
  refine zfV1 (k := 6) rfl (c_NT_weeksAhead ((h0.2 1 8 (by omega) (by omega) (by omega)).trans h8) hw ((stp_w h0 ha1 hw).trans hW) ((st_30 h0).trans hS) hSI0 hWI0) fm_NT_weeksAhead lk_11_212 rfl rfl ob_1 ⟨_, rfl, rfl⟩ (Nat.le_of_ble_eq_true rfl) (by decide) ⟨by decide, by decide⟩ ?_
  refine zistore_n (k := 7) (ls' := [_, _, _]) rfl (Nat.le_of_ble_eq_true rfl) rfl ?_
  have hT : (min 80 (999 - S 0 0)) = ((aheadN S : Nat) : Int) := by unfold aheadN; omega
  rw [hT]
  generalize hp : (fun j => decide (sumN ((gooF Wm S j).1 1) (Wm 0 1).toNat = 0)) = p
  refine ziconst (k := 8) rfl (by decide) ?_
  refine zistore_n (k := 9) (ls' := [_, _, _]) rfl (Nat.le_of_ble_eq_true rfl) rfl ?_
  have lp18 : ∀ (g : Nat) (j : Nat) (σ2 : zv_H), (aheadN S + 1 - j) < g → (j ≤ aheadN S + 1) → (fnd p (aheadN S + 1) 0 = fnd p (aheadN S + 1 - j) j) → (stp σ σ2 41 (gooF Wm S (min j (aheadN S))).1) → zV Γ m_NT_filled 8 0 0 Q (GM L) (0, 0) 18 [some (zR 1), some (zI ((aheadN S : Nat) : Int)), some (zI j)] [] σ2 := by
    intro g
    induction g with
    | zero => intro j σ2 hg; exact absurd hg (Nat.not_lt_zero _)
    | succ g ih18 =>
      intro j σ2 hg hj hf h0
      refine ziload_n (k := 10) rfl rfl ?_
      refine ziload_n (k := 11) rfl rfl ?_
      refine zicmp_gt (k := 12) rfl rfl (fun c1 => ?_) (fun c1 => ?_)
      · skip
        refine ziconst (k := 37) rfl (by decide) ?_
        refine zireturn (k := 38) rfl rfl rfl ?_
        rw [← hQ]
        refine ⟨rfl, _, rfl, ?_, scr_st h0, by rw [h0.1]; exact SZ_goo hWI0 hSI0 hZ _⟩
        unfold filQ
        rw [hp, hf, show aheadN S + 1 - j = 0 by omega]
        rfl
      · skip
        refine zaload_n (k := 13) rfl rfl ?_
        refine zgF 7 (k := 14) rfl ob_1 fl_11_33 rfl fx_1_7 ?_
        refine zgF 1 (k := 15) rfl ob_41 fl_11_142 rfl fx_41_1 ?_
        refine zaload_n (k := 16) rfl rfl ?_
        refine zgR 8 (k := 17) rfl ob_1 fl_11_19 rfl fx_1_8 ?_
        first | rw [h8] | rw [h0.2 1 8 (by omega) (by omega) (by omega), h8]
        refine zgI 1 (k := 18) rfl (wr_ob hw) fl_11_130 rfl (wr_fx_1 hw) ?_
        try simp only [e30, e31, e32, e33, e34, e35, e36, e37, e38, e39, e40, ew0, ew1, ew2, ew3, ew4, ew5, ew6, ew7, ew8, ew9, ew10, ew11, ew12]
        rw [Nat.min_eq_left (by omega)] at h0
        have eq0 : σ2 42 = (gooF Wm S j).1 1 := st_e (f := 1) h0.1 (by omega)
        have si := SI_goo hWI0 hSI0 j
        have ewc : σ2 w 1 = Wm 0 1 := by rw [h0.2 w 1 (by have := wr_far hw; omega) (by have := wr_far hw; omega) (by have := wr_far hw; omega), ew0]
        rw [ewc]
        refine zfS1 (k := 19) rfl (k_total ar_42 (by omega) (by omega) (fun k h1 h2 => by rw [eq0]; have := si.2.2.2.1 k h1 h2; omega)) fm_NT_total lk_11_145 rfl rfl (Nat.le_of_ble_eq_true rfl) (by decide) ⟨by decide, by decide⟩ ?_
        rw [eq0]
        refine zif_ne (k := 20) rfl rfl (fun c2 => ?_) (fun c2 => ?_)
        · skip
          refine ziload_n (k := 23) rfl rfl ?_
          refine ziload_n (k := 24) rfl rfl ?_
          refine zicmp_ge (k := 25) rfl rfl (fun c3 => ?_) (fun c3 => ?_)
          · skip
            refine ziincB (k := 35) (ls' := [_, _, _]) rfl rfl (by decide) (by omega) rfl ?_
            refine zgoto (k := 36) rfl rfl ?_
            have en : fnd p (aheadN S + 1) 0 = fnd p (aheadN S + 1 - (j + 1)) (j + 1) := by
              rw [hf, show aheadN S + 1 - j = aheadN S + 1 - (j + 1) + 1 by omega, fnd_s, if_neg (by rw [← hp]; simp only [decide_eq_true_eq]; assumption)]
            first
            | exact ih18 (j + 1) _ (by omega) (by omega) en (by rw [Nat.min_eq_left (by omega), ← goo_1]; exact h0)
            | exact ih18 (j + 1) _ (by omega) (by omega) en (by rw [show min (j + 1) (aheadN S) = j by omega]; exact h0)
          · skip
            refine zaload_n (k := 26) rfl rfl ?_
            refine zgF 2 (k := 27) rfl ob_1 fl_11_48 rfl fx_1_2 ?_
            refine zaload_n (k := 28) rfl rfl ?_
            refine zgR 8 (k := 29) rfl ob_1 fl_11_19 rfl fx_1_8 ?_
            first | rw [h8] | rw [h0.2 1 8 (by omega) (by omega) (by omega), h8]
            refine zaload_n (k := 30) rfl rfl ?_
            refine zgF 7 (k := 31) rfl ob_1 fl_11_33 rfl fx_1_7 ?_
            refine ziconst (k := 32) rfl (by decide) ?_
            refine zpVI (k := 33) rfl (c_March_go ha1 hw h0 hW (SI_goo hWI0 hSI0 j) hWI0 1 (by omega)) fm_March_go lk_11_220 rfl rfl ob_55 ⟨_, rfl, rfl⟩ (Nat.le_of_ble_eq_true rfl) (by decide) ⟨by decide, by decide⟩ (fun z σ3 h2 => ?_)
            clear h0
            have h0 := h2.2
            refine zpop (k := 34) rfl rfl ?_
            refine ziincB (k := 35) (ls' := [_, _, _]) rfl rfl (by decide) (by omega) rfl ?_
            refine zgoto (k := 36) rfl rfl ?_
            have en : fnd p (aheadN S + 1) 0 = fnd p (aheadN S + 1 - (j + 1)) (j + 1) := by
              rw [hf, show aheadN S + 1 - j = aheadN S + 1 - (j + 1) + 1 by omega, fnd_s, if_neg (by rw [← hp]; simp only [decide_eq_true_eq]; assumption)]
            first
            | exact ih18 (j + 1) _ (by omega) (by omega) en (by rw [Nat.min_eq_left (by omega), ← goo_1]; exact h0)
            | exact ih18 (j + 1) _ (by omega) (by omega) en (by rw [show min (j + 1) (aheadN S) = j by omega]; exact h0)
        · skip
          refine ziload_n (k := 21) rfl rfl ?_
          refine zireturn (k := 22) rfl rfl rfl ?_
          rw [← hQ]
          refine ⟨rfl, _, rfl, ?_, scr_st h0, by rw [h0.1]; exact SZ_goo hWI0 hSI0 hZ _⟩
          unfold filQ
          rw [hp, hf, show aheadN S + 1 - j = aheadN S + 1 - (j + 1) + 1 by omega, fnd_s, if_pos (by rw [← hp]; simp only [decide_eq_true_eq]; assumption)]
  exact lp18 _ 0 _ (Nat.lt_succ_self _) (by omega) rfl (by rw [Nat.zero_min]; exact h0)
set_option maxHeartbeats 4000000 in
set_option maxRecDepth 20000 in
theorem c_NT_lured {Γ : zv_M} {L : Int} {w : Int} {σ S Wm : zv_H} (h8 : σ 1 8 = w) (hw : w ∈ wrL) (hW : vw 12 σ w = Wm) (hS : vw 10 σ 30 = S) (hSI : SI (Wm 0 1) (Wm 0 3) S) (hWI : WI Wm) (hZ : SZ S) (hAZ : SZ (vw 10 σ 41)) {m c : Int} : zC Γ m_NT_lured 8 0 0 (GM L) [zR 1, zI m, zI c] σ (zPI (GM L) (fun z σ' => lurQ Wm S m c z ∧ scr σ σ' ∧ SZ (vw 10 σ' 41))) := by
  refine zC_of (ls0 := [_, _, _]) zm_NT_lured (by decide) rfl (Nat.le_of_ble_eq_true rfl) ?_
  generalize hQ : (zPI (GM L) (fun z σ' => lurQ Wm S m c z ∧ scr σ σ' ∧ SZ (vw 10 σ' 41))) = Q
  have ha : (30 : Int) ∈ stL := by decide
  have e30 : σ 30 = S 0 := st_e0 hS
  have e31 : σ 31 = S 1 := st_e (f := 1) hS (by omega)
  have e32 : σ 32 = S 2 := st_e (f := 2) hS (by omega)
  have e33 : σ 33 = S 3 := st_e (f := 3) hS (by omega)
  have e34 : σ 34 = S 4 := st_e (f := 4) hS (by omega)
  have e35 : σ 35 = S 5 := st_e (f := 5) hS (by omega)
  have e36 : σ 36 = S 6 := st_e (f := 6) hS (by omega)
  have e37 : σ 37 = S 7 := st_e (f := 7) hS (by omega)
  have e38 : σ 38 = S 8 := st_e (f := 8) hS (by omega)
  have e39 : σ 39 = S 9 := st_e (f := 9) hS (by omega)
  have e40 : σ 40 = S 10 := st_e (f := 10) hS (by omega)
  have ew0 : σ w = Wm 0 := st_e0 hW
  have ew1 : σ (w + 1) = Wm 1 := st_e (f := 1) hW (by omega)
  have ew2 : σ (w + 2) = Wm 2 := st_e (f := 2) hW (by omega)
  have ew3 : σ (w + 3) = Wm 3 := st_e (f := 3) hW (by omega)
  have ew4 : σ (w + 4) = Wm 4 := st_e (f := 4) hW (by omega)
  have ew5 : σ (w + 5) = Wm 5 := st_e (f := 5) hW (by omega)
  have ew6 : σ (w + 6) = Wm 6 := st_e (f := 6) hW (by omega)
  have ew7 : σ (w + 7) = Wm 7 := st_e (f := 7) hW (by omega)
  have ew8 : σ (w + 8) = Wm 8 := st_e (f := 8) hW (by omega)
  have ew9 : σ (w + 9) = Wm 9 := st_e (f := 9) hW (by omega)
  have ew10 : σ (w + 10) = Wm 10 := st_e (f := 10) hW (by omega)
  have ew11 : σ (w + 11) = Wm 11 := st_e (f := 11) hW (by omega)
  have ew12 : σ (w + 12) = Wm 12 := st_e (f := 12) hW (by omega)
  have hSI0 := hSI
  have hWI0 := hWI
  obtain ⟨b0, b11, b12, bc, bm, bl, br⟩ := hSI
  obtain ⟨w1, w2, w3, w4, w5, w6, w7, w8, w9, w10⟩ := hWI
  have ha1 : (41 : Int) ∈ stL := by decide
  have h0 : stp σ σ 30 S := ⟨hS, fun _ _ _ _ _ => rfl⟩
  refine zaload_n (k := 0) rfl rfl ?_
  refine zgR 8 (k := 1) rfl ob_1 fl_11_19 rfl fx_1_8 ?_
  first | rw [h8] | rw [h0.2 1 8 (by omega) (by omega) (by omega), h8]
  refine ziload_n (k := 2) rfl rfl ?_
  refine zfV1 (k := 3) rfl (c_War_hasMan hw) fm_War_hasMan lk_11_181 rfl rfl (wr_ob hw) ⟨_, rfl, rfl⟩ (Nat.le_of_ble_eq_true rfl) (by decide) ⟨by decide, by decide⟩ ?_
  try simp only [e30, e31, e32, e33, e34, e35, e36, e37, e38, e39, e40, ew0, ew1, ew2, ew3, ew4, ew5, ew6, ew7, ew8, ew9, ew10, ew11, ew12]
  refine zif_eq (k := 4) rfl rfl (fun c1 => ?_) (fun c1 => ?_)
  · skip
    refine ziconst (k := 10) rfl (by decide) ?_
    refine zireturn (k := 11) rfl rfl rfl ?_
    rw [← hQ]
    refine ⟨rfl, _, rfl, ?_, scr_rf σ, hAZ⟩
    unfold lurQ
    rw [if_pos (by (try split at c1) <;> (try split at c2) <;> omega)]
  · skip
    have hmm : 0 ≤ m ∧ m < Wm 0 3 := by split at c1 <;> first | assumption | (exfalso; omega)
    refine zaload_n (k := 5) rfl rfl ?_
    refine zgR 8 (k := 6) rfl ob_1 fl_11_19 rfl fx_1_8 ?_
    first | rw [h8] | rw [h0.2 1 8 (by omega) (by omega) (by omega), h8]
    refine ziload_n (k := 7) rfl rfl ?_
    refine zfV1 (k := 8) rfl (c_War_hasCounty hw) fm_War_hasCounty lk_11_168 rfl rfl (wr_ob hw) ⟨_, rfl, rfl⟩ (Nat.le_of_ble_eq_true rfl) (by decide) ⟨by decide, by decide⟩ ?_
    try simp only [e30, e31, e32, e33, e34, e35, e36, e37, e38, e39, e40, ew0, ew1, ew2, ew3, ew4, ew5, ew6, ew7, ew8, ew9, ew10, ew11, ew12]
    refine zif_ne (k := 9) rfl rfl (fun c2 => ?_) (fun c2 => ?_)
    · skip
      have hcc : 0 ≤ c ∧ c < Wm 0 1 := by split at c2 <;> first | assumption | (exfalso; omega)
      refine zaload_n (k := 12) rfl rfl ?_
      refine zgF 6 (k := 13) rfl ob_1 fl_11_29 rfl fx_1_6 ?_
      refine zgF 5 (k := 14) rfl ob_30 fl_11_149 rfl fx_30_5 ?_
      refine ziload_n (k := 15) rfl rfl ?_
      refine zfS1 (k := 16) rfl (c_NT_at ar_35) fm_NT_at lk_11_174 rfl rfl (Nat.le_of_ble_eq_true rfl) (by decide) ⟨by decide, by decide⟩ ?_
      rw [zat_in (by omega)]
      try simp only [e30, e31, e32, e33, e34, e35, e36, e37, e38, e39, e40, ew0, ew1, ew2, ew3, ew4, ew5, ew6, ew7, ew8, ew9, ew10, ew11, ew12]
      refine zif_ne (k := 17) rfl rfl (fun c3 => ?_) (fun c3 => ?_)
      · skip
        refine ziconst (k := 25) rfl (by decide) ?_
        refine zireturn (k := 26) rfl rfl rfl ?_
        rw [← hQ]
        refine ⟨rfl, _, rfl, ?_, scr_rf σ, hAZ⟩
        unfold lurQ
        rw [if_neg (by omega), if_pos (by omega)]
      · skip
        refine zaload_n (k := 18) rfl rfl ?_
        refine zgF 6 (k := 19) rfl ob_1 fl_11_29 rfl fx_1_6 ?_
        refine zgF 4 (k := 20) rfl ob_30 fl_11_200 rfl fx_30_4 ?_
        refine ziload_n (k := 21) rfl rfl ?_
        refine zfS1 (k := 22) rfl (c_NT_at ar_34) fm_NT_at lk_11_174 rfl rfl (Nat.le_of_ble_eq_true rfl) (by decide) ⟨by decide, by decide⟩ ?_
        rw [zat_in (by omega)]
        try simp only [e30, e31, e32, e33, e34, e35, e36, e37, e38, e39, e40, ew0, ew1, ew2, ew3, ew4, ew5, ew6, ew7, ew8, ew9, ew10, ew11, ew12]
        refine ziload_n (k := 23) rfl rfl ?_
        refine zicmp_ne (k := 24) rfl rfl (fun c4 => ?_) (fun c4 => ?_)
        · skip
          refine zaload_n (k := 27) rfl rfl ?_
          refine zgR 8 (k := 28) rfl ob_1 fl_11_19 rfl fx_1_8 ?_
          first | rw [h8] | rw [h0.2 1 8 (by omega) (by omega) (by omega), h8]
          refine zaload_n (k := 29) rfl rfl ?_
          refine zgF 6 (k := 30) rfl ob_1 fl_11_29 rfl fx_1_6 ?_
          refine zgF 4 (k := 31) rfl ob_30 fl_11_200 rfl fx_30_4 ?_
          refine ziload_n (k := 32) rfl rfl ?_
          refine zfS1 (k := 33) rfl (c_NT_at ar_34) fm_NT_at lk_11_174 rfl rfl (Nat.le_of_ble_eq_true rfl) (by decide) ⟨by decide, by decide⟩ ?_
          rw [zat_in (by omega)]
          try simp only [e30, e31, e32, e33, e34, e35, e36, e37, e38, e39, e40, ew0, ew1, ew2, ew3, ew4, ew5, ew6, ew7, ew8, ew9, ew10, ew11, ew12]
          refine ziload_n (k := 34) rfl rfl ?_
          refine zfV1 (k := 35) rfl (k_dist hw hW (by omega)) fm_War_distance lk_11_197 rfl rfl (wr_ob hw) ⟨_, rfl, rfl⟩ (Nat.le_of_ble_eq_true rfl) (by decide) ⟨by decide, by decide⟩ ?_
          refine ziconst (k := 36) rfl (by decide) ?_
          refine zicmp_ne (k := 37) rfl rfl (fun c5 => ?_) (fun c5 => ?_)
          · skip
            refine zaload_n (k := 40) rfl rfl ?_
            refine zgF 2 (k := 41) rfl ob_1 fl_11_48 rfl fx_1_2 ?_
            refine zaload_n (k := 42) rfl rfl ?_
            refine zgR 8 (k := 43) rfl ob_1 fl_11_19 rfl fx_1_8 ?_
            first | rw [h8] | rw [h0.2 1 8 (by omega) (by omega) (by omega), h8]
            refine zaload_n (k := 44) rfl rfl ?_
            refine zgF 6 (k := 45) rfl ob_1 fl_11_29 rfl fx_1_6 ?_
            refine ziload_n (k := 46) rfl rfl ?_
            refine ziload_n (k := 47) rfl rfl ?_
            refine zpVI (k := 48) rfl (c_March_leastLure ha hw h0 hW hSI0 hWI0 (by omega) (by omega)) fm_March_leastLure lk_11_240 rfl rfl ob_55 ⟨_, rfl, rfl⟩ (Nat.le_of_ble_eq_true rfl) (by decide) ⟨by decide, by decide⟩ (fun z σ2 h2 => ?_)
            refine zireturn (k := 49) rfl rfl rfl ?_
            rw [← hQ]
            refine ⟨rfl, _, rfl, ?_, ?_, ?_⟩
            · unfold lurQ
              rw [if_neg (by omega), if_neg (by omega), if_neg (by omega)]
              exact h2.1
            · intro x k q1 q2
              by_cases hx : 30 ≤ x ∧ x ≤ 40
              · have g : ∀ S2, vw 10 σ2 30 = S2 → vw 10 σ 30 = S2 → σ2 x k = σ x k := fun S2 g1 g2 => by
                  by_cases h30 : x = 30
                  · rw [h30, st_e0 g1, st_e0 g2]
                  · rw [show x = 30 + (x - 30) by omega, st_e g1 (by omega), st_e g2 (by omega)]
                exact g S h2.2.1 hS
              · exact h2.2.2 x k (by omega) (by omega) (by omega)
            · rw [vw_eq (σ := σ) (fun x k g1 g2 => h2.2.2 x k (by omega) (by omega) (by omega)) (by omega)]; exact hAZ
          · skip
            refine ziconst (k := 38) rfl (by decide) ?_
            refine zireturn (k := 39) rfl rfl rfl ?_
            rw [← hQ]
            refine ⟨rfl, _, rfl, ?_, scr_rf σ, hAZ⟩
            unfold lurQ
            rw [if_neg (by omega), if_neg (by omega), if_pos (by omega)]
        · skip
          refine ziconst (k := 25) rfl (by decide) ?_
          refine zireturn (k := 26) rfl rfl rfl ?_
          rw [← hQ]
          refine ⟨rfl, _, rfl, ?_, scr_rf σ, hAZ⟩
          unfold lurQ
          rw [if_neg (by omega), if_pos (by omega)]
    · skip
      refine ziconst (k := 10) rfl (by decide) ?_
      refine zireturn (k := 11) rfl rfl rfl ?_
      rw [← hQ]
      refine ⟨rfl, _, rfl, ?_, scr_rf σ, hAZ⟩
      unfold lurQ
      rw [if_pos (by (try split at c1) <;> (try split at c2) <;> omega)]
