/-! chance -/
def chnF (Wm S : zv_H) (s : Int) : Nat → zv_H × Int × Int
  | 0 => (S, s, 0)
  | k + 1 => ((pasF Wm (gtkF (chnF Wm S s k).1 (chnF Wm S s k).2.1 (Wm 0 3).toNat).1).1, (gtkF (chnF Wm S s k).1 (chnF Wm S s k).2.1 (Wm 0 3).toNat).2.1, (chnF Wm S s k).2.2 + (gtkF (chnF Wm S s k).1 (chnF Wm S s k).2.1 (Wm 0 3).toNat).2.2)
theorem chn_b {Wm S : zv_H} {s : Int} (hW : WI Wm) (hS : SI (Wm 0 1) (Wm 0 3) S) (hs : 0 ≤ s ∧ s ≤ 2147483647) (hZ : SZ S) : ∀ k : Nat, SI (Wm 0 1) (Wm 0 3) (chnF Wm S s k).1 ∧ (0 ≤ (chnF Wm S s k).2.1 ∧ (chnF Wm S s k).2.1 ≤ 2147483647) ∧ (0 ≤ (chnF Wm S s k).2.2 ∧ (chnF Wm S s k).2.2 ≤ 6 * k) ∧ SZ (chnF Wm S s k).1
  | 0 => ⟨hS, hs, ⟨Int.le_refl _, Int.le_refl _⟩, hZ⟩
  | k + 1 => by
    obtain ⟨i1, i2, i3, i4⟩ := chn_b hW hS hs hZ k
    have w1 := hW.1
    have w3 := hW.2.2.1
    have g := gtk_b w1.2 w3.2 i1 i2 (Wm 0 3).toNat (by omega)
    have gz := SZ_gtk w1.2 w3.2 i1 i2 i4 (Wm 0 3).toNat (by omega)
    refine ⟨SI_pas hW g.1, g.2.1, ?_, SZ_pas hW g.1 gz⟩
    show 0 ≤ (chnF Wm S s k).2.2 + _ ∧ (chnF Wm S s k).2.2 + _ ≤ _
    omega
theorem remP_seed {σ σ1 σ2 S S1 S2 : zv_H} {n s s2 : Int} (hb : 0 ≤ n ∧ n < 20) (h : remP (zup σ 1 10 s) σ1 n S S1) (h2 : stp (zup σ1 1 10 s2) σ2 30 S2) : remP (zup σ 1 10 s2) σ2 n S S2 := by
  refine remP_st hb (σ1 := zup σ1 1 10 s2) (S1 := S1) ?_ h2
  obtain ⟨h1, h3, h4, h5, h6⟩ := h
  refine ⟨?_, ?_, ?_, ?_, fun x k q1 q2 q3 q4 q5 => ?_⟩
  · rw [← h1]; exact vw_eq (fun x k q1 q2 => zup_n (by omega)) (by omega)
  · rw [← h3]; exact vw_eq (fun x k q1 q2 => zup_n (by unfold actn at q1; omega)) (by omega)
  · rw [zup_n (by omega)]; exact h4
  · rw [zup_n (by omega), h5, zup_n (by omega), zup_n (by omega)]
  · by_cases e : x = 1 ∧ k = 10
    · rw [e.1, e.2, zup_s, zup_s]
    · rw [zup_n e, zup_n e, h6 x k q1 q2 q3 q4 q5, zup_n e]
theorem zup_id {σ : zv_H} {a k v : Int} (h : σ a k = v) : zup σ a k v = σ := by
  funext x j
  by_cases e : x = a ∧ j = k
  · rw [e.1, e.2, zup_s, h]
  · rw [zup_n e]
set_option maxHeartbeats 4000000 in
set_option maxRecDepth 20000 in
theorem c_NT_chance {Γ : zv_M} {L : Int} {w : Int} {σ S Wm : zv_H} (h8 : σ 1 8 = w) (hw : w ∈ wrL) (hW : vw 12 σ w = Wm) (hS : vw 10 σ 30 = S) (hSI : SI (Wm 0 1) (Wm 0 3) S) (hWI : WI Wm) (hZ : SZ S) {n : Int} (hn : σ 62 1 = n) (hb : 0 ≤ n ∧ n < 20) (hac : 0 ≤ σ 62 2 ∧ σ 62 2 ≤ 20) (hAn : SZ (vw 10 σ (actn n))) {u s : Int} (hsd : σ 1 10 = s) (hs : 0 ≤ s ∧ s ≤ 2147483647) : zC Γ m_NT_chance 8 0 0 (GM L) [zR 1, zI u] σ (zPI (GM L) (fun z σ' => (¬ (1 ≤ u ∧ u ≤ 100 ∧ u ≤ 999 - S 0 0) ∧ z = -1 ∧ σ' = rfu σ 2) ∨ ((1 ≤ u ∧ u ≤ 100 ∧ u ≤ 999 - S 0 0) ∧ z = (chnF Wm S s u.toNat).2.2 ∧ remP (zup σ 1 10 (chnF Wm S s u.toNat).2.1) σ' n S (chnF Wm S s u.toNat).1))) := by
  refine zC_of (ls0 := [_, _, _, _]) zm_NT_chance (by decide) rfl (Nat.le_of_ble_eq_true rfl) ?_
  generalize hQ : (zPI (GM L) (fun z σ' => (¬ (1 ≤ u ∧ u ≤ 100 ∧ u ≤ 999 - S 0 0) ∧ z = -1 ∧ σ' = rfu σ 2) ∨ ((1 ≤ u ∧ u ≤ 100 ∧ u ≤ 999 - S 0 0) ∧ z = (chnF Wm S s u.toNat).2.2 ∧ remP (zup σ 1 10 (chnF Wm S s u.toNat).2.1) σ' n S (chnF Wm S s u.toNat).1))) = Q
  have ha : (30 : Int) ∈ stL := by decide
  have e30 : σ 30 = S 0 := st_e0 hS
  have e31 : σ 31 = S 1 := st_e (f := 1) hS (by omega)
  have e32 : σ 32 = S 2 := st_e (f := 2) hS (by omega)
  have e33 : σ 33 = S 3 := st_e (f := 3) hS (by omega)
  have e34 : σ 34 = S 4 := st_e (f := 4) hS (by omega)
  have e35 : σ 35 = S 5 := st_e (f := 5) hS (by omega)
  have e36 : σ 36 = S 6 := st_e (f := 6) hS (by omega)
  have e37 : σ 37 = S 7 := st_e (f := 7) hS (by omega)
  have e38 : σ 38 = S 8 := st_e (f := 8) hS (by omega)
  have e39 : σ 39 = S 9 := st_e (f := 9) hS (by omega)
  have e40 : σ 40 = S 10 := st_e (f := 10) hS (by omega)
  have ew0 : σ w = Wm 0 := st_e0 hW
  have ew1 : σ (w + 1) = Wm 1 := st_e (f := 1) hW (by omega)
  have ew2 : σ (w + 2) = Wm 2 := st_e (f := 2) hW (by omega)
  have ew3 : σ (w + 3) = Wm 3 := st_e (f := 3) hW (by omega)
  have ew4 : σ (w + 4) = Wm 4 := st_e (f := 4) hW (by omega)
  have ew5 : σ (w + 5) = Wm 5 := st_e (f := 5) hW (by omega)
  have ew6 : σ (w + 6) = Wm 6 := st_e (f := 6) hW (by omega)
  have ew7 : σ (w + 7) = Wm 7 := st_e (f := 7) hW (by omega)
  have ew8 : σ (w + 8) = Wm 8 := st_e (f := 8) hW (by omega)
  have ew9 : σ (w + 9) = Wm 9 := st_e (f := 9) hW (by omega)
  have ew10 : σ (w + 10) = Wm 10 := st_e (f := 10) hW (by omega)
  have ew11 : σ (w + 11) = Wm 11 := st_e (f := 11) hW (by omega)
  have ew12 : σ (w + 12) = Wm 12 := st_e (f := 12) hW (by omega)
  have hSI0 := hSI
  have hWI0 := hWI
  obtain ⟨b0, b11, b12, bc, bm, bl, br⟩ := hSI
  obtain ⟨w1, w2, w3, w4, w5, w6, w7, w8, w9, w10⟩ := hWI
  refine zaload_n (k := 0) rfl rfl ?_
  refine ziload_n (k := 1) rfl rfl ?_
  refine zfV1 (k := 2) rfl (c_NT_canGo h8 hw hW hS hSI0 hWI0) fm_NT_canGo lk_11_272 rfl rfl ob_1 ⟨_, rfl, rfl⟩ (Nat.le_of_ble_eq_true rfl) (by decide) ⟨by decide, by decide⟩ ?_
  refine zif_ne (k := 3) rfl rfl (fun c1 => ?_) (fun c1 => ?_)
  · skip
    have hu : 1 ≤ u ∧ u ≤ 100 ∧ u ≤ 999 - S 0 0 := by split at c1 <;> first | assumption | (exfalso; omega)
    obtain ⟨N, rfl⟩ : ∃ N : Nat, u = N := ⟨u.toNat, by omega⟩
    refine zaload_n (k := 9) rfl rfl ?_
    refine zgF 4 (k := 10) rfl ob_1 fl_11_64 rfl fx_1_4 ?_
    refine zaload_n (k := 11) rfl rfl ?_
    refine zgF 6 (k := 12) rfl ob_1 fl_11_29 rfl fx_1_6 ?_
    refine zpV0 (k := 13) rfl (k_rem hn hb hac hS hZ hAn) fm_Acts_remember lk_11_275 rfl rfl ob_62 ⟨_, rfl, rfl⟩ (Nat.le_of_ble_eq_true rfl) (by decide) ⟨by decide, by decide⟩ (fun σ1 hr => ?_)
    refine ziconst (k := 14) rfl (by decide) ?_
    refine zistore_n (k := 15) (ls' := [_, _, _, _]) rfl (Nat.le_of_ble_eq_true rfl) rfl ?_
    refine ziconst (k := 16) rfl (by decide) ?_
    refine zistore_n (k := 17) (ls' := [_, _, _, _]) rfl (Nat.le_of_ble_eq_true rfl) rfl ?_
    have lp30 : ∀ (g : Nat) (j : Nat) (σ2 : zv_H), (N - j) < g → (j ≤ N) → (remP (zup σ 1 10 (chnF Wm S s j).2.1) σ2 n S (chnF Wm S s j).1) → zV Γ m_NT_chance 8 0 0 Q (GM L) (0, 0) 30 [some (zR 1), some (zI N), some (zI (chnF Wm S s j).2.2), some (zI j)] [] σ2 := by
      intro g
      induction g with
      | zero => intro j σ2 hg; exact absurd hg (Nat.not_lt_zero _)
      | succ g ih30 =>
        intro j σ2 hg hj hr
        have h82 : σ2 1 8 = w := by rw [remP_8 hb hr (by omega), zup_n (by omega)]; exact h8
        have hW2 : vw 12 σ2 w = Wm := by rw [← hW]; exact vw_eq (fun x k q1 q2 => by rw [remP_8 hb hr (by have := wr_far hw; omega), zup_n (by have := wr_far hw; omega)]) (by omega)
        obtain ⟨i1, i2, i3, i4⟩ := chn_b hWI0 hSI0 hs hZ j
        have gb := gtk_b w1.2 w3.2 i1 i2 (Wm 0 3).toNat (by omega)
        have hsd2 : σ2 1 10 = (chnF Wm S s j).2.1 := by rw [remP_8 hb hr (by omega), zup_s]
        refine ziload_n (k := 18) rfl rfl ?_
        refine ziload_n (k := 19) rfl rfl ?_
        refine zicmp_ge (k := 20) rfl rfl (fun c2 => ?_) (fun c2 => ?_)
        · skip
          refine ziload_n (k := 37) rfl rfl ?_
          refine zireturn (k := 38) rfl rfl rfl ?_
          rw [← hQ]
          exact ⟨rfl, _, rfl, Or.inr ⟨hu, by rw [show j = N by omega]; rfl, by rw [show (N : Int).toNat = N from rfl, show N = j by omega]; exact hr⟩⟩
        · skip
          refine ziload_n (k := 21) rfl rfl ?_
          refine zaload_n (k := 22) rfl rfl ?_
          refine zpVI (k := 23) rfl (c_NT_guardsTake h82 hw hW2 hr.1 i1 hWI0 hsd2 i2) fm_NT_guardsTake lk_11_278 rfl rfl ob_1 ⟨_, rfl, rfl⟩ (Nat.le_of_ble_eq_true rfl) (by decide) ⟨by decide, by decide⟩ (fun z σ3 h2 => ?_)
          rw [h2.1]
          have h83 : σ3 1 8 = w := by rw [h2.2.2 1 8 (by omega) (by omega) (by omega), zup_n (by omega)]; exact h82
          have hW3 : vw 12 σ3 w = Wm := by rw [← hW2]; exact vw_eq (fun x k q1 q2 => by rw [h2.2.2 x k (by have := wr_far hw; omega) (by have := wr_far hw; omega) (by have := wr_far hw; omega), zup_n (by have := wr_far hw; omega)]) (by omega)
          refine ziaddB (k := 24) rfl (by omega) ?_
          refine zistore_n (k := 25) (ls' := [_, _, _, _]) rfl (Nat.le_of_ble_eq_true rfl) rfl ?_
          refine zaload_n (k := 26) rfl rfl ?_
          refine zgF 2 (k := 27) rfl ob_1 fl_11_48 rfl fx_1_2 ?_
          refine zaload_n (k := 28) rfl rfl ?_
          refine zgR 8 (k := 29) rfl ob_1 fl_11_19 rfl fx_1_8 ?_
          first | rw [h83] | rw [h82] | rw [h8] | rw [h0.2 1 8 (by omega) (by omega) (by omega), h8]
          refine zaload_n (k := 30) rfl rfl ?_
          refine zgF 6 (k := 31) rfl ob_1 fl_11_29 rfl fx_1_6 ?_
          refine ziconst (k := 32) rfl (by decide) ?_
          refine zpVI (k := 33) rfl (c_March_go (by decide) hw (⟨h2.2.1, fun _ _ _ _ _ => rfl⟩ : stp σ3 σ3 30 _) hW3 gb.1 hWI0 1 (by omega)) fm_March_go lk_11_220 rfl rfl ob_55 ⟨_, rfl, rfl⟩ (Nat.le_of_ble_eq_true rfl) (by decide) ⟨by decide, by decide⟩ (fun z2 σ4 h3 => ?_)
          refine zpop (k := 34) rfl rfl ?_
          refine ziincB (k := 35) (ls' := [_, _, _, _]) rfl rfl (by decide) (by omega) rfl ?_
          refine zgoto (k := 36) rfl rfl ?_
          exact ih30 (j + 1) _ (by omega) (by omega) (remP_seed hb hr (s2 := (chnF Wm S s (j + 1)).2.1) (stp_tr h2.2 h3.2))
    exact lp30 _ 0 _ (Nat.lt_succ_self _) (by omega) (by rw [show (chnF Wm S s 0).2.1 = s from rfl, zup_id hsd]; exact hr)
  · skip
    refine zaload_n (k := 4) rfl rfl ?_
    refine ziconst (k := 5) rfl (by decide) ?_
    refine zfV0 (k := 6) rfl (c_NT_refuse (by omega)) fm_NT_refuse lk_11_104 rfl rfl ob_1 ⟨_, rfl, rfl⟩ (Nat.le_of_ble_eq_true rfl) (by decide) ⟨by decide, by decide⟩ ?_
    refine ziconst (k := 7) rfl (by decide) ?_
    refine zireturn (k := 8) rfl rfl rfl ?_
    rw [← hQ]
    refine ⟨rfl, _, rfl, Or.inl ⟨?_, rfl, rfl⟩⟩
    split at c1 <;> first | assumption | (exfalso; omega)
