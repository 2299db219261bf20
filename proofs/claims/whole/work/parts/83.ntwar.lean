theorem vw_stt30 {σ Wm S : zv_H} {w : Int} (hw : w ∈ wrL) (hW : vw 12 σ w = Wm) (hS : vw 10 σ 30 = S) (hZ : SZ S) : vw 10 (zstt σ 30 w) 30 = sttF Wm S := by
  have hf := wr_far hw
  have e : ∀ f i, 1 ≤ f → f ≤ 12 → σ (w + f) i = Wm f i := fun f i h1 h2 => by rw [← hW, vw_f ⟨h1, h2⟩]
  have es : ∀ f i, 1 ≤ f → f ≤ 10 → σ (30 + f) i = S f i := fun f i h1 h2 => by rw [← hS, vw_f ⟨h1, h2⟩]
  have e0 : ∀ i, σ 30 i = S 0 i := fun i => by rw [← hS, vw_0]
  have z0 : ∀ i, ¬ (i = 0 ∨ i = 11 ∨ i = 12) → S 0 i = 0 := fun i h => hZ 0 i (by unfold inS; omega)
  have zf : ∀ f i, 1 ≤ f → f ≤ 10 → ¬ (0 ≤ i ∧ i < lnS f) → S f i = 0 := fun f i h1 h2 h => hZ f i (by rw [inS_f ⟨h1, h2⟩]; exact h)
  refine funext (fun f => funext (fun i => ?_))
  by_cases h0 : f = 0
  · rw [h0, vw_0]
    unfold zstt sttF
    rw [if_neg (by omega), if_neg (by omega), if_neg (by omega), if_neg (by omega)]
    by_cases h12 : i = 12
    · rw [h12, zup_s]
    · rw [zup_n (by omega)]
      by_cases h11 : i = 11
      · rw [h11, zup_s]
      · rw [zup_n (by omega), zfil_n (by omega), zfil_n (by omega), zfil_n (by omega), zfil_n (by omega), zfil_n (by omega), zcpy_n (by omega), zcpy_n (by omega), zcpy_n (by omega), zcpy_n (by omega)]
        by_cases h00 : i = 0
        · rw [h00, zup_s]
        · rw [zup_n (by omega), e0]; exact z0 i (by omega)
  · by_cases hf1 : 1 ≤ f ∧ f ≤ 10
    · rw [vw_f hf1]
      revert i
      refine f10 (P := fun f => ∀ i, zstt σ 30 w (30 + f) i = sttF Wm S f i) hf1 ?_ ?_ ?_ ?_ ?_ ?_ ?_ ?_ ?_ ?_
      · intro i
        unfold zstt
        rw [zup_n (by omega), zup_n (by omega)]
        rw [zfil_n (by omega)]
        rw [zfil_n (by omega)]
        rw [zfil_n (by omega)]
        rw [zfil_n (by omega)]
        rw [zfil_n (by omega)]
        rw [zcpy_n (by omega)]
        rw [zcpy_n (by omega)]
        rw [zcpy_n (by omega)]
        rw [zcpy_h]
        by_cases hi : 0 ≤ i ∧ i < 7
        · rw [if_pos hi, zup_n (by omega), e _ _ (by omega) (by omega)]
          unfold sttF
          rw [if_pos (by omega)]
          rfl
        · rw [if_neg hi, zup_n (by omega), es _ _ (by omega) (by omega), zf _ _ (by omega) (by omega) (by unfold lnS; simp; omega)]
          unfold sttF
          rw [if_neg (by omega), if_neg (by omega), if_neg (by omega), if_neg (by omega)]
      · intro i
        unfold zstt
        rw [zup_n (by omega), zup_n (by omega)]
        rw [zfil_n (by omega)]
        rw [zfil_n (by omega)]
        rw [zfil_n (by omega)]
        rw [zfil_n (by omega)]
        rw [zfil_n (by omega)]
        rw [zcpy_n (by omega)]
        rw [zcpy_n (by omega)]
        rw [zcpy_h]
        by_cases hi : 0 ≤ i ∧ i < 7
        · rw [if_pos hi, zcpy_n (by omega), zup_n (by omega), e _ _ (by omega) (by omega)]
          unfold sttF
          rw [if_pos (by omega)]
          rfl
        · rw [if_neg hi, zcpy_n (by omega), zup_n (by omega), es _ _ (by omega) (by omega), zf _ _ (by omega) (by omega) (by unfold lnS; simp; omega)]
          unfold sttF
          rw [if_neg (by omega), if_neg (by omega), if_neg (by omega), if_neg (by omega)]
      · intro i
        unfold zstt
        rw [zup_n (by omega), zup_n (by omega)]
        rw [zfil_n (by omega)]
        rw [zfil_n (by omega)]
        rw [zfil_n (by omega)]
        rw [zfil_n (by omega)]
        rw [zfil_n (by omega)]
        rw [zcpy_n (by omega)]
        rw [zcpy_h]
        by_cases hi : 0 ≤ i ∧ i < 7
        · rw [if_pos hi, zcpy_n (by omega), zcpy_n (by omega), zup_n (by omega), e _ _ (by omega) (by omega)]
          unfold sttF
          rw [if_pos (by omega)]
          rfl
        · rw [if_neg hi, zcpy_n (by omega), zcpy_n (by omega), zup_n (by omega), es _ _ (by omega) (by omega), zf _ _ (by omega) (by omega) (by unfold lnS; simp; omega)]
          unfold sttF
          rw [if_neg (by omega), if_neg (by omega), if_neg (by omega), if_neg (by omega)]
      · intro i
        unfold zstt
        rw [zup_n (by omega), zup_n (by omega)]
        rw [zfil_n (by omega)]
        rw [zfil_n (by omega)]
        rw [zfil_n (by omega)]
        rw [zfil_n (by omega)]
        rw [zfil_n (by omega)]
        rw [zcpy_h]
        by_cases hi : 0 ≤ i ∧ i < 6
        · rw [if_pos hi, zcpy_n (by omega), zcpy_n (by omega), zcpy_n (by omega), zup_n (by omega), e _ _ (by omega) (by omega)]
          unfold sttF
          rw [if_neg (by omega), if_pos (by omega)]
        · rw [if_neg hi, zcpy_n (by omega), zcpy_n (by omega), zcpy_n (by omega), zup_n (by omega), es _ _ (by omega) (by omega), zf _ _ (by omega) (by omega) (by unfold lnS; simp; omega)]
          unfold sttF
          rw [if_neg (by omega), if_neg (by omega), if_neg (by omega), if_neg (by omega)]
      · intro i
        unfold zstt
        rw [zup_n (by omega), zup_n (by omega)]
        rw [zfil_n (by omega)]
        rw [zfil_n (by omega)]
        rw [zfil_n (by omega)]
        rw [zfil_n (by omega)]
        by_cases hi : 0 ≤ i ∧ i < 6
        · rw [show zfil _ (30 + 5) 6 0 (30 + 5) i = 0 from if_pos ⟨rfl, hi⟩]
          unfold sttF
          rw [if_neg (by omega), if_neg (by omega), if_neg (by omega), if_neg (by omega)]
        · rw [show ∀ τ : zv_H, zfil τ (30 + 5) 6 0 (30 + 5) i = τ (30 + 5) i from fun τ => if_neg (fun q => hi q.2)]
          rw [zcpy_n (by omega), zcpy_n (by omega), zcpy_n (by omega), zcpy_n (by omega), zup_n (by omega), es _ _ (by omega) (by omega), zf _ _ (by omega) (by omega) (by unfold lnS; simp; omega)]
          unfold sttF
          rw [if_neg (by omega), if_neg (by omega), if_neg (by omega), if_neg (by omega)]
      · intro i
        unfold zstt
        rw [zup_n (by omega), zup_n (by omega)]
        rw [zfil_n (by omega)]
        rw [zfil_n (by omega)]
        rw [zfil_n (by omega)]
        by_cases hi : 0 ≤ i ∧ i < 6
        · rw [show zfil _ (30 + 6) 6 0 (30 + 6) i = 0 from if_pos ⟨rfl, hi⟩]
          unfold sttF
          rw [if_neg (by omega), if_neg (by omega), if_neg (by omega), if_neg (by omega)]
        · rw [show ∀ τ : zv_H, zfil τ (30 + 6) 6 0 (30 + 6) i = τ (30 + 6) i from fun τ => if_neg (fun q => hi q.2)]
          rw [zfil_n (by omega), zcpy_n (by omega), zcpy_n (by omega), zcpy_n (by omega), zcpy_n (by omega), zup_n (by omega), es _ _ (by omega) (by omega), zf _ _ (by omega) (by omega) (by unfold lnS; simp; omega)]
          unfold sttF
          rw [if_neg (by omega), if_neg (by omega), if_neg (by omega), if_neg (by omega)]
      · intro i
        unfold zstt
        rw [zup_n (by omega), zup_n (by omega)]
        rw [zfil_n (by omega)]
        rw [zfil_n (by omega)]
        by_cases hi : 0 ≤ i ∧ i < 6
        · rw [show zfil _ (30 + 7) 6 0 (30 + 7) i = 0 from if_pos ⟨rfl, hi⟩]
          unfold sttF
          rw [if_neg (by omega), if_neg (by omega), if_neg (by omega), if_neg (by omega)]
        · rw [show ∀ τ : zv_H, zfil τ (30 + 7) 6 0 (30 + 7) i = τ (30 + 7) i from fun τ => if_neg (fun q => hi q.2)]
          rw [zfil_n (by omega), zfil_n (by omega), zcpy_n (by omega), zcpy_n (by omega), zcpy_n (by omega), zcpy_n (by omega), zup_n (by omega), es _ _ (by omega) (by omega), zf _ _ (by omega) (by omega) (by unfold lnS; simp; omega)]
          unfold sttF
          rw [if_neg (by omega), if_neg (by omega), if_neg (by omega), if_neg (by omega)]
      · intro i
        unfold zstt
        rw [zup_n (by omega), zup_n (by omega)]
        rw [zfil_n (by omega)]
        by_cases hi : 0 ≤ i ∧ i < 6
        · rw [show zfil _ (30 + 8) 6 0 (30 + 8) i = 0 from if_pos ⟨rfl, hi⟩]
          unfold sttF
          rw [if_neg (by omega), if_neg (by omega), if_neg (by omega), if_neg (by omega)]
        · rw [show ∀ τ : zv_H, zfil τ (30 + 8) 6 0 (30 + 8) i = τ (30 + 8) i from fun τ => if_neg (fun q => hi q.2)]
          rw [zfil_n (by omega), zfil_n (by omega), zfil_n (by omega), zcpy_n (by omega), zcpy_n (by omega), zcpy_n (by omega), zcpy_n (by omega), zup_n (by omega), es _ _ (by omega) (by omega), zf _ _ (by omega) (by omega) (by unfold lnS; simp; omega)]
          unfold sttF
          rw [if_neg (by omega), if_neg (by omega), if_neg (by omega), if_neg (by omega)]
      · intro i
        unfold zstt
        rw [zup_n (by omega), zup_n (by omega)]
        by_cases hi : 0 ≤ i ∧ i < 42
        · rw [show zfil _ (30 + 9) 42 1000000 (30 + 9) i = 1000000 from if_pos ⟨rfl, hi⟩]
          unfold sttF
          rw [if_neg (by omega), if_neg (by omega), if_pos (by omega)]
        · rw [show ∀ τ : zv_H, zfil τ (30 + 9) 42 1000000 (30 + 9) i = τ (30 + 9) i from fun τ => if_neg (fun q => hi q.2)]
          rw [zfil_n (by omega), zfil_n (by omega), zfil_n (by omega), zfil_n (by omega), zcpy_n (by omega), zcpy_n (by omega), zcpy_n (by omega), zcpy_n (by omega), zup_n (by omega), es _ _ (by omega) (by omega), zf _ _ (by omega) (by omega) (by unfold lnS; simp; omega)]
          unfold sttF
          rw [if_neg (by omega), if_neg (by omega), if_neg (by omega), if_neg (by omega)]
      · intro i
        unfold zstt
        rw [zup_n (by omega), zup_n (by omega)]
        rw [zfil_n (by omega)]
        rw [zfil_n (by omega)]
        rw [zfil_n (by omega)]
        rw [zfil_n (by omega)]
        rw [zfil_n (by omega)]
        rw [zcpy_n (by omega)]
        rw [zcpy_n (by omega)]
        rw [zcpy_n (by omega)]
        rw [zcpy_n (by omega)]
        rw [zup_n (by omega), es _ _ (by omega) (by omega)]
        unfold sttF
        rw [if_neg (by omega), if_neg (by omega), if_neg (by omega), if_pos rfl]
    · unfold vw
      rw [if_neg h0, if_neg hf1]
      unfold sttF
      rw [if_neg (by omega), if_neg (by omega), if_neg (by omega), if_neg (by omega)]
theorem k_start30 {Γ : zv_M} {L : Int} {σ Wm S : zv_H} {w : Int} (hw : w ∈ wrL) (hW : vw 12 σ w = Wm) (hS : vw 10 σ 30 = S) (hZ : SZ S) : zC Γ m_State_start 1 0 0 (GM L) [zR 30, zR w] σ (zP0 (GM L) (fun σ' => stp σ σ' 30 (sttF Wm S))) := by
  refine zC_mono (fun q G' σ' hq => ?_) (c_State_start (by decide) hw)
  obtain ⟨rfl, rfl, rfl⟩ := hq
  exact ⟨rfl, rfl, vw_stt30 hw hW hS hZ, fun x k q1 q2 q3 => zstt_o (by omega) k⟩
set_option maxHeartbeats 4000000 in
set_option maxRecDepth 20000 in
theorem c_NT_war {Γ : zv_M} {L : Int} {σ S : zv_H} {T : Int → Int} {n w u : Int} (h8 : σ 1 8 = w) (h9 : σ 1 9 = u) (hw : w ∈ wrL) (hu : u ∈ wrL) (hT : tA σ = T) (hl : σ 2 1 = n) (hn0 : TT T n) (ho : ∀ k, 0 ≤ k → k < 24 → σ 54 k = ownR k) (hS : vw 10 σ 30 = S) (hZ : SZ S) : zC Γ m_NT_war 124 0 0 (GM L) [zR 1] σ (zPI (GM L) (fun z σ' => (∃ k pl, warR T n 82 0 AZ [] [] (Sum.inr (k, pl)) ∧ z = -1 ∧ σ' 1 11 = k ∧ σ' 1 12 = pl ∧ σ' 2 1 = 0 ∧ σ' 288 1 = w32 (σ 288 1 + 1) ∧ ∀ x k, ¬ (u ≤ x ∧ x ≤ u + 12) → x ≠ 52 → x ≠ 53 → ¬ (x = 1 ∧ (k = 11 ∨ k = 12)) → ¬ (x = 2 ∧ k = 1) → ¬ (x = 288 ∧ k = 1) → σ' x k = σ x k) ∨ (∃ (A : zv_H) (J K : List (Int × Int)) (p : Int) (σ5 : zv_H), warR T n 82 0 AZ [] [] (Sum.inl (A, J, K)) ∧ AI T A ∧ stJ (zup σ 52 1 u) σ5 T n u A J K p ∧ z = A 0 0 ∧ vw 12 σ' u = vw 12 (zrow σ5 (u + 12) (fwB (fwD (σ5 (u + 12)) (A 0 1).toNat) (A 0 1).toNat (A 0 1).toNat)) u ∧ vw 10 σ' 30 = sttF (vw 12 (zrow σ5 (u + 12) (fwB (fwD (σ5 (u + 12)) (A 0 1).toNat) (A 0 1).toNat (A 0 1).toNat)) u) S ∧ σ' 1 8 = u ∧ σ' 1 9 = w ∧ σ' 1 11 = 0 ∧ σ' 1 12 = -1 ∧ σ' 1 15 = 0 ∧ σ' 2 1 = 0 ∧ σ' 62 2 = 0 ∧ ∀ x k, ¬ (u ≤ x ∧ x ≤ u + 12) → ¬ (30 ≤ x ∧ x ≤ 40) → x ≠ 52 → x ≠ 53 → x ≠ 56 → x ≠ 57 → ¬ (x = 1 ∧ (k = 8 ∨ k = 9 ∨ k = 11 ∨ k = 12 ∨ k = 15)) → ¬ (x = 2 ∧ k = 1) → ¬ (x = 62 ∧ k = 2) → σ' x k = σ x k))) := by
  refine zC_of (ls0 := [_, _, _]) zm_NT_war (by decide) rfl (Nat.le_of_ble_eq_true rfl) ?_
  generalize hQ : (zPI (GM L) (fun z σ' => (∃ k pl, warR T n 82 0 AZ [] [] (Sum.inr (k, pl)) ∧ z = -1 ∧ σ' 1 11 = k ∧ σ' 1 12 = pl ∧ σ' 2 1 = 0 ∧ σ' 288 1 = w32 (σ 288 1 + 1) ∧ ∀ x k, ¬ (u ≤ x ∧ x ≤ u + 12) → x ≠ 52 → x ≠ 53 → ¬ (x = 1 ∧ (k = 11 ∨ k = 12)) → ¬ (x = 2 ∧ k = 1) → ¬ (x = 288 ∧ k = 1) → σ' x k = σ x k) ∨ (∃ (A : zv_H) (J K : List (Int × Int)) (p : Int) (σ5 : zv_H), warR T n 82 0 AZ [] [] (Sum.inl (A, J, K)) ∧ AI T A ∧ stJ (zup σ 52 1 u) σ5 T n u A J K p ∧ z = A 0 0 ∧ vw 12 σ' u = vw 12 (zrow σ5 (u + 12) (fwB (fwD (σ5 (u + 12)) (A 0 1).toNat) (A 0 1).toNat (A 0 1).toNat)) u ∧ vw 10 σ' 30 = sttF (vw 12 (zrow σ5 (u + 12) (fwB (fwD (σ5 (u + 12)) (A 0 1).toNat) (A 0 1).toNat (A 0 1).toNat)) u) S ∧ σ' 1 8 = u ∧ σ' 1 9 = w ∧ σ' 1 11 = 0 ∧ σ' 1 12 = -1 ∧ σ' 1 15 = 0 ∧ σ' 2 1 = 0 ∧ σ' 62 2 = 0 ∧ ∀ x k, ¬ (u ≤ x ∧ x ≤ u + 12) → ¬ (30 ≤ x ∧ x ≤ 40) → x ≠ 52 → x ≠ 53 → x ≠ 56 → x ≠ 57 → ¬ (x = 1 ∧ (k = 8 ∨ k = 9 ∨ k = 11 ∨ k = 12 ∨ k = 15)) → ¬ (x = 2 ∧ k = 1) → ¬ (x = 62 ∧ k = 2) → σ' x k = σ x k))) = Q
  have hwf := wr_far hu
  have hwf2 := wr_far hw
  refine zaload_n (k := 0) rfl rfl ?_
  refine zgF 1 (k := 1) rfl ob_1 fl_11_41 rfl fx_1_1 ?_
  refine zaload_n (k := 2) rfl rfl ?_
  refine zgR 9 (k := 3) rfl ob_1 fl_11_23 rfl fx_1_9 ?_
  rw [h9]
  refine zpVI (k := 4) rfl (c_Reader_readWar hu hT hl hn0 ho) fm_Reader_readWar lk_11_114 rfl rfl ob_52 ⟨_, rfl, rfl⟩ (Nat.le_of_ble_eq_true rfl) (by decide) ⟨by decide, by decide⟩ (fun z1 σ1 h1 => ?_)
  have hfr : ∀ x k, ¬ (u ≤ x ∧ x ≤ u + 12) → x ≠ 52 → x ≠ 53 → σ1 x k = σ x k := fun x k a b c => by
    rcases h1 with ⟨_, A, J, K, p, σ5, _, _, g, rfl⟩ | ⟨_, k', pl, _, _, g⟩
    · rw [zrow_n (by omega), g.2.2.2.2.2 x k a c (by omega), zup_n (by omega)]
    · rw [g x k a c (by omega), zup_n (by omega)]
  refine zistore_n (k := 5) (ls' := [_, _, _]) rfl (Nat.le_of_ble_eq_true rfl) rfl ?_
  refine zaload_n (k := 6) rfl rfl ?_
  refine zgF 0 (k := 7) rfl ob_1 fl_11_10 rfl fx_1_0 ?_
  refine ziconst (k := 8) rfl (by decide) ?_
  refine zpI 1 (k := 9) rfl ob_2 fl_11_111 ⟨_, rfl, rfl⟩ rfl (by omega) rfl fx_2_1 ?_
  refine zaload_n (k := 10) rfl rfl ?_
  refine zaload_n (k := 11) rfl rfl ?_
  refine zgF 1 (k := 12) rfl ob_1 fl_11_41 rfl fx_1_1 ?_
  refine zgI 7 (k := 13) rfl ob_52 fl_11_118 rfl fx_52_7 ?_
  rw [zup_n (by omega)]
  refine zpI 11 (k := 14) rfl ob_1 fl_11_81 ⟨_, rfl, rfl⟩ rfl (by omega) rfl fx_1_11 ?_
  refine zaload_n (k := 15) rfl rfl ?_
  refine zaload_n (k := 16) rfl rfl ?_
  refine zgF 1 (k := 17) rfl ob_1 fl_11_41 rfl fx_1_1 ?_
  refine zgI 8 (k := 18) rfl ob_52 fl_11_119 rfl fx_52_8 ?_
  rw [zup_n (by omega), zup_n (by omega)]
  refine zpI 12 (k := 19) rfl ob_1 fl_11_84 ⟨_, rfl, rfl⟩ rfl (by omega) rfl fx_1_12 ?_
  refine ziload_n (k := 20) rfl rfl ?_
  refine zif_ne (k := 21) rfl rfl (fun c1 => ?_) (fun c1 => ?_)
  · skip
    obtain ⟨A, J, K, p, σ5, g1, g2, g3, g4⟩ := or_1 h1 (by assumption)
    have f7 : σ1 52 7 = 0 := by rw [g4, zrow_n (by omega)]; exact g3.1.1.2.1
    have f8 : σ1 52 8 = -1 := by rw [g4, zrow_n (by omega)]; exact g3.1.1.2.2
    clear h1
    rw [f7, f8]
    refine zaload_n (k := 27) rfl rfl ?_
    refine zgR 9 (k := 28) rfl ob_1 fl_11_23 rfl fx_1_9 ?_
    rw [show zup (zup (zup σ1 2 1 0) 1 11 0) 1 12 (-1) 1 9 = u by rw [zup_n (by omega), zup_n (by omega), zup_n (by omega), hfr 1 9 (by omega) (by omega) (by omega)]; exact h9]
    refine zastore_n (k := 29) (ls' := [_, _, _]) rfl (Nat.le_of_ble_eq_true rfl) rfl ?_
    refine zaload_n (k := 30) rfl rfl ?_
    refine zaload_n (k := 31) rfl rfl ?_
    refine zgR 8 (k := 32) rfl ob_1 fl_11_19 rfl fx_1_8 ?_
    rw [show zup (zup (zup σ1 2 1 0) 1 11 0) 1 12 (-1) 1 8 = w by rw [zup_n (by omega), zup_n (by omega), zup_n (by omega), hfr 1 8 (by omega) (by omega) (by omega)]; exact h8]
    refine zpR 9 (k := 33) rfl ob_1 fl_11_23 ⟨_, rfl, rfl⟩ rfl (by omega) rfl fx_1_9 ?_
    refine zaload_n (k := 34) rfl rfl ?_
    refine zaload_n (k := 35) rfl rfl ?_
    refine zpR 8 (k := 36) rfl ob_1 fl_11_19 ⟨_, rfl, rfl⟩ rfl (by omega) rfl fx_1_8 ?_
    refine zaload_n (k := 37) rfl rfl ?_
    refine zgF 6 (k := 38) rfl ob_1 fl_11_29 rfl fx_1_6 ?_
    refine zaload_n (k := 39) rfl rfl ?_
    refine zgR 8 (k := 40) rfl ob_1 fl_11_19 rfl fx_1_8 ?_
    rw [zup_s]
    have hW : vw 12 (zup (zup (zup (zup (zup σ1 2 1 0) 1 11 0) 1 12 (-1)) 1 9 w) 1 8 u) u = vw 12 (zrow σ5 (u + 12) (fwB (fwD (σ5 (u + 12)) (A 0 1).toNat) (A 0 1).toNat (A 0 1).toNat)) u := by rw [← g4]; exact vw_eq (fun x k q1 q2 => by rw [zup_n (by omega), zup_n (by omega), zup_n (by omega), zup_n (by omega), zup_n (by omega)]) (by omega)
    have hS1 : vw 10 (zup (zup (zup (zup (zup σ1 2 1 0) 1 11 0) 1 12 (-1)) 1 9 w) 1 8 u) 30 = S := by rw [← hS]; exact vw_eq (fun x k q1 q2 => by rw [zup_n (by omega), zup_n (by omega), zup_n (by omega), zup_n (by omega), zup_n (by omega)]; exact hfr x k (by omega) (by omega) (by omega)) (by omega)
    refine zpV0 (k := 41) rfl (k_start30 hu hW hS1 hZ) fm_State_start lk_11_120 rfl rfl ob_30 ⟨_, rfl, rfl⟩ (Nat.le_of_ble_eq_true rfl) (by decide) ⟨by decide, by decide⟩ (fun σ2 h2 => ?_)
    refine zaload_n (k := 42) rfl rfl ?_
    refine zgF 4 (k := 43) rfl ob_1 fl_11_64 rfl fx_1_4 ?_
    refine zfV0 (k := 44) rfl c_Acts_forget fm_Acts_forget lk_11_124 rfl rfl ob_62 ⟨_, rfl, rfl⟩ (Nat.le_of_ble_eq_true rfl) (by decide) ⟨by decide, by decide⟩ ?_
    refine zaload_n (k := 45) rfl rfl ?_
    refine ziconst (k := 46) rfl (by decide) ?_
    refine zpI 15 (k := 47) rfl ob_1 fl_11_94 ⟨_, rfl, rfl⟩ rfl (by omega) rfl fx_1_15 ?_
    refine zaload_n (k := 48) rfl rfl ?_
    refine zgR 8 (k := 49) rfl ob_1 fl_11_19 rfl fx_1_8 ?_
    rw [show zup (zup σ2 62 2 0) 1 15 0 1 8 = u by rw [zup_n (by omega), zup_n (by omega), h2.2 1 8 (by omega) (by omega) (by omega), zup_s]]
    refine zgI 0 (k := 50) rfl (wr_ob hu) fl_11_127 rfl (wr_fx_0 hu) ?_
    have hz : zup (zup σ2 62 2 0) 1 15 0 u 0 = A 0 0 := by
      rw [zup_n (by omega), zup_n (by omega), h2.2 u 0 (by omega) (by omega) (by omega), zup_n (by omega), zup_n (by omega), zup_n (by omega), zup_n (by omega), zup_n (by omega), g4, zrow_n (by omega)]
      exact g3.2.2.1.1 0 (by omega) (by omega)
    rw [hz]
    refine zireturn (k := 51) rfl rfl rfl ?_
    rw [← hQ]
    refine ⟨rfl, _, rfl, Or.inr ⟨A, J, K, p, σ5, g1, g2, g3, rfl, ?_, ?_, ?_, ?_, ?_, ?_, zup_s _ _ _ _, ?_, ?_, fun x j a b c d e f g h i => ?_⟩⟩
    · rw [← hW]; exact vw_eq (fun x k q1 q2 => by rw [zup_n (by omega), zup_n (by omega), h2.2 x k (by omega) (by omega) (by omega)]) (by omega)
    · rw [← h2.1]; exact vw_eq (fun x k q1 q2 => by rw [zup_n (by omega), zup_n (by omega)]) (by omega)
    · rw [zup_n (by omega), zup_n (by omega), h2.2 1 8 (by omega) (by omega) (by omega), zup_s]
    · rw [zup_n (by omega), zup_n (by omega), h2.2 1 9 (by omega) (by omega) (by omega), zup_n (by omega), zup_s]
    · rw [zup_n (by omega), zup_n (by omega), h2.2 1 11 (by omega) (by omega) (by omega), zup_n (by omega), zup_n (by omega), zup_n (by omega), zup_s]
    · rw [zup_n (by omega), zup_n (by omega), h2.2 1 12 (by omega) (by omega) (by omega), zup_n (by omega), zup_n (by omega), zup_s]
    · rw [zup_n (by omega), zup_n (by omega), h2.2 2 1 (by omega) (by omega) (by omega), zup_n (by omega), zup_n (by omega), zup_n (by omega), zup_n (by omega), zup_s]
    · rw [zup_n (by omega), zup_s]
    · rw [zup_n (by omega), zup_n (by omega), h2.2 x j (by omega) (by omega) (by omega), zup_n (by omega), zup_n (by omega), zup_n (by omega), zup_n (by omega), zup_n (by omega)]; exact hfr x j a c d
  · skip
    refine zaload_n (k := 22) rfl rfl ?_
    refine ziconst (k := 23) rfl (by decide) ?_
    refine zfV0 (k := 24) rfl (c_NT_refuse (by omega)) fm_NT_refuse lk_11_104 rfl rfl ob_1 ⟨_, rfl, rfl⟩ (Nat.le_of_ble_eq_true rfl) (by decide) ⟨by decide, by decide⟩ ?_
    refine ziconst (k := 25) rfl (by decide) ?_
    refine zireturn (k := 26) rfl rfl rfl ?_
    rw [← hQ]
    obtain ⟨k, pl, g1, g2, g3⟩ := or_0 h1 (by assumption)
    refine ⟨rfl, _, rfl, Or.inl ⟨k, pl, g1, rfl, ?_, ?_, ?_, ?_, fun x j a b c d e f => ?_⟩⟩
    · unfold rfu; rw [zup_n (by omega), zup_n (by omega), zup_s]; exact g2.1
    · unfold rfu; rw [zup_n (by omega), zup_s]; exact g2.2
    · unfold rfu; rw [zup_n (by omega), zup_n (by omega), zup_n (by omega), zup_s]
    · unfold rfu; rw [zup_s, zup_n (by omega), zup_n (by omega), zup_n (by omega), hfr 288 1 (by omega) (by omega) (by omega)]
    · unfold rfu; rw [zup_n (by omega), zup_n (by omega), zup_n (by omega), zup_n (by omega)]; exact hfr x j a b c
