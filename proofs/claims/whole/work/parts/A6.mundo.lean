set_option maxHeartbeats 4000000 in
set_option maxRecDepth 20000 in
theorem c_M_undo {Γ : zv_M} {L : Int} {σ Wm S : zv_H} {b : Int} (hb1 : b = 0 ∨ b = 1) (h0 : stM σ σ b 0 Wm S) (hSI : SI (Wm 0 1) (Wm 0 3) S) (hWI : WI Wm) {l : List zv_H} (hac : acM σ (Wm 0 1) (Wm 0 3) l)  : zC Γ m_M_undo 3 0 0 (GM L) [zR 289] σ (zPI (GM L) (fun z σ' => (l = [] ∧ z = 0 ∧ σ' = rfM σ 4) ∨ (∃ T r, l = T :: r ∧ z = 1 ∧ actP σ σ' b Wm T r))) := by
  refine zC_of (ls0 := [_]) zm_M_undo (by decide) rfl (Nat.le_of_ble_eq_true rfl) ?_
  generalize hQ : (zPI (GM L) (fun z σ' => (l = [] ∧ z = 0 ∧ σ' = rfM σ 4) ∨ (∃ T r, l = T :: r ∧ z = 1 ∧ actP σ σ' b Wm T r))) = Q
  have hb := h0.2.2.1
  have w1 := hWI.1
  have w3 := hWI.2.2.1
  have r0 := rM_0 h0.1
  have b00 := hSI.1
  have b12 := hSI.2.2.1
  have bc := hSI.2.2.2.1
  have bm := hSI.2.2.2.2.1
  have bl := hSI.2.2.2.2.2.1
  have hl20 := hac.1.2
  have u20 := hac.2.1
  refine zaload_n (k := 0) rfl rfl ?_
  refine zgI 58 (k := 1) rfl ob_289 fl_12_189 rfl fx_289_58 ?_
  rw [hac.1.1]
  refine zif_ne (k := 2) rfl rfl (fun c1 => ?_) (fun c1 => ?_)
  · skip
    obtain ⟨T, r, hl⟩ : ∃ T r, l = T :: r := by
      cases l with
      | nil => exact absurd rfl (by assumption)
      | cons T r => exact ⟨T, r, rfl⟩
    have hlr : (l.length : Int) = (r.length : Int) + 1 := by rw [hl]; rfl
    have ar := hac.2.2 0 T (by rw [hl]; rfl)
    rw [show σ 289 57 + (l.length : Int) - 1 - ((0 : Nat) : Int) = σ 289 57 + (r.length : Int) by omega] at ar
    refine zaload_n (k := 11) rfl rfl ?_
    refine zdup (k := 12) rfl rfl ?_
    refine zgI 58 (k := 13) rfl ob_289 fl_12_189 rfl fx_289_58 ?_
    rw [hac.1.1, hlr]
    refine ziconst (k := 14) rfl (by decide) ?_
    refine zisubB (k := 15) rfl (by omega) ?_
    rw [show (r.length : Int) + 1 - 1 = r.length by omega]
    refine zpI 58 (k := 16) rfl ob_289 fl_12_189 ⟨_, rfl, rfl⟩ rfl (by omega) rfl fx_289_58 ?_
    have g1 : rM (zup σ 289 58 (r.length : Int)) (Wm 0 1) (Wm 0 3) (2 + (σ 289 57 + (r.length : Int)) % 20) T := rM_x ar.1 (fun x k q1 q2 => zup_n (by omega))
    have g2 : wM (zup σ 289 58 (r.length : Int)) b Wm := wM_fr h0.2.1 (fun x k q1 q2 => zup_n (by omega))
    have g3 : zup σ 289 58 (r.length : Int) 289 13 = b := by rw [zup_n (by omega)]; exact hb
    refine zaload_n (k := 17) rfl rfl ?_
    refine ziconst (k := 18) rfl (by decide) ?_
    refine zaload_n (k := 19) rfl rfl ?_
    refine zaload_n (k := 20) rfl rfl ?_
    refine zgI 58 (k := 21) rfl ob_289 fl_12_189 rfl fx_289_58 ?_
    rw [zup_s]
    refine zfV1 (k := 22) rfl (c_M_slot (by rw [zup_n (by omega)]; exact u20) (by omega)) fm_M_slot lk_12_417 rfl rfl ob_289 ⟨_, rfl, rfl⟩ (Nat.le_of_ble_eq_true rfl) (by decide) ⟨by decide, by decide⟩ ?_
    rw [zup_n (by omega)]
    refine zpV0 (k := 23) rfl (k_mcopy (t := 0) ⟨by omega, by omega⟩ (by omega) (by omega) g1 g2 g3 hWI ar.2) fm_M_copies lk_12_420 rfl rfl ob_289 ⟨_, rfl, rfl⟩ (Nat.le_of_ble_eq_true rfl) (by decide) ⟨by decide, by decide⟩ (fun σ2 h2 => ?_)
    refine ziconst (k := 24) rfl (by decide) ?_
    refine zzreturn (k := 25) rfl rfl (by first | exact Or.inl rfl | exact Or.inr rfl | omega) rfl ?_
    rw [← hQ]
    refine ⟨rfl, _, rfl, Or.inr ⟨T, r, hl, rfl, stM_self h2, ?_, fun x k a c => ?_⟩⟩
    · have e57 : σ2 289 57 = σ 289 57 := by rw [h2.2.2.2 289 57 (by unfold inV; omega) (by omega) (by omega), zup_n (by omega)]
      refine ⟨⟨by rw [h2.2.2.2 289 58 (by unfold inV; omega) (by omega) (by omega), zup_s], by omega⟩, by rw [e57]; exact u20, fun j U hj => ?_⟩
      have q := hac.2.2 (j + 1) U (by rw [hl]; exact hj)
      have hlt : j < r.length := (List.getElem?_eq_some_iff.mp hj).1
      rw [show σ 289 57 + (l.length : Int) - 1 - ((j + 1 : Nat) : Int) = σ 289 57 + (r.length : Int) - 1 - (j : Int) by omega] at q
      rw [e57]
      refine ⟨rM_v q.1 w1.2 w3.2 q.2.2 (fun x k i => ?_), q.2⟩
      rw [h2.2.2.2 x k (inV_d i (by omega)) (by unfold inV at i; omega) (by unfold inV at i; omega), zup_n (by unfold inV at i; omega)]
    · rw [h2.2.2.2 x k (by unfold inV; omega) (by omega) (by omega), zup_n (by omega)]
  · skip
    refine zaload_n (k := 3) rfl rfl ?_
    refine ziconst (k := 4) rfl (by decide) ?_
    refine zfV1 (k := 5) rfl (c_M_refuses (by omega)) fm_M_refuses lk_12_231 rfl rfl ob_289 ⟨_, rfl, rfl⟩ (Nat.le_of_ble_eq_true rfl) (by decide) ⟨by decide, by decide⟩ ?_
    refine zif_lt (k := 6) rfl rfl (fun c2 => ?_) (fun c2 => ?_)
    · skip
      refine ziconst (k := 9) rfl (by decide) ?_
      refine zzreturn (k := 10) rfl rfl (by first | exact Or.inl rfl | exact Or.inr rfl | omega) rfl ?_
      rw [← hQ]
      first
      | (exfalso; omega)
      | exact ⟨rfl, _, rfl, Or.inl ⟨List.eq_nil_of_length_eq_zero (by omega), rfl, rfl⟩⟩
    · skip
      refine ziconst (k := 7) rfl (by decide) ?_
      refine zgoto (k := 8) rfl rfl ?_
      refine zzreturn (k := 10) rfl rfl (by first | exact Or.inl rfl | exact Or.inr rfl | omega) rfl ?_
      rw [← hQ]
      first
      | (exfalso; omega)
      | exact ⟨rfl, _, rfl, Or.inl ⟨List.eq_nil_of_length_eq_zero (by omega), rfl, rfl⟩⟩
