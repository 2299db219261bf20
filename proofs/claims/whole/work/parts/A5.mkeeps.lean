theorem acM_push {σ σ2 σ3 S : zv_H} {nc nm : Int} {l : List zv_H} (hac : acM σ nc nm l) (hl : l.length < 20) (hnc : nc ≤ 7) (hnm : nm ≤ 6) (h12 : 0 ≤ S 0 12 ∧ S 0 12 ≤ 60) (hr : rM σ2 nc nm (2 + (σ 289 57 + (l.length : Int)) % 20) S) (hm : mfr (2 + (σ 289 57 + (l.length : Int)) % 20) σ σ2) (h3 : σ3 = zup σ2 289 58 ((l.length : Int) + 1)) : acM σ3 nc nm (S :: l) := by
  obtain ⟨h1, h2, h4⟩ := hac
  have e57 : σ3 289 57 = σ 289 57 := by rw [h3, zup_n (by omega), hm 289 57 (by unfold inV; omega) (by omega) (by omega)]
  refine ⟨⟨by rw [h3, zup_s]; rfl, by show l.length + 1 ≤ 20; omega⟩, by rw [e57]; exact h2, fun j T hj => ?_⟩
  rw [e57]
  cases j with
  | zero =>
    cases hj
    refine ⟨?_, h12⟩
    rw [show σ 289 57 + (((S :: l).length : Nat) : Int) - 1 - ((0 : Nat) : Int) = σ 289 57 + (l.length : Int) by show σ 289 57 + ((l.length + 1 : Nat) : Int) - 1 - ((0 : Nat) : Int) = _; omega]
    rw [h3]
    exact rM_x hr (fun x k q1 q2 => zup_n (by omega))
  | succ j =>
    have hj2 : l[j]? = some T := hj
    have hlt : j < l.length := (List.getElem?_eq_some_iff.mp hj2).1
    obtain ⟨r, r2⟩ := h4 j T hj2
    refine ⟨?_, r2⟩
    rw [show σ 289 57 + (((S :: l).length : Nat) : Int) - 1 - ((j + 1 : Nat) : Int) = σ 289 57 + (l.length : Int) - 1 - (j : Int) by show σ 289 57 + ((l.length + 1 : Nat) : Int) - 1 - ((j + 1 : Nat) : Int) = _; omega]
    refine rM_v r hnc hnm r2.2 (fun x k q => ?_)
    rw [h3, zup_n (by unfold inV at q; omega)]
    exact hm x k (inV_d q (by omega)) (by unfold inV at q; omega) (by unfold inV at q; omega)
theorem acM_drop {σ σ1 : zv_H} {nc nm : Int} {l : List zv_H} (hac : acM σ nc nm l) (hl : l.length = 20) (h1 : σ1 = zup (zup σ 289 57 ((σ 289 57 + 1) % 20)) 289 58 19) : acM σ1 nc nm (l.take 19) := by
  obtain ⟨h2, h3, h4⟩ := hac
  have hlen : (l.take 19).length = 19 := by rw [List.length_take, hl]; rfl
  have e57 : σ1 289 57 = (σ 289 57 + 1) % 20 := by rw [h1, zup_n (by omega), zup_s]
  refine ⟨⟨by rw [h1, zup_s, hlen]; rfl, by rw [hlen]; decide⟩, by rw [e57]; omega, fun j T hj => ?_⟩
  rw [e57, hlen]
  have hlt : j < (l.take 19).length := (List.getElem?_eq_some_iff.mp hj).1
  rw [hlen] at hlt
  rw [List.getElem?_take, if_pos hlt] at hj
  obtain ⟨r, r2⟩ := h4 j T hj
  rw [hl] at r
  refine ⟨?_, r2⟩
  rw [show 2 + ((σ 289 57 + 1) % 20 + ((19 : Nat) : Int) - 1 - (j : Int)) % 20 = 2 + (σ 289 57 + ((20 : Nat) : Int) - 1 - (j : Int)) % 20 by omega, h1]
  exact rM_x r (fun x k q1 q2 => by rw [zup_n (by omega), zup_n (by omega)])
set_option maxHeartbeats 4000000 in
set_option maxRecDepth 20000 in
theorem c_M_keeps {Γ : zv_M} {L : Int} {σ Wm S : zv_H} {b : Int} (hb1 : b = 0 ∨ b = 1) (h0 : stM σ σ b 0 Wm S) (hSI : SI (Wm 0 1) (Wm 0 3) S) (hWI : WI Wm) {l : List zv_H} (hac : acM σ (Wm 0 1) (Wm 0 3) l)  : zC Γ m_M_keeps 3 0 0 (GM L) [zR 289] σ (zP0 (GM L) (fun σ' => actP σ σ' b Wm S ((S :: l).take 20))) := by
  refine zC_of (ls0 := [_]) zm_M_keeps (by decide) rfl (Nat.le_of_ble_eq_true rfl) ?_
  generalize hQ : (zP0 (GM L) (fun σ' => actP σ σ' b Wm S ((S :: l).take 20))) = Q
  have hb := h0.2.2.1
  have w1 := hWI.1
  have w3 := hWI.2.2.1
  have r0 := rM_0 h0.1
  have b00 := hSI.1
  have b12 := hSI.2.2.1
  have bc := hSI.2.2.2.1
  have bm := hSI.2.2.2.2.1
  have bl := hSI.2.2.2.2.2.1
  have hl20 := hac.1.2
  have u20 := hac.2.1
  have cut32 : ∀ (σ1 : zv_H) (l1 : List zv_H), (stM σ1 σ1 b 0 Wm S) → (acM σ1 (Wm 0 1) (Wm 0 3) l1) → (l1.length < 20) → (frA σ σ1) → ((S :: l).take 20 = S :: l1) → zV Γ m_M_keeps 3 0 0 Q (GM L) (0, 0) 32 [some (zR 289)] [] σ1 := by
    intro σ1 l1 h1 ha1 hl1 hf1 he1
    have u1 := ha1.2.1
    refine zaload_n (k := 18) rfl rfl ?_
    refine zaload_n (k := 19) rfl rfl ?_
    refine zaload_n (k := 20) rfl rfl ?_
    refine zgI 58 (k := 21) rfl ob_289 fl_12_189 rfl fx_289_58 ?_
    rw [ha1.1.1]
    refine zfV1 (k := 22) rfl (c_M_slot u1 (by omega)) fm_M_slot lk_12_417 rfl rfl ob_289 ⟨_, rfl, rfl⟩ (Nat.le_of_ble_eq_true rfl) (by decide) ⟨by decide, by decide⟩ ?_
    refine ziconst (k := 23) rfl (by decide) ?_
    refine zpV0 (k := 24) rfl (k_mcopy (f := 0) (by omega) ⟨by omega, by omega⟩ (by omega) h1.1 h1.2.1 h1.2.2.1 hWI b12) fm_M_copies lk_12_420 rfl rfl ob_289 ⟨_, rfl, rfl⟩ (Nat.le_of_ble_eq_true rfl) (by decide) ⟨by decide, by decide⟩ (fun σ2 h2 => ?_)
    refine zaload_n (k := 25) rfl rfl ?_
    refine zdup (k := 26) rfl rfl ?_
    refine zgI 58 (k := 27) rfl ob_289 fl_12_189 rfl fx_289_58 ?_
    rw [h2.2.2.2 289 58 (by unfold inV; omega) (by omega) (by omega), ha1.1.1]
    refine ziconst (k := 28) rfl (by decide) ?_
    refine ziaddB (k := 29) rfl (by omega) ?_
    refine zpI 58 (k := 30) rfl ob_289 fl_12_189 ⟨_, rfl, rfl⟩ rfl (by omega) rfl fx_289_58 ?_
    refine zreturn (k := 31) rfl rfl rfl ?_
    rw [← hQ]
    refine ⟨rfl, rfl, ?_⟩
    rw [he1]
    have m0 : mfr (2 + (σ1 289 57 + (l1.length : Int)) % 20) σ1 σ2 := h2.2.2.2
    refine ⟨⟨rM_v h1.1 w1.2 w3.2 b12.2 (fun x k q => ?_), wM_fr h1.2.1 (fun x k q1 q2 => ?_), ?_, fun _ _ _ _ _ => rfl⟩, acM_push ha1 hl1 w1.2 w3.2 b12 h2.1 m0 rfl, frA_tr hf1 (fun x k a c => ?_)⟩
    · rw [zup_n (by unfold inV at q; omega)]; exact m0 x k (inV_d q (by omega)) (by unfold inV at q; omega) (by unfold inV at q; omega)
    · rw [zup_n (by omega)]; exact m0 x k (by unfold inV; omega) (by omega) (by omega)
    · rw [zup_n (by omega), m0 289 13 (by unfold inV; omega) (by omega) (by omega)]; exact h1.2.2.1
    · rw [zup_n (by omega)]; exact m0 x k (by unfold inV; omega) (by omega) (by omega)
  refine zaload_n (k := 0) rfl rfl ?_
  refine zgI 58 (k := 1) rfl ob_289 fl_12_189 rfl fx_289_58 ?_
  rw [hac.1.1]
  refine zbipush (k := 2) rfl rfl ?_
  refine zicmp_ne (k := 3) rfl rfl (fun c1 => ?_) (fun c1 => ?_)
  · skip
    first
    | exact cut32 σ l h0 hac (by omega) (frA_rf σ) (take_20 (by omega))
    | (have e20 : l.length = 20 := by omega
       rw [show (l.length : Int) - 1 = 19 by omega]
       refine cut32 _ (l.take 19) ⟨rM_x h0.1 (fun x k q1 q2 => by rw [zup_n (by omega), zup_n (by omega)]), wM_fr h0.2.1 (fun x k q1 q2 => by rw [zup_n (by omega), zup_n (by omega)]), by rw [zup_n (by omega), zup_n (by omega)]; exact hb, fun _ _ _ _ _ => rfl⟩ (acM_drop hac e20 rfl) (by rw [List.length_take, e20]; decide) (fun x k a c => by rw [zup_n (by omega), zup_n (by omega)]) take_19)
  · skip
    refine zaload_n (k := 4) rfl rfl ?_
    refine zaload_n (k := 5) rfl rfl ?_
    refine zgI 57 (k := 6) rfl ob_289 fl_12_186 rfl fx_289_57 ?_
    refine ziconst (k := 7) rfl (by decide) ?_
    refine ziaddB (k := 8) rfl (by omega) ?_
    refine zbipush (k := 9) rfl rfl ?_
    refine ziremP (k := 10) rfl (by omega) ?_
    refine zpI 57 (k := 11) rfl ob_289 fl_12_186 ⟨_, rfl, rfl⟩ rfl (by omega) rfl fx_289_57 ?_
    refine zaload_n (k := 12) rfl rfl ?_
    refine zdup (k := 13) rfl rfl ?_
    refine zgI 58 (k := 14) rfl ob_289 fl_12_189 rfl fx_289_58 ?_
    rw [zup_n (by omega), hac.1.1]
    refine ziconst (k := 15) rfl (by decide) ?_
    refine zisubB (k := 16) rfl (by omega) ?_
    refine zpI 58 (k := 17) rfl ob_289 fl_12_189 ⟨_, rfl, rfl⟩ rfl (by omega) rfl fx_289_58 ?_
    first
    | exact cut32 σ l h0 hac (by omega) (frA_rf σ) (take_20 (by omega))
    | (have e20 : l.length = 20 := by omega
       rw [show (l.length : Int) - 1 = 19 by omega]
       refine cut32 _ (l.take 19) ⟨rM_x h0.1 (fun x k q1 q2 => by rw [zup_n (by omega), zup_n (by omega)]), wM_fr h0.2.1 (fun x k q1 q2 => by rw [zup_n (by omega), zup_n (by omega)]), by rw [zup_n (by omega), zup_n (by omega)]; exact hb, fun _ _ _ _ _ => rfl⟩ (acM_drop hac e20 rfl) (by rw [List.length_take, e20]; decide) (fun x k a c => by rw [zup_n (by omega), zup_n (by omega)]) take_19)
