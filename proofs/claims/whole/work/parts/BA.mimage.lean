/-! AN IMAGE: the model writes -/
theorem wrtm_add {σ0 σ : zv_H} {v : Int} {l : List Int} (h : wrt σ0 σ 334 289 71 l) : wrt σ0 (zup (zup σ 334 (l.length : Int) v) 289 71 ((l.length : Int) + 1)) 334 289 71 (l ++ [v]) := by
  have q := wrt_add (v := v) (by omega) h
  rw [h.1] at q
  exact q
set_option maxHeartbeats 4000000 in
set_option maxRecDepth 20000 in
theorem c_M_writes {Γ : zv_M} {L : Int} {σ0 σ : zv_H} {v : Int} {l : List Int} (h0_q : wrt σ0 σ 334 289 71 l) (hl : l.length ≤ 115) (hv : 0 ≤ v ∧ v ≤ 65535) : zC Γ m_M_writes 0 0 0 (GM L) [zR 289, zI v] σ (zP0 (GM L) (fun σ' => wrt σ0 σ' 334 289 71 (l ++ [v % 256]))) := by
  refine zC_of (ls0 := [_, _]) zm_M_writes (by decide) rfl (Nat.le_of_ble_eq_true rfl) ?_
  generalize hQ : (zP0 (GM L) (fun σ' => wrt σ0 σ' 334 289 71 (l ++ [v % 256]))) = Q
  refine zaload_n (k := 0) rfl rfl ?_
  refine zgF 70 (k := 1) rfl ob_289 fl_12_225 rfl fx_289_70 ?_
  refine zaload_n (k := 2) rfl rfl ?_
  refine zgI 71 (k := 3) rfl ob_289 fl_12_228 rfl fx_289_71 ?_
  rw [h0_q.1]
  refine ziload_n (k := 4) rfl rfl ?_
  refine zsipush (k := 5) rfl rfl ?_
  refine ziandM (k := 6) 8 rfl (by decide) rfl 256 rfl ?_
  refine ziastore (k := 7) rfl ar_334 ⟨by omega, by omega⟩ (by omega) ?_
  refine zaload_n (k := 8) rfl rfl ?_
  refine zdup (k := 9) rfl rfl ?_
  refine zgI 71 (k := 10) rfl ob_289 fl_12_228 rfl fx_289_71 ?_
  rw [zup_n (by omega), h0_q.1]
  refine ziconst (k := 11) rfl (by decide) ?_
  refine ziaddB (k := 12) rfl (by omega) ?_
  refine zpI 71 (k := 13) rfl ob_289 fl_12_228 ⟨_, rfl, rfl⟩ rfl (by omega) rfl fx_289_71 ?_
  refine zreturn (k := 14) rfl rfl rfl ?_
  rw [← hQ]
  exact ⟨rfl, rfl, wrtm_add h0_q⟩
set_option maxHeartbeats 4000000 in
set_option maxRecDepth 20000 in
theorem c_M_writesTwo {Γ : zv_M} {L : Int} {σ0 σ : zv_H} {v : Int} {l : List Int} (h0_q : wrt σ0 σ 334 289 71 l) (hl : l.length ≤ 114) (hv : 0 ≤ v ∧ v ≤ 65535) : zC Γ m_M_writesTwo 1 0 0 (GM L) [zR 289, zI v] σ (zP0 (GM L) (fun σ' => wrt σ0 σ' 334 289 71 (l ++ [v / 256, v % 256]))) := by
  refine zC_of (ls0 := [_, _]) zm_M_writesTwo (by decide) rfl (Nat.le_of_ble_eq_true rfl) ?_
  generalize hQ : (zP0 (GM L) (fun σ' => wrt σ0 σ' 334 289 71 (l ++ [v / 256, v % 256]))) = Q
  refine zaload_n (k := 0) rfl rfl ?_
  refine ziload_n (k := 1) rfl rfl ?_
  refine zbipush (k := 2) rfl rfl ?_
  refine zishr (k := 3) rfl ?_
  rw [zshr_k (y := 8) 8 (by omega) rfl (by omega), show (2 : Int) ^ 8 = 256 from rfl]
  refine zpV0 (k := 4) rfl (c_M_writes h0_q (by omega) (by omega)) fm_M_writes lk_12_539 rfl rfl ob_289 ⟨_, rfl, rfl⟩ (Nat.le_of_ble_eq_true rfl) (by decide) ⟨by decide, by decide⟩ (fun σn hh => ?_)
  clear h0_q
  have h0_q := hh
  clear hh
  refine zaload_n (k := 5) rfl rfl ?_
  refine ziload_n (k := 6) rfl rfl ?_
  refine zpV0 (k := 7) rfl (c_M_writes h0_q (by first | omega | (simp only [List.length_append, List.length_cons, List.length_nil, imgH_l, imgC_l, imgP_l, imgK_l]; omega)) (by omega)) fm_M_writes lk_12_539 rfl rfl ob_289 ⟨_, rfl, rfl⟩ (Nat.le_of_ble_eq_true rfl) (by decide) ⟨by decide, by decide⟩ (fun σn hh => ?_)
  clear h0_q
  have h0_q := hh
  clear hh
  refine zreturn (k := 8) rfl rfl rfl ?_
  rw [← hQ]
  exact ⟨rfl, rfl, by rw [List.append_assoc, show v / 256 % 256 = v / 256 by omega] at h0_q; exact h0_q⟩
theorem stM_o {σ σn Wm S : zv_H} {b : Int} {l : List Int} (h : stM σ σ b 0 Wm S) (hw : wrt σ σn 334 289 71 l) : stM σn σn b 0 Wm S := ⟨rM_x h.1 (fun x k q1_q q2_q => hw.2.2 x k (by omega) (by omega)), wM_fr h.2.1 (fun x k q1_q q2_q => hw.2.2 x k (by omega) (by omega)), by rw [hw.2.2 289 13 (by omega) (by omega)]; exact h.2.2.1, fun _ _ _ _ _ => rfl⟩
set_option maxHeartbeats 4000000 in
set_option maxRecDepth 20000 in
theorem c_M_image {Γ : zv_M} {L : Int} {σ Wm S : zv_H} {b : Int} (hb1_q : b = 0 ∨ b = 1) (h0_q : stM σ σ b 0 Wm S) (hSI : SI (Wm 0 1) (Wm 0 3) S) (hWI : WI Wm)  : zC Γ m_M_image 3 0 0 (GM L) [zR 289] σ (zPI (GM L) (fun z σ' => z = ((imgL Wm S).length : Int) ∧ wrt σ σ' 334 289 71 (imgL Wm S))) := by
  refine zC_of (ls0 := [_, _, _]) zm_M_image (by decide) rfl (Nat.le_of_ble_eq_true rfl) ?_
  generalize hQ : (zPI (GM L) (fun z σ' => z = ((imgL Wm S).length : Int) ∧ wrt σ σ' 334 289 71 (imgL Wm S))) = Q
  have hb := h0_q.2.2.1
  have w1_q := hWI.1
  have w3_q := hWI.2.2.1
  have r0_q := rM_0 h0_q.1
  have b00_q := hSI.1
  have b12_q := hSI.2.2.1
  have bc := hSI.2.2.2.1
  have bm := hSI.2.2.2.2.1
  have bl := hSI.2.2.2.2.2.1
  have g0_q := h0_q
  have hnc : (Wm 0 1).toNat ≤ 7 := by omega
  have hnm : (Wm 0 3).toNat ≤ 6 := by omega
  have e256_q : ∀ v : Int, 0 ≤ v → v ≤ 255 → v % 256 = v := fun v q1_q q2_q => by omega
  refine zaload_n (k := 0) rfl rfl ?_
  refine ziconst (k := 1) rfl (by decide) ?_
  refine zpI 71 (k := 2) rfl ob_289 fl_12_228 ⟨_, rfl, rfl⟩ rfl (by omega) rfl fx_289_71 ?_
  clear h0_q r0_q
  have h0_q : wrt σ (zup σ 289 71 0) 334 289 71 [] := ⟨by rw [zup_s]; rfl, fun i hi => absurd hi (Nat.not_lt_zero _), fun x k q1_q q2_q => zup_n q2_q⟩
  have s1_q := stM_o g0_q h0_q
  have r1_q := rM_0 s1_q.1
  have hb := s1_q.2.2.1
  refine zaload_n (k := 3) rfl rfl ?_
  refine zaload_n (k := 4) rfl rfl ?_
  refine zgF 45 (k := 5) rfl ob_289 fl_12_150 rfl fx_289_45 ?_
  refine ziconst (k := 6) rfl (by decide) ?_
  refine ziaload (k := 7) rfl ar_315 ⟨by omega, by omega⟩ ?_
  rw [r1_q.1.1]
  refine zpV0 (k := 8) rfl (c_M_writesTwo h0_q (by first | omega | (simp only [List.length_append, List.length_cons, List.length_nil, imgH_l, imgC_l, imgP_l, imgK_l]; omega)) (by omega)) fm_M_writesTwo lk_12_542 rfl rfl ob_289 ⟨_, rfl, rfl⟩ (Nat.le_of_ble_eq_true rfl) (by decide) ⟨by decide, by decide⟩ (fun σn hh => ?_)
  clear h0_q
  have h0_q := hh
  clear hh
  have s1_q := stM_o g0_q h0_q
  have r1_q := rM_0 s1_q.1
  have hb := s1_q.2.2.1
  refine ziconst (k := 9) rfl (by decide) ?_
  refine zistore_n (k := 10) (ls' := [_, _, _]) rfl (Nat.le_of_ble_eq_true rfl) rfl ?_
  have lp17_q : ∀ (g : Nat) (j : Nat) (σn : zv_H), ((Wm 0 1).toNat - j) < g → ((j : Int) ≤ Wm 0 1) → ((wrt σ σn 334 289 71 (imgH S ++ imgC S j))) → zV Γ m_M_image 3 0 0 Q (GM L) (0, 0) 17 [some (zR 289), some (zI j), none] [] σn := by
    intro g
    induction g with
    | zero => intro j σn hg; exact absurd hg (Nat.not_lt_zero _)
    | succ g ih17_q =>
      intro j σn hg hj h0_q
      have s1_q := stM_o g0_q h0_q
      have r1_q := rM_0 s1_q.1
      have hb := s1_q.2.2.1
      refine ziload_n (k := 11) rfl rfl ?_
      refine zaload_n (k := 12) rfl rfl ?_
      refine zgF 14 (k := 13) rfl ob_289 fl_12_54 rfl fx_289_14 ?_
      refine zaload_n (k := 14) rfl rfl ?_
      refine zgI 13 (k := 15) rfl ob_289 fl_12_51 rfl fx_289_13 ?_
      rw [hb]
      refine ziaload (k := 16) rfl ar_291 ⟨by omega, by omega⟩ ?_
      rw [s1_q.2.1.1.1]
      refine zicmp_ge (k := 17) rfl rfl (fun c1_q => ?_) (fun c1_q => ?_)
      · skip
        rw [show j = (Wm 0 1).toNat by omega] at h0_q
        refine ziconst (k := 38) rfl (by decide) ?_
        refine zistore_n (k := 39) (ls' := [_, _, _]) rfl (Nat.le_of_ble_eq_true rfl) rfl ?_
        have lp68_q : ∀ (g : Nat) (m : Nat) (σn : zv_H), ((Wm 0 3).toNat - m) < g → ((m : Int) ≤ Wm 0 3) → ((wrt σ σn 334 289 71 (imgH S ++ (imgC S (Wm 0 1).toNat ++ imgM S (Wm 0 1).toNat m)))) → zV Γ m_M_image 3 0 0 Q (GM L) (0, 0) 68 [some (zR 289), some (zI m), none] [] σn := by
          intro g
          induction g with
          | zero => intro m σn hg; exact absurd hg (Nat.not_lt_zero _)
          | succ g ih68_q =>
            intro m σn hg hm h0_q
            have ml := imgM_l S hnc m
            have s1_q := stM_o g0_q h0_q
            have r1_q := rM_0 s1_q.1
            have hb := s1_q.2.2.1
            refine ziload_n (k := 40) rfl rfl ?_
            refine zaload_n (k := 41) rfl rfl ?_
            refine zgF 21 (k := 42) rfl ob_289 fl_12_75 rfl fx_289_21 ?_
            refine zaload_n (k := 43) rfl rfl ?_
            refine zgI 13 (k := 44) rfl ob_289 fl_12_51 rfl fx_289_13 ?_
            rw [hb]
            refine ziaload (k := 45) rfl ar_298 ⟨by omega, by omega⟩ ?_
            rw [s1_q.2.1.1.2.2.1]
            refine zicmp_ge (k := 46) rfl rfl (fun c2_q => ?_) (fun c2_q => ?_)
            · skip
              rw [show m = (Wm 0 3).toNat by omega] at h0_q
              refine zsipush (k := 116) rfl rfl ?_
              refine zistore_n (k := 117) (ls' := [_, _, _]) rfl (Nat.le_of_ble_eq_true rfl) rfl ?_
              refine ziconst (k := 118) rfl (by decide) ?_
              refine zistore_n (k := 119) (ls' := [_, _, _]) rfl (Nat.le_of_ble_eq_true rfl) rfl ?_
              have h0_q : (wrt σ σn 334 289 71 (imgB Wm S)) := h0_q
              have bl2_q : (imgB Wm S).length ≤ 108 := by
                unfold imgB
                have := imgM_l S hnc (Wm 0 3).toNat
                simp only [List.length_append, imgH_l, imgC_l]
                omega
              have bpos : ∀ i : Nat, i < (imgB Wm S).length → 0 ≤ σn 334 i ∧ σn 334 i ≤ 255 := fun i hi => by rw [h0_q.2.1 i hi]; exact imgB_b hSI hWI i
              have sbz := imS_b (lrow (imgB Wm S)) (imgB Wm S).length
              have lp210_q : ∀ (g : Nat) (k : Nat), ((imgB Wm S).length - k) < g → (k ≤ (imgB Wm S).length) → zV Γ m_M_image 3 0 0 Q (GM L) (0, 0) 210 [some (zR 289), some (zI (imS (σn 334) k)), some (zI k)] [] σn := by
                intro g
                induction g with
                | zero => intro k hg; exact absurd hg (Nat.not_lt_zero _)
                | succ g ih210_q =>
                  intro k hg hk
                  have sb := imS_b (σn 334) k
                  refine ziload_n (k := 120) rfl rfl ?_
                  refine zaload_n (k := 121) rfl rfl ?_
                  refine zgI 71 (k := 122) rfl ob_289 fl_12_228 rfl fx_289_71 ?_
                  rw [h0_q.1]
                  refine zicmp_ge (k := 123) rfl rfl (fun c3_q => ?_) (fun c3_q => ?_)
                  · skip
                    rw [show k = (imgB Wm S).length by omega, wrt_row h0_q]
                    refine zaload_n (k := 137) rfl rfl ?_
                    refine ziload_n (k := 138) rfl rfl ?_
                    refine zpV0 (k := 139) rfl (c_M_writes h0_q (by omega) (by omega)) fm_M_writes lk_12_539 rfl rfl ob_289 ⟨_, rfl, rfl⟩ (Nat.le_of_ble_eq_true rfl) (by decide) ⟨by decide, by decide⟩ (fun σ2 hh => ?_)
                    clear h0_q
                    have h0_q := hh
                    clear hh
                    rw [e256_q _ (by omega) (by omega)] at h0_q
                    refine zaload_n (k := 140) rfl rfl ?_
                    refine zgI 71 (k := 141) rfl ob_289 fl_12_228 rfl fx_289_71 ?_
                    rw [h0_q.1]
                    refine zireturn (k := 142) rfl rfl rfl ?_
                    rw [← hQ]
                    exact ⟨rfl, _, rfl, rfl, h0_q⟩
                  · skip
                    refine ziconst (k := 124) rfl (by decide) ?_
                    refine ziload_n (k := 125) rfl rfl ?_
                    refine zimulB (k := 126) rfl (by omega) ?_
                    refine zaload_n (k := 127) rfl rfl ?_
                    refine zgF 70 (k := 128) rfl ob_289 fl_12_225 rfl fx_289_70 ?_
                    refine ziload_n (k := 129) rfl rfl ?_
                    refine ziaload (k := 130) rfl ar_334 ⟨by omega, by omega⟩ ?_
                    refine ziaddB (k := 131) rfl (by have := bpos k (by omega); omega) ?_
                    refine zsipush (k := 132) rfl rfl ?_
                    refine ziremP (k := 133) rfl (by have := bpos k (by omega); omega) ?_
                    refine zistore_n (k := 134) (ls' := [_, _, _]) rfl (Nat.le_of_ble_eq_true rfl) rfl ?_
                    refine ziincB (k := 135) (ls' := [_, _, _]) rfl rfl (by decide) (by omega) rfl ?_
                    refine zgoto (k := 136) rfl rfl ?_
                    exact ih210_q (k + 1) (by omega) (by omega)
              exact lp210_q _ 0 (Nat.lt_succ_self _) (by omega)
            · skip
              refine zaload_n (k := 47) rfl rfl ?_
              refine zaload_n (k := 48) rfl rfl ?_
              refine zgF 49 (k := 49) rfl ob_289 fl_12_162 rfl fx_289_49 ?_
              refine ziload_n (k := 50) rfl rfl ?_
              refine ziaload (k := 51) rfl ar_319 ⟨by omega, by omega⟩ ?_
              have bmm := bm m (by omega) (by omega)
              rw [(r1_q.2.2.1 m (by omega) (by omega)).1]
              refine zpV0 (k := 52) rfl (c_M_writes h0_q (by first | omega | (simp only [List.length_append, List.length_cons, List.length_nil, imgH_l, imgC_l, imgP_l, imgK_l]; omega)) (by omega)) fm_M_writes lk_12_539 rfl rfl ob_289 ⟨_, rfl, rfl⟩ (Nat.le_of_ble_eq_true rfl) (by decide) ⟨by decide, by decide⟩ (fun σn hh => ?_)
              clear h0_q
              have h0_q := hh
              clear hh
              rw [e256_q (S 4 m) (by omega) (by omega)] at h0_q
              have s1_q := stM_o g0_q h0_q
              have r1_q := rM_0 s1_q.1
              have hb := s1_q.2.2.1
              refine zaload_n (k := 53) rfl rfl ?_
              refine zaload_n (k := 54) rfl rfl ?_
              refine zgF 50 (k := 55) rfl ob_289 fl_12_165 rfl fx_289_50 ?_
              refine ziload_n (k := 56) rfl rfl ?_
              refine ziaload (k := 57) rfl ar_320 ⟨by omega, by omega⟩ ?_
              rw [(r1_q.2.2.1 m (by omega) (by omega)).2.1]
              refine zpV0 (k := 58) rfl (c_M_writes h0_q (by first | omega | (simp only [List.length_append, List.length_cons, List.length_nil, imgH_l, imgC_l, imgP_l, imgK_l]; omega)) (by omega)) fm_M_writes lk_12_539 rfl rfl ob_289 ⟨_, rfl, rfl⟩ (Nat.le_of_ble_eq_true rfl) (by decide) ⟨by decide, by decide⟩ (fun σn hh => ?_)
              clear h0_q
              have h0_q := hh
              clear hh
              rw [e256_q (S 5 m) (by omega) (by omega)] at h0_q
              have s1_q := stM_o g0_q h0_q
              have r1_q := rM_0 s1_q.1
              have hb := s1_q.2.2.1
              refine zaload_n (k := 59) rfl rfl ?_
              refine zaload_n (k := 60) rfl rfl ?_
              refine zgF 50 (k := 61) rfl ob_289 fl_12_165 rfl fx_289_50 ?_
              refine ziload_n (k := 62) rfl rfl ?_
              refine ziaload (k := 63) rfl ar_320 ⟨by omega, by omega⟩ ?_
              rw [(r1_q.2.2.1 m (by omega) (by omega)).2.1]
              refine ziconst (k := 64) rfl (by decide) ?_
              refine zicmp_ne (k := 65) rfl rfl (fun c4_q => ?_) (fun c4_q => ?_)
              · skip
                refine ziconst (k := 71) rfl (by decide) ?_
                first | rw [show zI 0 = zI (S 6 m) by rw [show S 6 m = 0 by omega]] | skip
                refine zpV0 (k := 72) rfl (c_M_writes h0_q (by first | omega | (simp only [List.length_append, List.length_cons, List.length_nil, imgH_l, imgC_l, imgP_l, imgK_l]; omega)) (by omega)) fm_M_writes lk_12_539 rfl rfl ob_289 ⟨_, rfl, rfl⟩ (Nat.le_of_ble_eq_true rfl) (by decide) ⟨by decide, by decide⟩ (fun σn hh => ?_)
                clear h0_q
                have h0_q := hh
                clear hh
                rw [e256_q (S 6 m) (by omega) (by omega)] at h0_q
                have s1_q := stM_o g0_q h0_q
                have r1_q := rM_0 s1_q.1
                have hb := s1_q.2.2.1
                refine zaload_n (k := 73) rfl rfl ?_
                refine zaload_n (k := 74) rfl rfl ?_
                refine zgF 52 (k := 75) rfl ob_289 fl_12_171 rfl fx_289_52 ?_
                refine ziload_n (k := 76) rfl rfl ?_
                refine ziaload (k := 77) rfl ar_322 ⟨by omega, by omega⟩ ?_
                rw [(r1_q.2.2.1 m (by omega) (by omega)).2.2.2.1]
                refine zpV0 (k := 78) rfl (c_M_writes h0_q (by first | omega | (simp only [List.length_append, List.length_cons, List.length_nil, imgH_l, imgC_l, imgP_l, imgK_l]; omega)) (by omega)) fm_M_writes lk_12_539 rfl rfl ob_289 ⟨_, rfl, rfl⟩ (Nat.le_of_ble_eq_true rfl) (by decide) ⟨by decide, by decide⟩ (fun σn hh => ?_)
                clear h0_q
                have h0_q := hh
                clear hh
                rw [e256_q (S 7 m) (by omega) (by omega)] at h0_q
                have s1_q := stM_o g0_q h0_q
                have r1_q := rM_0 s1_q.1
                have hb := s1_q.2.2.1
                refine zaload_n (k := 79) rfl rfl ?_
                refine zaload_n (k := 80) rfl rfl ?_
                refine zgF 53 (k := 81) rfl ob_289 fl_12_174 rfl fx_289_53 ?_
                refine ziload_n (k := 82) rfl rfl ?_
                refine ziaload (k := 83) rfl ar_323 ⟨by omega, by omega⟩ ?_
                rw [(r1_q.2.2.1 m (by omega) (by omega)).2.2.2.2]
                refine zpV0 (k := 84) rfl (c_M_writesTwo h0_q (by first | omega | (simp only [List.length_append, List.length_cons, List.length_nil, imgH_l, imgC_l, imgP_l, imgK_l]; omega)) (by omega)) fm_M_writesTwo lk_12_542 rfl rfl ob_289 ⟨_, rfl, rfl⟩ (Nat.le_of_ble_eq_true rfl) (by decide) ⟨by decide, by decide⟩ (fun σn hh => ?_)
                clear h0_q
                have h0_q := hh
                clear hh
                have s1_q := stM_o g0_q h0_q
                have r1_q := rM_0 s1_q.1
                have hb := s1_q.2.2.1
                refine ziconst (k := 85) rfl (by decide) ?_
                refine zistore_n (k := 86) (ls' := [_, _, _]) rfl (Nat.le_of_ble_eq_true rfl) rfl ?_
                have lp147_q : ∀ (g : Nat) (c : Nat) (σn : zv_H), ((Wm 0 1).toNat - c) < g → ((c : Int) ≤ Wm 0 1) → ((wrt σ σn 334 289 71 (imgH S ++ (imgC S (Wm 0 1).toNat ++ (imgM S (Wm 0 1).toNat m ++ (imgP S m ++ imgK S m c)))))) → zV Γ m_M_image 3 0 0 Q (GM L) (0, 0) 147 [some (zR 289), some (zI m), some (zI c)] [] σn := by
                  intro g
                  induction g with
                  | zero => intro c σn hg; exact absurd hg (Nat.not_lt_zero _)
                  | succ g ih147_q =>
                    intro c σn hg hc h0_q
                    have s1_q := stM_o g0_q h0_q
                    have r1_q := rM_0 s1_q.1
                    have hb := s1_q.2.2.1
                    refine ziload_n (k := 87) rfl rfl ?_
                    refine zaload_n (k := 88) rfl rfl ?_
                    refine zgF 14 (k := 89) rfl ob_289 fl_12_54 rfl fx_289_14 ?_
                    refine zaload_n (k := 90) rfl rfl ?_
                    refine zgI 13 (k := 91) rfl ob_289 fl_12_51 rfl fx_289_13 ?_
                    rw [hb]
                    refine ziaload (k := 92) rfl ar_291 ⟨by omega, by omega⟩ ?_
                    rw [s1_q.2.1.1.1]
                    refine zicmp_ge (k := 93) rfl rfl (fun c5_q => ?_) (fun c5_q => ?_)
                    · skip
                      rw [show c = (Wm 0 1).toNat by omega] at h0_q
                      refine ziincB (k := 114) (ls' := [_, _, _]) rfl rfl (by decide) (by omega) rfl ?_
                      refine zgoto (k := 115) rfl rfl ?_
                      refine zforget (ls' := [_, _, _]) 2 rfl ?_
                      exact ih68_q (m + 1) _ (by omega) (by omega) h0_q
                    · skip
                      refine zaload_n (k := 94) rfl rfl ?_
                      refine zaload_n (k := 95) rfl rfl ?_
                      refine ziload_n (k := 96) rfl rfl ?_
                      refine ziload_n (k := 97) rfl rfl ?_
                      refine zfV1 (k := 98) rfl (c_M_known hb1_q s1_q hSI hWI) fm_M_known lk_12_536 rfl rfl ob_289 ⟨_, rfl, rfl⟩ (Nat.le_of_ble_eq_true rfl) (by decide) ⟨by decide, by decide⟩ ?_
                      rw [if_pos ⟨⟨by omega, by omega⟩, ⟨by omega, by omega⟩⟩]
                      have wb : -1 ≤ wklF S m c ∧ wklF S m c ≤ 1000000 := by unfold wklF; have := bl ((m : Int) * 7 + c) (by omega) (by omega); split <;> omega
                      refine ziconst (k := 99) rfl (by decide) ?_
                      refine ziaddB (k := 100) rfl (by omega) ?_
                      refine zsipush (k := 101) rfl rfl ?_
                      refine zicmp_le (k := 102) rfl rfl (fun c6_q => ?_) (fun c6_q => ?_)
                      · skip
                        refine zaload_n (k := 105) rfl rfl ?_
                        refine ziload_n (k := 106) rfl rfl ?_
                        refine ziload_n (k := 107) rfl rfl ?_
                        refine zfV1 (k := 108) rfl (c_M_known hb1_q s1_q hSI hWI) fm_M_known lk_12_536 rfl rfl ob_289 ⟨_, rfl, rfl⟩ (Nat.le_of_ble_eq_true rfl) (by decide) ⟨by decide, by decide⟩ ?_
                        rw [if_pos ⟨⟨by omega, by omega⟩, ⟨by omega, by omega⟩⟩]
                        refine ziconst (k := 109) rfl (by decide) ?_
                        refine ziaddB (k := 110) rfl (by omega) ?_
                        first | rw [show zI 255 = zI (min 255 (wklF S m c + 1)) by rw [show min 255 (wklF S m c + 1) = 255 by omega]] | rw [show zI (wklF S m c + 1) = zI (min 255 (wklF S m c + 1)) by rw [show min 255 (wklF S m c + 1) = wklF S m c + 1 by omega]]
                        refine zpV0 (k := 111) rfl (c_M_writes h0_q (by first | omega | (simp only [List.length_append, List.length_cons, List.length_nil, imgH_l, imgC_l, imgP_l, imgK_l]; omega)) (by omega)) fm_M_writes lk_12_539 rfl rfl ob_289 ⟨_, rfl, rfl⟩ (Nat.le_of_ble_eq_true rfl) (by decide) ⟨by decide, by decide⟩ (fun σn hh => ?_)
                        clear h0_q
                        have h0_q := hh
                        clear hh
                        rw [e256_q (min 255 (wklF S m c + 1)) (by omega) (by omega)] at h0_q
                        have s1_q := stM_o g0_q h0_q
                        have r1_q := rM_0 s1_q.1
                        have hb := s1_q.2.2.1
                        refine ziincB (k := 112) (ls' := [_, _, _]) rfl rfl (by decide) (by omega) rfl ?_
                        refine zgoto (k := 113) rfl rfl ?_
                        simp only [List.append_assoc, List.cons_append, List.nil_append] at h0_q
                        exact ih147_q (c + 1) _ (by omega) (by omega) h0_q
                      · skip
                        refine zsipush (k := 103) rfl rfl ?_
                        refine zgoto (k := 104) rfl rfl ?_
                        first | rw [show zI 255 = zI (min 255 (wklF S m c + 1)) by rw [show min 255 (wklF S m c + 1) = 255 by omega]] | rw [show zI (wklF S m c + 1) = zI (min 255 (wklF S m c + 1)) by rw [show min 255 (wklF S m c + 1) = wklF S m c + 1 by omega]]
                        refine zpV0 (k := 111) rfl (c_M_writes h0_q (by first | omega | (simp only [List.length_append, List.length_cons, List.length_nil, imgH_l, imgC_l, imgP_l, imgK_l]; omega)) (by omega)) fm_M_writes lk_12_539 rfl rfl ob_289 ⟨_, rfl, rfl⟩ (Nat.le_of_ble_eq_true rfl) (by decide) ⟨by decide, by decide⟩ (fun σn hh => ?_)
                        clear h0_q
                        have h0_q := hh
                        clear hh
                        rw [e256_q (min 255 (wklF S m c + 1)) (by omega) (by omega)] at h0_q
                        have s1_q := stM_o g0_q h0_q
                        have r1_q := rM_0 s1_q.1
                        have hb := s1_q.2.2.1
                        refine ziincB (k := 112) (ls' := [_, _, _]) rfl rfl (by decide) (by omega) rfl ?_
                        refine zgoto (k := 113) rfl rfl ?_
                        simp only [List.append_assoc, List.cons_append, List.nil_append] at h0_q
                        exact ih147_q (c + 1) _ (by omega) (by omega) h0_q
                simp only [List.append_assoc, List.cons_append, List.nil_append] at h0_q
                exact lp147_q _ 0 _ (Nat.lt_succ_self _) (by omega) h0_q
              · skip
                refine zaload_n (k := 66) rfl rfl ?_
                refine zgF 51 (k := 67) rfl ob_289 fl_12_168 rfl fx_289_51 ?_
                refine ziload_n (k := 68) rfl rfl ?_
                refine ziaload (k := 69) rfl ar_321 ⟨by omega, by omega⟩ ?_
                rw [(r1_q.2.2.1 m (by omega) (by omega)).2.2.1]
                refine zgoto (k := 70) rfl rfl ?_
                first | rw [show zI 0 = zI (S 6 m) by rw [show S 6 m = 0 by omega]] | skip
                refine zpV0 (k := 72) rfl (c_M_writes h0_q (by first | omega | (simp only [List.length_append, List.length_cons, List.length_nil, imgH_l, imgC_l, imgP_l, imgK_l]; omega)) (by omega)) fm_M_writes lk_12_539 rfl rfl ob_289 ⟨_, rfl, rfl⟩ (Nat.le_of_ble_eq_true rfl) (by decide) ⟨by decide, by decide⟩ (fun σn hh => ?_)
                clear h0_q
                have h0_q := hh
                clear hh
                rw [e256_q (S 6 m) (by omega) (by omega)] at h0_q
                have s1_q := stM_o g0_q h0_q
                have r1_q := rM_0 s1_q.1
                have hb := s1_q.2.2.1
                refine zaload_n (k := 73) rfl rfl ?_
                refine zaload_n (k := 74) rfl rfl ?_
                refine zgF 52 (k := 75) rfl ob_289 fl_12_171 rfl fx_289_52 ?_
                refine ziload_n (k := 76) rfl rfl ?_
                refine ziaload (k := 77) rfl ar_322 ⟨by omega, by omega⟩ ?_
                rw [(r1_q.2.2.1 m (by omega) (by omega)).2.2.2.1]
                refine zpV0 (k := 78) rfl (c_M_writes h0_q (by first | omega | (simp only [List.length_append, List.length_cons, List.length_nil, imgH_l, imgC_l, imgP_l, imgK_l]; omega)) (by omega)) fm_M_writes lk_12_539 rfl rfl ob_289 ⟨_, rfl, rfl⟩ (Nat.le_of_ble_eq_true rfl) (by decide) ⟨by decide, by decide⟩ (fun σn hh => ?_)
                clear h0_q
                have h0_q := hh
                clear hh
                rw [e256_q (S 7 m) (by omega) (by omega)] at h0_q
                have s1_q := stM_o g0_q h0_q
                have r1_q := rM_0 s1_q.1
                have hb := s1_q.2.2.1
                refine zaload_n (k := 79) rfl rfl ?_
                refine zaload_n (k := 80) rfl rfl ?_
                refine zgF 53 (k := 81) rfl ob_289 fl_12_174 rfl fx_289_53 ?_
                refine ziload_n (k := 82) rfl rfl ?_
                refine ziaload (k := 83) rfl ar_323 ⟨by omega, by omega⟩ ?_
                rw [(r1_q.2.2.1 m (by omega) (by omega)).2.2.2.2]
                refine zpV0 (k := 84) rfl (c_M_writesTwo h0_q (by first | omega | (simp only [List.length_append, List.length_cons, List.length_nil, imgH_l, imgC_l, imgP_l, imgK_l]; omega)) (by omega)) fm_M_writesTwo lk_12_542 rfl rfl ob_289 ⟨_, rfl, rfl⟩ (Nat.le_of_ble_eq_true rfl) (by decide) ⟨by decide, by decide⟩ (fun σn hh => ?_)
                clear h0_q
                have h0_q := hh
                clear hh
                have s1_q := stM_o g0_q h0_q
                have r1_q := rM_0 s1_q.1
                have hb := s1_q.2.2.1
                refine ziconst (k := 85) rfl (by decide) ?_
                refine zistore_n (k := 86) (ls' := [_, _, _]) rfl (Nat.le_of_ble_eq_true rfl) rfl ?_
                have lp147_q : ∀ (g : Nat) (c : Nat) (σn : zv_H), ((Wm 0 1).toNat - c) < g → ((c : Int) ≤ Wm 0 1) → ((wrt σ σn 334 289 71 (imgH S ++ (imgC S (Wm 0 1).toNat ++ (imgM S (Wm 0 1).toNat m ++ (imgP S m ++ imgK S m c)))))) → zV Γ m_M_image 3 0 0 Q (GM L) (0, 0) 147 [some (zR 289), some (zI m), some (zI c)] [] σn := by
                  intro g
                  induction g with
                  | zero => intro c σn hg; exact absurd hg (Nat.not_lt_zero _)
                  | succ g ih147_q =>
                    intro c σn hg hc h0_q
                    have s1_q := stM_o g0_q h0_q
                    have r1_q := rM_0 s1_q.1
                    have hb := s1_q.2.2.1
                    refine ziload_n (k := 87) rfl rfl ?_
                    refine zaload_n (k := 88) rfl rfl ?_
                    refine zgF 14 (k := 89) rfl ob_289 fl_12_54 rfl fx_289_14 ?_
                    refine zaload_n (k := 90) rfl rfl ?_
                    refine zgI 13 (k := 91) rfl ob_289 fl_12_51 rfl fx_289_13 ?_
                    rw [hb]
                    refine ziaload (k := 92) rfl ar_291 ⟨by omega, by omega⟩ ?_
                    rw [s1_q.2.1.1.1]
                    refine zicmp_ge (k := 93) rfl rfl (fun c7_q => ?_) (fun c7_q => ?_)
                    · skip
                      rw [show c = (Wm 0 1).toNat by omega] at h0_q
                      refine ziincB (k := 114) (ls' := [_, _, _]) rfl rfl (by decide) (by omega) rfl ?_
                      refine zgoto (k := 115) rfl rfl ?_
                      refine zforget (ls' := [_, _, _]) 2 rfl ?_
                      exact ih68_q (m + 1) _ (by omega) (by omega) h0_q
                    · skip
                      refine zaload_n (k := 94) rfl rfl ?_
                      refine zaload_n (k := 95) rfl rfl ?_
                      refine ziload_n (k := 96) rfl rfl ?_
                      refine ziload_n (k := 97) rfl rfl ?_
                      refine zfV1 (k := 98) rfl (c_M_known hb1_q s1_q hSI hWI) fm_M_known lk_12_536 rfl rfl ob_289 ⟨_, rfl, rfl⟩ (Nat.le_of_ble_eq_true rfl) (by decide) ⟨by decide, by decide⟩ ?_
                      rw [if_pos ⟨⟨by omega, by omega⟩, ⟨by omega, by omega⟩⟩]
                      have wb : -1 ≤ wklF S m c ∧ wklF S m c ≤ 1000000 := by unfold wklF; have := bl ((m : Int) * 7 + c) (by omega) (by omega); split <;> omega
                      refine ziconst (k := 99) rfl (by decide) ?_
                      refine ziaddB (k := 100) rfl (by omega) ?_
                      refine zsipush (k := 101) rfl rfl ?_
                      refine zicmp_le (k := 102) rfl rfl (fun c8_q => ?_) (fun c8_q => ?_)
                      · skip
                        refine zaload_n (k := 105) rfl rfl ?_
                        refine ziload_n (k := 106) rfl rfl ?_
                        refine ziload_n (k := 107) rfl rfl ?_
                        refine zfV1 (k := 108) rfl (c_M_known hb1_q s1_q hSI hWI) fm_M_known lk_12_536 rfl rfl ob_289 ⟨_, rfl, rfl⟩ (Nat.le_of_ble_eq_true rfl) (by decide) ⟨by decide, by decide⟩ ?_
                        rw [if_pos ⟨⟨by omega, by omega⟩, ⟨by omega, by omega⟩⟩]
                        refine ziconst (k := 109) rfl (by decide) ?_
                        refine ziaddB (k := 110) rfl (by omega) ?_
                        first | rw [show zI 255 = zI (min 255 (wklF S m c + 1)) by rw [show min 255 (wklF S m c + 1) = 255 by omega]] | rw [show zI (wklF S m c + 1) = zI (min 255 (wklF S m c + 1)) by rw [show min 255 (wklF S m c + 1) = wklF S m c + 1 by omega]]
                        refine zpV0 (k := 111) rfl (c_M_writes h0_q (by first | omega | (simp only [List.length_append, List.length_cons, List.length_nil, imgH_l, imgC_l, imgP_l, imgK_l]; omega)) (by omega)) fm_M_writes lk_12_539 rfl rfl ob_289 ⟨_, rfl, rfl⟩ (Nat.le_of_ble_eq_true rfl) (by decide) ⟨by decide, by decide⟩ (fun σn hh => ?_)
                        clear h0_q
                        have h0_q := hh
                        clear hh
                        rw [e256_q (min 255 (wklF S m c + 1)) (by omega) (by omega)] at h0_q
                        have s1_q := stM_o g0_q h0_q
                        have r1_q := rM_0 s1_q.1
                        have hb := s1_q.2.2.1
                        refine ziincB (k := 112) (ls' := [_, _, _]) rfl rfl (by decide) (by omega) rfl ?_
                        refine zgoto (k := 113) rfl rfl ?_
                        simp only [List.append_assoc, List.cons_append, List.nil_append] at h0_q
                        exact ih147_q (c + 1) _ (by omega) (by omega) h0_q
                      · skip
                        refine zsipush (k := 103) rfl rfl ?_
                        refine zgoto (k := 104) rfl rfl ?_
                        first | rw [show zI 255 = zI (min 255 (wklF S m c + 1)) by rw [show min 255 (wklF S m c + 1) = 255 by omega]] | rw [show zI (wklF S m c + 1) = zI (min 255 (wklF S m c + 1)) by rw [show min 255 (wklF S m c + 1) = wklF S m c + 1 by omega]]
                        refine zpV0 (k := 111) rfl (c_M_writes h0_q (by first | omega | (simp only [List.length_append, List.length_cons, List.length_nil, imgH_l, imgC_l, imgP_l, imgK_l]; omega)) (by omega)) fm_M_writes lk_12_539 rfl rfl ob_289 ⟨_, rfl, rfl⟩ (Nat.le_of_ble_eq_true rfl) (by decide) ⟨by decide, by decide⟩ (fun σn hh => ?_)
                        clear h0_q
                        have h0_q := hh
                        clear hh
                        rw [e256_q (min 255 (wklF S m c + 1)) (by omega) (by omega)] at h0_q
                        have s1_q := stM_o g0_q h0_q
                        have r1_q := rM_0 s1_q.1
                        have hb := s1_q.2.2.1
                        refine ziincB (k := 112) (ls' := [_, _, _]) rfl rfl (by decide) (by omega) rfl ?_
                        refine zgoto (k := 113) rfl rfl ?_
                        simp only [List.append_assoc, List.cons_append, List.nil_append] at h0_q
                        exact ih147_q (c + 1) _ (by omega) (by omega) h0_q
                simp only [List.append_assoc, List.cons_append, List.nil_append] at h0_q
                exact lp147_q _ 0 _ (Nat.lt_succ_self _) (by omega) h0_q
        exact lp68_q _ 0 _ (Nat.lt_succ_self _) (by omega) (by rw [show imgM S (Wm 0 1).toNat 0 = [] from rfl, List.append_nil]; exact h0_q)
      · skip
        refine zaload_n (k := 18) rfl rfl ?_
        refine zaload_n (k := 19) rfl rfl ?_
        refine zgF 46 (k := 20) rfl ob_289 fl_12_153 rfl fx_289_46 ?_
        refine ziload_n (k := 21) rfl rfl ?_
        refine ziaload (k := 22) rfl ar_316 ⟨by omega, by omega⟩ ?_
        have bcj := bc j (by omega) (by omega)
        have rcj := r1_q.2.1 j (by omega) (by omega)
        rw [rcj.1]
        refine zpV0 (k := 23) rfl (c_M_writes h0_q (by first | omega | (simp only [List.length_append, List.length_cons, List.length_nil, imgH_l, imgC_l, imgP_l, imgK_l]; omega)) (by omega)) fm_M_writes lk_12_539 rfl rfl ob_289 ⟨_, rfl, rfl⟩ (Nat.le_of_ble_eq_true rfl) (by decide) ⟨by decide, by decide⟩ (fun σn hh => ?_)
        clear h0_q
        have h0_q := hh
        clear hh
        rw [e256_q (S 1 j) (by omega) (by omega)] at h0_q
        have s1_q := stM_o g0_q h0_q
        have r1_q := rM_0 s1_q.1
        have hb := s1_q.2.2.1
        refine zaload_n (k := 24) rfl rfl ?_
        refine zaload_n (k := 25) rfl rfl ?_
        refine zgF 47 (k := 26) rfl ob_289 fl_12_156 rfl fx_289_47 ?_
        refine ziload_n (k := 27) rfl rfl ?_
        refine ziaload (k := 28) rfl ar_317 ⟨by omega, by omega⟩ ?_
        rw [(r1_q.2.1 j (by omega) (by omega)).2.1]
        refine zpV0 (k := 29) rfl (c_M_writesTwo h0_q (by first | omega | (simp only [List.length_append, List.length_cons, List.length_nil, imgH_l, imgC_l, imgP_l, imgK_l]; omega)) (by omega)) fm_M_writesTwo lk_12_542 rfl rfl ob_289 ⟨_, rfl, rfl⟩ (Nat.le_of_ble_eq_true rfl) (by decide) ⟨by decide, by decide⟩ (fun σn hh => ?_)
        clear h0_q
        have h0_q := hh
        clear hh
        have s1_q := stM_o g0_q h0_q
        have r1_q := rM_0 s1_q.1
        have hb := s1_q.2.2.1
        refine zaload_n (k := 30) rfl rfl ?_
        refine zaload_n (k := 31) rfl rfl ?_
        refine zgF 48 (k := 32) rfl ob_289 fl_12_159 rfl fx_289_48 ?_
        refine ziload_n (k := 33) rfl rfl ?_
        refine ziaload (k := 34) rfl ar_318 ⟨by omega, by omega⟩ ?_
        rw [(r1_q.2.1 j (by omega) (by omega)).2.2]
        refine zpV0 (k := 35) rfl (c_M_writes h0_q (by first | omega | (simp only [List.length_append, List.length_cons, List.length_nil, imgH_l, imgC_l, imgP_l, imgK_l]; omega)) (by omega)) fm_M_writes lk_12_539 rfl rfl ob_289 ⟨_, rfl, rfl⟩ (Nat.le_of_ble_eq_true rfl) (by decide) ⟨by decide, by decide⟩ (fun σn hh => ?_)
        clear h0_q
        have h0_q := hh
        clear hh
        rw [e256_q (S 3 j) (by omega) (by omega)] at h0_q
        have s1_q := stM_o g0_q h0_q
        have r1_q := rM_0 s1_q.1
        have hb := s1_q.2.2.1
        refine ziincB (k := 36) (ls' := [_, _, _]) rfl rfl (by decide) (by omega) rfl ?_
        refine zgoto (k := 37) rfl rfl ?_
        simp only [List.append_assoc, List.cons_append, List.nil_append] at h0_q
        exact ih17_q (j + 1) _ (by omega) (by omega) h0_q
  exact lp17_q _ 0 _ (Nat.lt_succ_self _) (by omega) h0_q
