/-! what he is asked, whom he likes -/
theorem mfr_328 {σ : zv_H} {v k x : Int} : mfr v σ (zup σ 328 k x) := fun g j a b c => zup_n (by omega)
theorem stM_328 {σ0 σ Wm S : zv_H} {b v k x : Int} (h : stM σ0 σ b v Wm S) : stM σ0 (zup σ 328 k x) b v Wm S := stM_s h (rM_x h.1 (fun g j h1 h2 => zup_n (by omega))) mfr_328
theorem way_r {σ0 σ Wm S : zv_H} {b v f t : Int} (h : stM σ0 σ b v Wm S) (hWI : WI Wm) (hf : 0 ≤ f ∧ f < Wm 0 1) (ht : 0 ≤ t ∧ t < Wm 0 1) : σ 297 (49 * b + 7 * f + t) = if dstF Wm f t = -1 then 100000000 else dstF Wm f t := by
  rw [h.2.1.2.2.2.1 f t hf.1 hf.2 ht.1 ht.2]
  have q := hWI.2.2.2.2.2.2.2.2.2 f t hf.1 hf.2 ht.1 ht.2
  unfold dstF wayM
  by_cases e : Wm 12 (f * 7 + t) = 1000000
  · rw [if_pos e, if_neg (show ¬ ((0 ≤ f ∧ f < Wm 0 1) ∧ (0 ≤ t ∧ t < Wm 0 1) ∧ Wm 12 (f * 7 + t) < 1000000) by omega), if_pos rfl]
  · rw [if_neg e, if_pos (show (0 ≤ f ∧ f < Wm 0 1) ∧ (0 ≤ t ∧ t < Wm 0 1) ∧ Wm 12 (f * 7 + t) < 1000000 by omega), if_neg (by omega)]
set_option maxHeartbeats 4000000 in
set_option maxRecDepth 20000 in
theorem c_M_tells {Γ : zv_M} {L : Int} {σ0 σ Wm S : zv_H} {b v : Int} (hb1 : b = 0 ∨ b = 1) (hv : 0 ≤ v ∧ v < 22) (h0 : stM σ0 σ b v Wm S) (hSI : SI (Wm 0 1) (Wm 0 3) S) (hWI : WI Wm) {m c : Int} (hm : 0 ≤ m ∧ m < Wm 0 3) (hc : 0 ≤ c ∧ c < Wm 0 1)  : zC Γ m_M_tells 2 0 0 (GM L) [zR 289, zI v, zI m, zI c] σ (zP0 (GM L) (fun σ' => stM σ0 σ' b v Wm S ∧ ∀ q, 1 ≤ q → q ≤ 7 → σ' 328 q = envF S m c (S 2 c) (if dstF Wm (S 4 m) c = -1 then 100000000 else dstF Wm (S 4 m) c) (-q))) := by
  refine zC_of (ls0 := [_, _, _, _]) zm_M_tells (by decide) rfl (Nat.le_of_ble_eq_true rfl) ?_
  generalize hQ : (zP0 (GM L) (fun σ' => stM σ0 σ' b v Wm S ∧ ∀ q, 1 ≤ q → q ≤ 7 → σ' 328 q = envF S m c (S 2 c) (if dstF Wm (S 4 m) c = -1 then 100000000 else dstF Wm (S 4 m) c) (-q))) = Q
  have hb := h0.2.2.1
  have w1 := hWI.1
  have w3 := hWI.2.2.1
  have bm := hSI.2.2.2.2.1 m hm.1 hm.2
  have rc := h0.1.2.1 c hc.1 hc.2
  have rm := h0.1.2.2.1 m hm.1 hm.2
  have rw0 := h0.1.1.1
  refine zaload_n (k := 0) rfl rfl ?_
  refine zgF 61 (k := 1) rfl ob_289 fl_12_198 rfl fx_289_61 ?_
  refine ziconst (k := 2) rfl (by decide) ?_
  refine zaload_n (k := 3) rfl rfl ?_
  refine zgF 48 (k := 4) rfl ob_289 fl_12_159 rfl fx_289_48 ?_
  refine zbipush (k := 5) rfl rfl ?_
  refine ziload_n (k := 6) rfl rfl ?_
  refine zimulB (k := 7) rfl (by omega) ?_
  refine ziload_n (k := 8) rfl rfl ?_
  refine ziaddB (k := 9) rfl (by omega) ?_
  refine ziaload (k := 10) rfl ar_318 ⟨by omega, by omega⟩ ?_
  rw [rc.2.2]
  refine ziastore (k := 11) rfl ar_328 ⟨by omega, by omega⟩ (by omega) ?_
  refine zaload_n (k := 12) rfl rfl ?_
  refine zgF 61 (k := 13) rfl ob_289 fl_12_198 rfl fx_289_61 ?_
  refine ziconst (k := 14) rfl (by decide) ?_
  refine zaload_n (k := 15) rfl rfl ?_
  refine zgF 47 (k := 16) rfl ob_289 fl_12_156 rfl fx_289_47 ?_
  refine zbipush (k := 17) rfl rfl ?_
  refine ziload_n (k := 18) rfl rfl ?_
  refine zimulB (k := 19) rfl (by omega) ?_
  refine ziload_n (k := 20) rfl rfl ?_
  refine ziaddB (k := 21) rfl (by omega) ?_
  refine ziaload (k := 22) rfl ar_317 ⟨by omega, by omega⟩ ?_
  repeat rw [zup_n (by omega)]
  rw [rc.2.1]
  refine ziastore (k := 23) rfl ar_328 ⟨by omega, by omega⟩ (by omega) ?_
  refine zaload_n (k := 24) rfl rfl ?_
  refine zgF 61 (k := 25) rfl ob_289 fl_12_198 rfl fx_289_61 ?_
  refine ziconst (k := 26) rfl (by decide) ?_
  refine zaload_n (k := 27) rfl rfl ?_
  refine zgF 52 (k := 28) rfl ob_289 fl_12_171 rfl fx_289_52 ?_
  refine zbipush (k := 29) rfl rfl ?_
  refine ziload_n (k := 30) rfl rfl ?_
  refine zimulB (k := 31) rfl (by omega) ?_
  refine ziload_n (k := 32) rfl rfl ?_
  refine ziaddB (k := 33) rfl (by omega) ?_
  refine ziaload (k := 34) rfl ar_322 ⟨by omega, by omega⟩ ?_
  repeat rw [zup_n (by omega)]
  rw [rm.2.2.2.1]
  refine ziastore (k := 35) rfl ar_328 ⟨by omega, by omega⟩ (by omega) ?_
  refine zaload_n (k := 36) rfl rfl ?_
  refine zgF 61 (k := 37) rfl ob_289 fl_12_198 rfl fx_289_61 ?_
  refine ziconst (k := 38) rfl (by decide) ?_
  refine zaload_n (k := 39) rfl rfl ?_
  refine zgF 53 (k := 40) rfl ob_289 fl_12_174 rfl fx_289_53 ?_
  refine zbipush (k := 41) rfl rfl ?_
  refine ziload_n (k := 42) rfl rfl ?_
  refine zimulB (k := 43) rfl (by omega) ?_
  refine ziload_n (k := 44) rfl rfl ?_
  refine ziaddB (k := 45) rfl (by omega) ?_
  refine ziaload (k := 46) rfl ar_323 ⟨by omega, by omega⟩ ?_
  repeat rw [zup_n (by omega)]
  rw [rm.2.2.2.2]
  refine ziastore (k := 47) rfl ar_328 ⟨by omega, by omega⟩ (by omega) ?_
  refine zaload_n (k := 48) rfl rfl ?_
  refine zgF 61 (k := 49) rfl ob_289 fl_12_198 rfl fx_289_61 ?_
  refine ziconst (k := 50) rfl (by decide) ?_
  refine zaload_n (k := 51) rfl rfl ?_
  refine zgF 45 (k := 52) rfl ob_289 fl_12_150 rfl fx_289_45 ?_
  refine ziload_n (k := 53) rfl rfl ?_
  refine ziaload (k := 54) rfl ar_315 ⟨by omega, by omega⟩ ?_
  repeat rw [zup_n (by omega)]
  rw [rw0]
  refine ziastore (k := 55) rfl ar_328 ⟨by omega, by omega⟩ (by omega) ?_
  refine zaload_n (k := 56) rfl rfl ?_
  refine zgF 61 (k := 57) rfl ob_289 fl_12_198 rfl fx_289_61 ?_
  refine zbipush (k := 58) rfl rfl ?_
  refine zaload_n (k := 59) rfl rfl ?_
  refine zgF 46 (k := 60) rfl ob_289 fl_12_153 rfl fx_289_46 ?_
  refine zbipush (k := 61) rfl rfl ?_
  refine ziload_n (k := 62) rfl rfl ?_
  refine zimulB (k := 63) rfl (by omega) ?_
  refine ziload_n (k := 64) rfl rfl ?_
  refine ziaddB (k := 65) rfl (by omega) ?_
  refine ziaload (k := 66) rfl ar_316 ⟨by omega, by omega⟩ ?_
  repeat rw [zup_n (by omega)]
  rw [rc.1]
  refine ziastore (k := 67) rfl ar_328 ⟨by omega, by omega⟩ (by omega) ?_
  refine zaload_n (k := 68) rfl rfl ?_
  refine zgF 61 (k := 69) rfl ob_289 fl_12_198 rfl fx_289_61 ?_
  refine zbipush (k := 70) rfl rfl ?_
  refine zaload_n (k := 71) rfl rfl ?_
  refine zaload_n (k := 72) rfl rfl ?_
  refine zgF 49 (k := 73) rfl ob_289 fl_12_162 rfl fx_289_49 ?_
  refine zbipush (k := 74) rfl rfl ?_
  refine ziload_n (k := 75) rfl rfl ?_
  refine zimulB (k := 76) rfl (by omega) ?_
  refine ziload_n (k := 77) rfl rfl ?_
  refine ziaddB (k := 78) rfl (by omega) ?_
  refine ziaload (k := 79) rfl ar_319 ⟨by omega, by omega⟩ ?_
  repeat rw [zup_n (by omega)]
  rw [rm.1]
  refine ziload_n (k := 80) rfl rfl ?_
  refine zfV1 (k := 81) rfl (c_M_wayBy (b := b) (by (repeat rw [zup_n (by omega)]); exact hb) hb1 (by omega) (by omega)) fm_M_wayBy lk_12_439 rfl rfl ob_289 ⟨_, rfl, rfl⟩ (Nat.le_of_ble_eq_true rfl) (by decide) ⟨by decide, by decide⟩ ?_
  repeat rw [zup_n (by omega)]
  rw [way_r h0 hWI ⟨bm.1.1, bm.1.2⟩ hc]
  refine ziastore (k := 82) rfl ar_328 ⟨by omega, by omega⟩ (by omega) ?_
  refine zreturn (k := 83) rfl rfl rfl ?_
  rw [← hQ]
  refine ⟨rfl, rfl, stM_328 (stM_328 (stM_328 (stM_328 (stM_328 (stM_328 (stM_328 h0)))))), fun q h1 h2 => ?_⟩
  have e : q = 1 ∨ q = 2 ∨ q = 3 ∨ q = 4 ∨ q = 5 ∨ q = 6 ∨ q = 7 := by omega
  rcases e with rfl | rfl | rfl | rfl | rfl | rfl | rfl <;> simp [zup, envF]
theorem k_mreck {Γ : zv_M} {L : Int} {σ0 σ Wm S : zv_H} {b v g gs gl : Int} {E : Int → Int} (hb1 : b = 0 ∨ b = 1) (h : stM σ0 σ b v Wm S) (hg : (g = 0 ∧ gs = 9 ∧ gl = 8) ∨ (g = 1 ∧ gs = 11 ∧ gl = 10)) (hn : 0 < Wm gl 1) (hF : FI (Wm gs) (Wm gl 1)) (hE : ∀ q, 1 ≤ q → q ≤ 7 → σ 328 q = E (-q)) (hB : EB E) : zC Γ m_M_reckons 2 0 0 (GM L) [zR 289, zI g] σ (zPL (GM L) (fun z σ' => z = (crun E (Wm gs) (Wm gl 1).toNat).headD 0 ∧ stM σ0 σ' b v Wm S)) := by
  have hf : fmM σ b g (Wm gs) (Wm gl 1) := by
    rcases hg with ⟨rfl, rfl, rfl⟩ | ⟨rfl, rfl, rfl⟩
    · exact h.2.1.2.2.2.2.1
    · exact h.2.1.2.2.2.2.2
  rcases hf with hf | ⟨_, i0, f1, f2, f3, f4, f5⟩
  · omega
  · refine zC_mono (fun q G' σ' hq => ?_) (c_M_reckons (b := b) (i0 := i0) h.2.2.1 hb1 (by omega) f1 hn f2 f3 f4 (f5 E hB).1 (f5 E hB).2 (hF.2.2 hn E hB).1 hE)
    obtain ⟨g1, z, g2, g3, g4⟩ := hq
    exact ⟨g1, z, g2, g3, stM_s h (rM_x h.1 (fun x k h1 h2 => g4 x k (by omega))) (fun x k a b c => g4 x k b)⟩
set_option maxHeartbeats 4000000 in
set_option maxRecDepth 20000 in
theorem c_M_likes {Γ : zv_M} {L : Int} {σ0 σ Wm S : zv_H} {b v : Int} (hb1 : b = 0 ∨ b = 1) (hv : 0 ≤ v ∧ v < 22) (h0 : stM σ0 σ b v Wm S) (hSI : SI (Wm 0 1) (Wm 0 3) S) (hWI : WI Wm) {m c : Int} (hm : 0 ≤ m ∧ m < Wm 0 3) (hc : 0 ≤ c ∧ c < Wm 0 1) (hd : dstF Wm (S 4 m) c ≠ -1)  : zC Γ m_M_likes 3 0 0 (GM L) [zR 289, zI v, zI m, zI c] σ (zPL (GM L) (fun z σ' => z = likF Wm S m c (S 2 c) ∧ stM σ0 σ' b v Wm S)) := by
  refine zC_of (ls0 := [_, _, _, _]) zm_M_likes (by decide) rfl (Nat.le_of_ble_eq_true rfl) ?_
  generalize hQ : (zPL (GM L) (fun z σ' => z = likF Wm S m c (S 2 c) ∧ stM σ0 σ' b v Wm S)) = Q
  have hb := h0.2.2.1
  have w1 := hWI.1
  have w3 := hWI.2.2.1
  have bc := hSI.2.2.2.1 c hc.1 hc.2
  have rc := h0.1.2.1 c hc.1 hc.2
  have hf1 := h0.2.1.2.2.2.2.2
  refine zaload_n (k := 0) rfl rfl ?_
  refine ziconst (k := 1) rfl (by decide) ?_
  refine zfV1 (k := 2) rfl (c_M_isTold hb hb1 (by omega)) fm_M_isTold lk_12_442 rfl rfl ob_289 ⟨_, rfl, rfl⟩ (Nat.le_of_ble_eq_true rfl) (by decide) ⟨by decide, by decide⟩ ?_
  refine zif_ne (k := 3) rfl rfl (fun c1 => ?_) (fun c1 => ?_)
  · skip
    refine zaload_n (k := 14) rfl rfl ?_
    refine ziload_n (k := 15) rfl rfl ?_
    refine ziload_n (k := 16) rfl rfl ?_
    refine ziload_n (k := 17) rfl rfl ?_
    refine zpV0 (k := 18) rfl (c_M_tells hb1 hv h0 hSI hWI hm hc) fm_M_tells lk_12_445 rfl rfl ob_289 ⟨_, rfl, rfl⟩ (Nat.le_of_ble_eq_true rfl) (by decide) ⟨by decide, by decide⟩ (fun σ2 h2 => ?_)
    have hq : 0 < Wm 10 1 := by
      unfold fmM at hf1
      rcases hf1 with r | r
      · exfalso; omega
      · exact r.1
    rw [if_neg hd] at h2
    refine zaload_n (k := 19) rfl rfl ?_
    refine ziconst (k := 20) rfl (by decide) ?_
    refine zpVL (k := 21) rfl (k_mreck (gs := 11) (gl := 10) hb1 h2.1 (Or.inr ⟨rfl, rfl, rfl⟩) hq hWI.2.2.2.2.2.2.2.2.1 h2.2 (env_b hSI hm hc bc.2.1 (dst_b hWI _ _))) fm_M_reckons lk_12_449 rfl rfl ob_289 ⟨_, rfl, rfl⟩ (Nat.le_of_ble_eq_true rfl) (by decide) ⟨by decide, by decide⟩ (fun z σ3 h3 => ?_)
    refine zlreturn (k := 22) rfl rfl rfl ?_
    rw [← hQ]
    exact ⟨rfl, _, rfl, by rw [likF_1 hq]; exact h3.1, h3.2⟩
  · skip
    refine zaload_n (k := 4) rfl rfl ?_
    refine zgF 47 (k := 5) rfl ob_289 fl_12_156 rfl fx_289_47 ?_
    refine zbipush (k := 6) rfl rfl ?_
    refine ziload_n (k := 7) rfl rfl ?_
    refine zimulB (k := 8) rfl (by omega) ?_
    refine ziload_n (k := 9) rfl rfl ?_
    refine ziaddB (k := 10) rfl (by omega) ?_
    refine ziaload (k := 11) rfl ar_317 ⟨by omega, by omega⟩ ?_
    rw [rc.2.1]
    refine zi2l (k := 12) rfl ?_
    refine zlreturn (k := 13) rfl rfl rfl ?_
    rw [← hQ]
    have hq : ¬ 0 < Wm 10 1 := by
      unfold fmM at hf1
      rcases hf1 with r | r
      · omega
      · obtain ⟨i0, f1, f2, f3⟩ := r.2; exfalso; omega
    exact ⟨rfl, _, rfl, by rw [likF_0 hq], h0⟩
set_option maxHeartbeats 4000000 in
set_option maxRecDepth 20000 in
theorem c_M_nextOf {Γ : zv_M} {L : Int} {σ0 σ Wm S : zv_H} {b v : Int} (hb1 : b = 0 ∨ b = 1) (hv : 0 ≤ v ∧ v < 22) (h0 : stM σ0 σ b v Wm S) (hSI : SI (Wm 0 1) (Wm 0 3) S) (hWI : WI Wm) {m : Int} (hm : 0 ≤ m ∧ m < Wm 0 3)  : zC Γ m_M_nextOf 4 0 0 (GM L) [zR 289, zI v, zI m] σ (zPI (GM L) (fun z σ' => z = nxtF Wm S m ∧ stM σ0 σ' b v Wm S)) := by
  refine zC_of (ls0 := [_, _, _, _, _, _, _, _, _, _]) zm_M_nextOf (by decide) rfl (Nat.le_of_ble_eq_true rfl) ?_
  generalize hQ : (zPI (GM L) (fun z σ' => z = nxtF Wm S m ∧ stM σ0 σ' b v Wm S)) = Q
  have hb := h0.2.2.1
  have w1 := hWI.1
  have w3 := hWI.2.2.1
  have bm := hSI.2.2.2.2.1 m hm.1 hm.2
  have rm := h0.1.2.2.1 m hm.1 hm.2
  refine zaload_n (k := 0) rfl rfl ?_
  refine zgF 49 (k := 1) rfl ob_289 fl_12_162 rfl fx_289_49 ?_
  refine zbipush (k := 2) rfl rfl ?_
  refine ziload_n (k := 3) rfl rfl ?_
  refine zimulB (k := 4) rfl (by omega) ?_
  refine ziload_n (k := 5) rfl rfl ?_
  refine ziaddB (k := 6) rfl (by omega) ?_
  refine ziaload (k := 7) rfl ar_319 ⟨by omega, by omega⟩ ?_
  rw [rm.1]
  refine zistore_n (k := 8) (ls' := [_, _, _, _, _, _, _, _, _, _]) rfl (Nat.le_of_ble_eq_true rfl) rfl ?_
  refine ziconst (k := 9) rfl (by decide) ?_
  refine zistore (k := 10) (ls' := [_, _, _, _, _, _, _, _, _, _]) rfl (Nat.le_of_ble_eq_true rfl) rfl ?_
  refine zlconst (k := 11) (z := 0) rfl rfl ?_
  refine zlstore (k := 12) (ls' := [_, _, _, _, _, _, _, _, _, _]) rfl (Nat.le_of_ble_eq_true rfl) rfl ?_
  refine ziconst (k := 13) rfl (by decide) ?_
  refine zistore (k := 14) (ls' := [_, _, _, _, _, _, _, _, _, _]) rfl (Nat.le_of_ble_eq_true rfl) rfl ?_
  have lp21 : ∀ (g : Nat) (j : Nat) (σ1 : zv_H), ((Wm 0 1).toNat - j) < g → ((j : Int) ≤ Wm 0 1) → (stM σ0 σ1 b v Wm S) → zV Γ m_M_nextOf 4 0 0 Q (GM L) (0, 0) 21 [some (zR 289), some (zI v), some (zI m), some (zI (S 4 m)), some (zI (nxtL Wm S m j).1), some (zL (nxtL Wm S m j).2), none, some (zI j), none, none] [] σ1 := by
    intro g
    induction g with
    | zero => intro j σ1 hg; exact absurd hg (Nat.not_lt_zero _)
    | succ g ih21 =>
      intro j σ1 hg hj h0
      have hb := h0.2.2.1
      refine ziload (k := 15) rfl rfl ?_
      refine zaload_n (k := 16) rfl rfl ?_
      refine zgF 14 (k := 17) rfl ob_289 fl_12_54 rfl fx_289_14 ?_
      refine zaload_n (k := 18) rfl rfl ?_
      refine zgI 13 (k := 19) rfl ob_289 fl_12_51 rfl fx_289_13 ?_
      rw [hb]
      refine ziaload (k := 20) rfl ar_291 ⟨by omega, by omega⟩ ?_
      rw [h0.2.1.1.1]
      refine zicmp_ge (k := 21) rfl rfl (fun c1 => ?_) (fun c1 => ?_)
      · skip
        rw [show j = (Wm 0 1).toNat by omega]
        refine ziload (k := 52) rfl rfl ?_
        refine zireturn (k := 53) rfl rfl rfl ?_
        rw [← hQ]
        exact ⟨rfl, _, rfl, rfl, h0⟩
      · skip
        refine ziload (k := 22) rfl rfl ?_
        refine ziload_n (k := 23) rfl rfl ?_
        refine zicmp_eq (k := 24) rfl rfl (fun c2 => ?_) (fun c2 => ?_)
        · skip
          refine ziincB (k := 50) (ls' := [_, _, _, _, _, _, _, _, _, _]) rfl rfl (by decide) (by omega) rfl ?_
          refine zgoto (k := 51) rfl rfl ?_
          first
          | (have en : nxtL Wm S m (j + 1) = nxtL Wm S m j := if_neg (fun q => by
               have q1 := q.1
               have q2 := q.2.1
               have q3 := q.2.2
               try simp only [zcc4, zcc1, zcc2] at *
               omega)
             have r := ih21 (j + 1) _ (by omega) (by omega) h0
             rw [en] at r
             exact r)
          | (have en : nxtL Wm S m (j + 1) = ((j : Int), likF Wm S m j (S 2 j)) := if_pos ⟨by omega, by omega, by (try simp only [zcc5] at *); omega⟩
             have r := ih21 (j + 1) _ (by omega) (by omega) h0
             rw [en] at r
             exact r)
        · skip
          refine zaload_n (k := 25) rfl rfl ?_
          refine ziload_n (k := 26) rfl rfl ?_
          refine ziload (k := 27) rfl rfl ?_
          refine zfV1 (k := 28) rfl (c_M_wayBy hb hb1 (by omega) (by omega)) fm_M_wayBy lk_12_439 rfl rfl ob_289 ⟨_, rfl, rfl⟩ (Nat.le_of_ble_eq_true rfl) (by decide) ⟨by decide, by decide⟩ ?_
          rw [way_r h0 hWI ⟨bm.1.1, bm.1.2⟩ ⟨by omega, by omega⟩]
          have db := dst_b hWI (S 4 m) j
          refine zldcw (k := 29) (z := 100000000) rfl kc_12_404 rfl ?_
          refine zicmp_lt (k := 30) rfl rfl (fun c3 => ?_) (fun c3 => ?_)
          · skip
            have hdn : dstF Wm (S 4 m) j ≠ -1 := by omega
            refine zaload_n (k := 32) rfl rfl ?_
            refine ziload_n (k := 33) rfl rfl ?_
            refine ziload_n (k := 34) rfl rfl ?_
            refine ziload (k := 35) rfl rfl ?_
            refine zpVL (k := 36) rfl (c_M_likes hb1 hv h0 hSI hWI hm ⟨by omega, by omega⟩ hdn) fm_M_likes lk_12_453 rfl rfl ob_289 ⟨_, rfl, rfl⟩ (Nat.le_of_ble_eq_true rfl) (by decide) ⟨by decide, by decide⟩ (fun z σ2 h2 => ?_)
            clear h0
            have h0 := h2.2
            rw [h2.1]
            refine zlstore (k := 37) (ls' := [_, _, _, _, _, _, _, _, _, _]) rfl (Nat.le_of_ble_eq_true rfl) rfl ?_
            refine ziload (k := 38) rfl rfl ?_
            refine ziconst (k := 39) rfl (by decide) ?_
            refine zicmp_eq (k := 40) rfl rfl (fun c4 => ?_) (fun c4 => ?_)
            · skip
              refine zlload (k := 46) rfl rfl ?_
              refine zlstore (k := 47) (ls' := [_, _, _, _, _, _, _, _, _, _]) rfl (Nat.le_of_ble_eq_true rfl) rfl ?_
              refine ziload (k := 48) rfl rfl ?_
              refine zistore (k := 49) (ls' := [_, _, _, _, _, _, _, _, _, _]) rfl (Nat.le_of_ble_eq_true rfl) rfl ?_
              refine ziincB (k := 50) (ls' := [_, _, _, _, _, _, _, _, _, _]) rfl rfl (by decide) (by omega) rfl ?_
              refine zgoto (k := 51) rfl rfl ?_
              refine zforget (ls' := [_, _, _, _, _, _, _, _, _, _]) 8 rfl ?_
              first
              | (have en : nxtL Wm S m (j + 1) = nxtL Wm S m j := if_neg (fun q => by
                   have q1 := q.1
                   have q2 := q.2.1
                   have q3 := q.2.2
                   try simp only [zcc4, zcc1, zcc2] at *
                   omega)
                 have r := ih21 (j + 1) _ (by omega) (by omega) h0
                 rw [en] at r
                 exact r)
              | (have en : nxtL Wm S m (j + 1) = ((j : Int), likF Wm S m j (S 2 j)) := if_pos ⟨by omega, by omega, by (try simp only [zcc5] at *); omega⟩
                 have r := ih21 (j + 1) _ (by omega) (by omega) h0
                 rw [en] at r
                 exact r)
            · skip
              refine zlload (k := 41) rfl rfl ?_
              refine zlload (k := 42) rfl rfl ?_
              refine zlcmp (k := 43) rfl ?_
              refine zif_gt (k := 44) rfl rfl (fun c5 => ?_) (fun c5 => ?_)
              · skip
                refine zlload (k := 46) rfl rfl ?_
                refine zlstore (k := 47) (ls' := [_, _, _, _, _, _, _, _, _, _]) rfl (Nat.le_of_ble_eq_true rfl) rfl ?_
                refine ziload (k := 48) rfl rfl ?_
                refine zistore (k := 49) (ls' := [_, _, _, _, _, _, _, _, _, _]) rfl (Nat.le_of_ble_eq_true rfl) rfl ?_
                refine ziincB (k := 50) (ls' := [_, _, _, _, _, _, _, _, _, _]) rfl rfl (by decide) (by omega) rfl ?_
                refine zgoto (k := 51) rfl rfl ?_
                refine zforget (ls' := [_, _, _, _, _, _, _, _, _, _]) 8 rfl ?_
                first
                | (have en : nxtL Wm S m (j + 1) = nxtL Wm S m j := if_neg (fun q => by
                     have q1 := q.1
                     have q2 := q.2.1
                     have q3 := q.2.2
                     try simp only [zcc4, zcc1, zcc2] at *
                     omega)
                   have r := ih21 (j + 1) _ (by omega) (by omega) h0
                   rw [en] at r
                   exact r)
                | (have en : nxtL Wm S m (j + 1) = ((j : Int), likF Wm S m j (S 2 j)) := if_pos ⟨by omega, by omega, by (try simp only [zcc5] at *); omega⟩
                   have r := ih21 (j + 1) _ (by omega) (by omega) h0
                   rw [en] at r
                   exact r)
              · skip
                refine zgoto (k := 45) rfl rfl ?_
                refine ziincB (k := 50) (ls' := [_, _, _, _, _, _, _, _, _, _]) rfl rfl (by decide) (by omega) rfl ?_
                refine zgoto (k := 51) rfl rfl ?_
                refine zforget (ls' := [_, _, _, _, _, _, _, _, _, _]) 8 rfl ?_
                first
                | (have en : nxtL Wm S m (j + 1) = nxtL Wm S m j := if_neg (fun q => by
                     have q1 := q.1
                     have q2 := q.2.1
                     have q3 := q.2.2
                     try simp only [zcc4, zcc1, zcc2] at *
                     omega)
                   have r := ih21 (j + 1) _ (by omega) (by omega) h0
                   rw [en] at r
                   exact r)
                | (have en : nxtL Wm S m (j + 1) = ((j : Int), likF Wm S m j (S 2 j)) := if_pos ⟨by omega, by omega, by (try simp only [zcc5] at *); omega⟩
                   have r := ih21 (j + 1) _ (by omega) (by omega) h0
                   rw [en] at r
                   exact r)
          · skip
            refine zgoto (k := 31) rfl rfl ?_
            refine ziincB (k := 50) (ls' := [_, _, _, _, _, _, _, _, _, _]) rfl rfl (by decide) (by omega) rfl ?_
            refine zgoto (k := 51) rfl rfl ?_
            first
            | (have en : nxtL Wm S m (j + 1) = nxtL Wm S m j := if_neg (fun q => by
                 have q1 := q.1
                 have q2 := q.2.1
                 have q3 := q.2.2
                 try simp only [zcc4, zcc1, zcc2] at *
                 omega)
               have r := ih21 (j + 1) _ (by omega) (by omega) h0
               rw [en] at r
               exact r)
            | (have en : nxtL Wm S m (j + 1) = ((j : Int), likF Wm S m j (S 2 j)) := if_pos ⟨by omega, by omega, by (try simp only [zcc5] at *); omega⟩
               have r := ih21 (j + 1) _ (by omega) (by omega) h0
               rw [en] at r
               exact r)
  exact lp21 _ 0 _ (Nat.lt_succ_self _) (by omega) h0
set_option maxHeartbeats 4000000 in
set_option maxRecDepth 20000 in
theorem c_M_goesOn {Γ : zv_M} {L : Int} {σ0 σ Wm S : zv_H} {b v : Int} (hb1 : b = 0 ∨ b = 1) (hv : 0 ≤ v ∧ v < 22) (h0 : stM σ0 σ b v Wm S) (hSI : SI (Wm 0 1) (Wm 0 3) S) (hWI : WI Wm) {m : Int} (hm : 0 ≤ m ∧ m < Wm 0 3)  : zC Γ m_M_goesOn_ 5 0 0 (GM L) [zR 289, zI v, zI m] σ (zP0 (GM L) (fun σ' => stM σ0 σ' b v Wm (gonF Wm S m))) := by
  refine zC_of (ls0 := [_, _, _, _]) zm_M_goesOn_ (by decide) rfl (Nat.le_of_ble_eq_true rfl) ?_
  generalize hQ : (zP0 (GM L) (fun σ' => stM σ0 σ' b v Wm (gonF Wm S m))) = Q
  have hb := h0.2.2.1
  have w1 := hWI.1
  have w3 := hWI.2.2.1
  have bm := hSI.2.2.2.2.1 m hm.1 hm.2
  refine zaload_n (k := 0) rfl rfl ?_
  refine ziload_n (k := 1) rfl rfl ?_
  refine ziload_n (k := 2) rfl rfl ?_
  refine zpVI (k := 3) rfl (c_M_nextOf hb1 hv h0 hSI hWI hm) fm_M_nextOf lk_12_456 rfl rfl ob_289 ⟨_, rfl, rfl⟩ (Nat.le_of_ble_eq_true rfl) (by decide) ⟨by decide, by decide⟩ (fun z σ2 h2 => ?_)
  clear h0
  have h0 := h2.2
  rw [h2.1]
  have hb := h0.2.2.1
  have rm := h0.1.2.2.1 m hm.1 hm.2
  refine zistore_n (k := 4) (ls' := [_, _, _, _]) rfl (Nat.le_of_ble_eq_true rfl) rfl ?_
  refine zaload_n (k := 5) rfl rfl ?_
  refine zgF 50 (k := 6) rfl ob_289 fl_12_165 rfl fx_289_50 ?_
  refine zbipush (k := 7) rfl rfl ?_
  refine ziload_n (k := 8) rfl rfl ?_
  refine zimulB (k := 9) rfl (by omega) ?_
  refine ziload_n (k := 10) rfl rfl ?_
  refine ziaddB (k := 11) rfl (by omega) ?_
  refine ziload_n (k := 12) rfl rfl ?_
  refine ziconst (k := 13) rfl (by decide) ?_
  refine zicmp_ne (k := 14) rfl rfl (fun c1 => ?_) (fun c1 => ?_)
  · skip
    refine ziconst (k := 17) rfl (by decide) ?_
    refine ziastore (k := 18) rfl ar_320 ⟨by omega, by omega⟩ (by omega) ?_
    refine ziload_n (k := 19) rfl rfl ?_
    refine ziconst (k := 20) rfl (by decide) ?_
    refine zicmp_ne (k := 21) rfl rfl (fun c2 => ?_) (fun c2 => ?_)
    · skip
      have nb := nxtF_b w1.1 (by assumption)
      refine zaload_n (k := 23) rfl rfl ?_
      refine zgF 51 (k := 24) rfl ob_289 fl_12_168 rfl fx_289_51 ?_
      refine zbipush (k := 25) rfl rfl ?_
      refine ziload_n (k := 26) rfl rfl ?_
      refine zimulB (k := 27) rfl (by omega) ?_
      refine ziload_n (k := 28) rfl rfl ?_
      refine ziaddB (k := 29) rfl (by omega) ?_
      refine zaload_n (k := 30) rfl rfl ?_
      refine zaload_n (k := 31) rfl rfl ?_
      refine zgF 49 (k := 32) rfl ob_289 fl_12_162 rfl fx_289_49 ?_
      refine zbipush (k := 33) rfl rfl ?_
      refine ziload_n (k := 34) rfl rfl ?_
      refine zimulB (k := 35) rfl (by omega) ?_
      refine ziload_n (k := 36) rfl rfl ?_
      refine ziaddB (k := 37) rfl (by omega) ?_
      refine ziaload (k := 38) rfl ar_319 ⟨by omega, by omega⟩ ?_
      rw [zup_n (by omega), rm.1]
      refine ziload_n (k := 39) rfl rfl ?_
      refine zfV1 (k := 40) rfl (c_M_wayBy (b := b) (by rw [zup_n (by omega)]; exact hb) hb1 (by omega) (by omega)) fm_M_wayBy lk_12_439 rfl rfl ob_289 ⟨_, rfl, rfl⟩ (Nat.le_of_ble_eq_true rfl) (by decide) ⟨by decide, by decide⟩ ?_
      rw [zup_n (by omega), way_r h0 hWI ⟨bm.1.1, bm.1.2⟩ ⟨by omega, by omega⟩, if_neg nb.2.2.2]
      refine ziastore (k := 41) rfl ar_321 ⟨by omega, by omega⟩ (by omega) ?_
      refine zaload_n (k := 42) rfl rfl ?_
      refine zgF 49 (k := 43) rfl ob_289 fl_12_162 rfl fx_289_49 ?_
      refine zbipush (k := 44) rfl rfl ?_
      refine ziload_n (k := 45) rfl rfl ?_
      refine zimulB (k := 46) rfl (by omega) ?_
      refine ziload_n (k := 47) rfl rfl ?_
      refine ziaddB (k := 48) rfl (by omega) ?_
      refine ziload_n (k := 49) rfl rfl ?_
      refine ziastore (k := 50) rfl ar_319 ⟨by omega, by omega⟩ (by omega) ?_
      refine zreturn (k := 51) rfl rfl rfl ?_
      rw [← hQ]
      refine ⟨rfl, rfl, ?_⟩
      unfold gonF
      first
      | (rw [if_pos (by assumption)]; exact stM_m (f := 5) h0 (by omega) (by omega) w3.2)
      | (rw [if_neg (by assumption)]; exact stM_m (f := 4) (stM_m (f := 6) (stM_m (f := 5) h0 (by omega) (by omega) w3.2) (by omega) (by omega) w3.2) (by omega) (by omega) w3.2)
      | (exfalso; omega)
    · skip
      refine zreturn (k := 22) rfl rfl rfl ?_
      rw [← hQ]
      refine ⟨rfl, rfl, ?_⟩
      unfold gonF
      first
      | (rw [if_pos (by assumption)]; exact stM_m (f := 5) h0 (by omega) (by omega) w3.2)
      | (rw [if_neg (by assumption)]; exact stM_m (f := 4) (stM_m (f := 6) (stM_m (f := 5) h0 (by omega) (by omega) w3.2) (by omega) (by omega) w3.2) (by omega) (by omega) w3.2)
      | (exfalso; omega)
  · skip
    refine ziconst (k := 15) rfl (by decide) ?_
    refine zgoto (k := 16) rfl rfl ?_
    refine ziastore (k := 18) rfl ar_320 ⟨by omega, by omega⟩ (by omega) ?_
    refine ziload_n (k := 19) rfl rfl ?_
    refine ziconst (k := 20) rfl (by decide) ?_
    refine zicmp_ne (k := 21) rfl rfl (fun c3 => ?_) (fun c3 => ?_)
    · skip
      have nb := nxtF_b w1.1 (by assumption)
      refine zaload_n (k := 23) rfl rfl ?_
      refine zgF 51 (k := 24) rfl ob_289 fl_12_168 rfl fx_289_51 ?_
      refine zbipush (k := 25) rfl rfl ?_
      refine ziload_n (k := 26) rfl rfl ?_
      refine zimulB (k := 27) rfl (by omega) ?_
      refine ziload_n (k := 28) rfl rfl ?_
      refine ziaddB (k := 29) rfl (by omega) ?_
      refine zaload_n (k := 30) rfl rfl ?_
      refine zaload_n (k := 31) rfl rfl ?_
      refine zgF 49 (k := 32) rfl ob_289 fl_12_162 rfl fx_289_49 ?_
      refine zbipush (k := 33) rfl rfl ?_
      refine ziload_n (k := 34) rfl rfl ?_
      refine zimulB (k := 35) rfl (by omega) ?_
      refine ziload_n (k := 36) rfl rfl ?_
      refine ziaddB (k := 37) rfl (by omega) ?_
      refine ziaload (k := 38) rfl ar_319 ⟨by omega, by omega⟩ ?_
      rw [zup_n (by omega), rm.1]
      refine ziload_n (k := 39) rfl rfl ?_
      refine zfV1 (k := 40) rfl (c_M_wayBy (b := b) (by rw [zup_n (by omega)]; exact hb) hb1 (by omega) (by omega)) fm_M_wayBy lk_12_439 rfl rfl ob_289 ⟨_, rfl, rfl⟩ (Nat.le_of_ble_eq_true rfl) (by decide) ⟨by decide, by decide⟩ ?_
      rw [zup_n (by omega), way_r h0 hWI ⟨bm.1.1, bm.1.2⟩ ⟨by omega, by omega⟩, if_neg nb.2.2.2]
      refine ziastore (k := 41) rfl ar_321 ⟨by omega, by omega⟩ (by omega) ?_
      refine zaload_n (k := 42) rfl rfl ?_
      refine zgF 49 (k := 43) rfl ob_289 fl_12_162 rfl fx_289_49 ?_
      refine zbipush (k := 44) rfl rfl ?_
      refine ziload_n (k := 45) rfl rfl ?_
      refine zimulB (k := 46) rfl (by omega) ?_
      refine ziload_n (k := 47) rfl rfl ?_
      refine ziaddB (k := 48) rfl (by omega) ?_
      refine ziload_n (k := 49) rfl rfl ?_
      refine ziastore (k := 50) rfl ar_319 ⟨by omega, by omega⟩ (by omega) ?_
      refine zreturn (k := 51) rfl rfl rfl ?_
      rw [← hQ]
      refine ⟨rfl, rfl, ?_⟩
      unfold gonF
      first
      | (rw [if_pos (by assumption)]; exact stM_m (f := 5) h0 (by omega) (by omega) w3.2)
      | (rw [if_neg (by assumption)]; exact stM_m (f := 4) (stM_m (f := 6) (stM_m (f := 5) h0 (by omega) (by omega) w3.2) (by omega) (by omega) w3.2) (by omega) (by omega) w3.2)
      | (exfalso; omega)
    · skip
      refine zreturn (k := 22) rfl rfl rfl ?_
      rw [← hQ]
      refine ⟨rfl, rfl, ?_⟩
      unfold gonF
      first
      | (rw [if_pos (by assumption)]; exact stM_m (f := 5) h0 (by omega) (by omega) w3.2)
      | (rw [if_neg (by assumption)]; exact stM_m (f := 4) (stM_m (f := 6) (stM_m (f := 5) h0 (by omega) (by omega) w3.2) (by omega) (by omega) w3.2) (by omega) (by omega) w3.2)
      | (exfalso; omega)
