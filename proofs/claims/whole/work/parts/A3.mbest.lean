/-! best: the model's -/
def bsM (Wm S : zv_H) (c : Int) (n j : Nat) : Int × Int := if j = 0 then (-1, 100000000) else bstL Wm S c n j
theorem bsM_s {Wm S : zv_H} {c : Int} {n j : Nat} (hb : lftF Wm S c n (37 * j) ≤ 20) : bsM Wm S c n (j + 1) = if lftF Wm S c n (37 * j) < (bsM Wm S c n j).2 then (37 * (j : Int), lftF Wm S c n (37 * j)) else bsM Wm S c n j := by
  show bstL Wm S c n (j + 1) = _
  rw [show bstL Wm S c n (j + 1) = if lftF Wm S c n (37 * j) < (bstL Wm S c n j).2 then (37 * (j : Int), lftF Wm S c n (37 * j)) else bstL Wm S c n j from rfl]
  unfold bsM
  by_cases e : j = 0
  · rw [if_pos e]
    subst e
    have e2 : (bstL Wm S c n 0).2 = 21 := rfl
    dsimp only
    rw [e2, if_pos (by omega), if_pos (by omega)]
  · rw [if_neg e]
theorem bsM_b {Wm S : zv_H} {c : Int} {n : Nat} (hW : WI Wm) (h : SI (Wm 0 1) (Wm 0 3) S) (hc : 0 ≤ c ∧ c < Wm 0 1) : ∀ j : Nat, j ≤ 28 → (-1 ≤ (bsM Wm S c n j).1 ∧ (bsM Wm S c n j).1 ≤ 999) ∧ 0 ≤ (bsM Wm S c n j).2 ∧ (bsM Wm S c n j).2 ≤ 100000000
  | 0, _ => ⟨⟨Int.le_refl _, by show (-1 : Int) ≤ 999; omega⟩, by show (0 : Int) ≤ 100000000; omega, Int.le_refl _⟩
  | j + 1, hj => by
    have ih := bsM_b (n := n) hW h hc j (by omega)
    have b := lft_b (n := n) hW h hc (p := 37 * (j : Int)) (by omega)
    rw [bsM_s b.2]
    split
    · dsimp only; omega
    · exact ih
set_option maxHeartbeats 4000000 in
set_option maxRecDepth 20000 in
theorem c_M_best {Γ : zv_M} {L : Int} {σ Wm S : zv_H} {b : Int} (hb1 : b = 0 ∨ b = 1) (h0 : stM σ σ b 0 Wm S) (hSI : SI (Wm 0 1) (Wm 0 3) S) (hWI : WI Wm) {c n t : Int}  : zC Γ m_M_best 8 0 0 (GM L) [zR 289, zI c, zI n, zI t] σ (zPI (GM L) (fun z σ' => z = bstQ Wm S c n t ∧ scrM σ σ')) := by
  refine zC_of (ls0 := [_, _, _, _, _, _, _, _]) zm_M_best (by decide) rfl (Nat.le_of_ble_eq_true rfl) ?_
  generalize hQ : (zPI (GM L) (fun z σ' => z = bstQ Wm S c n t ∧ scrM σ σ')) = Q
  have hb := h0.2.2.1
  have w1 := hWI.1
  have w3 := hWI.2.2.1
  have r0 := rM_0 h0.1
  have b00 := hSI.1
  have b12 := hSI.2.2.1
  have bc := hSI.2.2.2.1
  have bm := hSI.2.2.2.2.1
  have bl := hSI.2.2.2.2.2.1
  refine zaload_n (k := 0) rfl rfl ?_
  refine ziload_n (k := 1) rfl rfl ?_
  refine zfV1 (k := 2) rfl (c_M_isCounty hb hb1) fm_M_isCounty lk_12_492 rfl rfl ob_289 ⟨_, rfl, rfl⟩ (Nat.le_of_ble_eq_true rfl) (by decide) ⟨by decide, by decide⟩ ?_
  rw [h0.2.1.1.1]
  refine zif_eq (k := 3) rfl rfl (fun c1 => ?_) (fun c1 => ?_)
  · skip
    refine ziconst (k := 15) rfl (by decide) ?_
    refine zireturn (k := 16) rfl rfl rfl ?_
    rw [← hQ]
    refine ⟨rfl, _, rfl, ?_, scrM_rf σ⟩
    unfold bstQ
    rw [if_pos (by omega)]
  · skip
    have hcc : 0 ≤ c ∧ c < Wm 0 1 := by split at c1 <;> first | assumption | (exfalso; omega)
    have rc := r0.2.1 c hcc.1 hcc.2
    refine zaload_n (k := 4) rfl rfl ?_
    refine ziload_n (k := 5) rfl rfl ?_
    refine ziconst (k := 6) rfl (by decide) ?_
    refine zbipush (k := 7) rfl rfl ?_
    refine zfV1 (k := 8) rfl (c_M_isAh r0.1.1 b00 (by omega)) fm_M_isAhead lk_12_498 rfl rfl ob_289 ⟨_, rfl, rfl⟩ (Nat.le_of_ble_eq_true rfl) (by decide) ⟨by decide, by decide⟩ ?_
    refine zif_eq (k := 9) rfl rfl (fun c2 => ?_) (fun c2 => ?_)
    · skip
      refine ziconst (k := 15) rfl (by decide) ?_
      refine zireturn (k := 16) rfl rfl rfl ?_
      rw [← hQ]
      refine ⟨rfl, _, rfl, ?_, scrM_rf σ⟩
      unfold bstQ
      rw [if_pos (by omega)]
    · skip
      have hnn : (1 ≤ n ∧ n ≤ 40) ∧ n ≤ 999 - S 0 0 := by split at c2 <;> first | assumption | (exfalso; omega)
      refine ziload_n (k := 10) rfl rfl ?_
      refine ziconst (k := 11) rfl (by decide) ?_
      refine ziconst (k := 12) rfl (by decide) ?_
      refine zfS1 (k := 13) rfl c_M_is fm_M_is lk_12_315 rfl rfl (Nat.le_of_ble_eq_true rfl) (by decide) ⟨by decide, by decide⟩ ?_
      refine zif_ne (k := 14) rfl rfl (fun c3 => ?_) (fun c3 => ?_)
      · skip
        have htt : 0 ≤ t ∧ t ≤ 1 := by split at c3 <;> first | assumption | (exfalso; omega)
        obtain ⟨N, rfl⟩ : ∃ N : Nat, n = N := ⟨n.toNat, by omega⟩
        refine ziconst (k := 17) rfl (by decide) ?_
        refine zistore (k := 18) (ls' := [_, _, _, _, _, _, _, _]) rfl (Nat.le_of_ble_eq_true rfl) rfl ?_
        refine zldcw (k := 19) (z := 100000000) rfl kc_12_404 rfl ?_
        refine zistore (k := 20) (ls' := [_, _, _, _, _, _, _, _]) rfl (Nat.le_of_ble_eq_true rfl) rfl ?_
        refine ziconst (k := 21) rfl (by decide) ?_
        refine zistore (k := 22) (ls' := [_, _, _, _, _, _, _, _]) rfl (Nat.le_of_ble_eq_true rfl) rfl ?_
        have lp41 : ∀ (g : Nat) (j : Nat) (σ1 : zv_H), (28 - j) < g → (j ≤ 28) → (scrM σ σ1) → zV Γ m_M_best 8 0 0 Q (GM L) (0, 0) 41 [some (zR 289), some (zI c), some (zI N), some (zI t), some (zI (bsM Wm S c N j).1), some (zI (bsM Wm S c N j).2), some (zI (37 * j)), none] [] σ1 := by
          intro g
          induction g with
          | zero => intro j σ1 hg; exact absurd hg (Nat.not_lt_zero _)
          | succ g ih41 =>
            intro j σ1 hg hj hs
            have bb := bsM_b (n := N) hWI hSI hcc j hj
            have g0 : rM σ1 (Wm 0 1) (Wm 0 3) 0 S ∧ wM σ1 b Wm := ⟨rM_v h0.1 w1.2 w3.2 b12.2 (fun x k q => hs x k (inV_d q (by omega)) (by unfold inV at q; omega) (by unfold inV at q; omega)), wM_fr h0.2.1 (fun x k q1 q2 => hs x k (by unfold inV; omega) (by omega) (by omega))⟩
            have hb2 : σ1 289 13 = b := by rw [hs 289 13 (by unfold inV; omega) (by omega) (by omega)]; exact hb
            refine ziload (k := 23) rfl rfl ?_
            refine zsipush (k := 24) rfl rfl ?_
            refine zicmp_gt (k := 25) rfl rfl (fun c4 => ?_) (fun c4 => ?_)
            · skip
              rw [show j = 28 by omega]
              refine ziload_n (k := 67) rfl rfl ?_
              refine zif_ne (k := 68) rfl rfl (fun c5 => ?_) (fun c5 => ?_)
              · skip
                refine ziload (k := 71) rfl rfl ?_
                refine zireturn (k := 72) rfl rfl rfl ?_
                rw [← hQ]
                refine ⟨rfl, _, rfl, ?_, hs⟩
                unfold bstQ
                rw [if_neg (by omega), show (N : Int).toNat = N from rfl]
                first
                | (rw [if_pos (by omega)]; rfl)
                | (rw [if_neg (by omega)]; rfl)
              · skip
                refine ziload (k := 69) rfl rfl ?_
                refine zgoto (k := 70) rfl rfl ?_
                refine zireturn (k := 72) rfl rfl rfl ?_
                rw [← hQ]
                refine ⟨rfl, _, rfl, ?_, hs⟩
                unfold bstQ
                rw [if_neg (by omega), show (N : Int).toNat = N from rfl]
                first
                | (rw [if_pos (by omega)]; rfl)
                | (rw [if_neg (by omega)]; rfl)
            · skip
              refine zaload_n (k := 26) rfl rfl ?_
              refine ziconst (k := 27) rfl (by decide) ?_
              refine ziconst (k := 28) rfl (by decide) ?_
              refine zpV0 (k := 29) rfl (k_mcopy (t := 1) (f := 0) ⟨by omega, by omega⟩ ⟨by omega, by omega⟩ (by omega) g0.1 g0.2 hb2 hWI b12) fm_M_copies lk_12_420 rfl rfl ob_289 ⟨_, rfl, rfl⟩ (Nat.le_of_ble_eq_true rfl) (by decide) ⟨by decide, by decide⟩ (fun σ2 h1 => ?_)
              refine zaload_n (k := 30) rfl rfl ?_
              refine zgF 47 (k := 31) rfl ob_289 fl_12_156 rfl fx_289_47 ?_
              refine zbipush (k := 32) rfl rfl ?_
              refine ziload_n (k := 33) rfl rfl ?_
              refine ziaddB (k := 34) rfl (by omega) ?_
              refine ziload (k := 35) rfl rfl ?_
              refine ziastore (k := 36) rfl ar_317 ⟨by omega, by omega⟩ (by omega) ?_
              have h9 := stM_p (x := 37 * (j : Int)) (by rw [zup_id rfl]; exact h1 : stM σ1 σ2 b 1 Wm (zup S 2 c (S 2 c))) ⟨hcc.1, by omega⟩ w1.2
              refine ziconst (k := 37) rfl (by decide) ?_
              refine zistore (k := 38) (ls' := [_, _, _, _, _, _, _, _]) rfl (Nat.le_of_ble_eq_true rfl) rfl ?_
              have lp69 : ∀ (g : Nat) (i : Nat) (e : Int) (σ3 : zv_H), (N - i) < g → (i ≤ N) → (stM (zup σ1 289 62 e) σ3 b 1 Wm (gooF Wm (zup S 2 c (37 * (j : Int))) i).1) → zV Γ m_M_best 8 0 0 Q (GM L) (0, 0) 69 [some (zR 289), some (zI c), some (zI N), some (zI t), some (zI (bsM Wm S c N j).1), some (zI (bsM Wm S c N j).2), some (zI (37 * j)), some (zI i)] [] σ3 := by
                intro g
                induction g with
                | zero => intro i e σ3 hg; exact absurd hg (Nat.not_lt_zero _)
                | succ g ih69 =>
                  intro i e σ3 hg hi h0
                  have lb := lft_b (n := N) hWI hSI hcc (p := 37 * (j : Int)) (by omega)
                  refine ziload (k := 39) rfl rfl ?_
                  refine ziload_n (k := 40) rfl rfl ?_
                  refine zicmp_ge (k := 41) rfl rfl (fun c6 => ?_) (fun c6 => ?_)
                  · skip
                    refine zaload_n (k := 47) rfl rfl ?_
                    refine zgF 46 (k := 48) rfl ob_289 fl_12_153 rfl fx_289_46 ?_
                    refine zbipush (k := 49) rfl rfl ?_
                    refine ziload_n (k := 50) rfl rfl ?_
                    refine ziaddB (k := 51) rfl (by omega) ?_
                    refine ziaload (k := 52) rfl ar_316 ⟨by omega, by omega⟩ ?_
                    rw [show (7 : Int) + c = 7 * 1 + c by omega, (h0.1.2.1 c hcc.1 hcc.2).1, show i = N by omega, show (gooF Wm (zup S 2 c (37 * (j : Int))) N).1 1 c = lftF Wm S c N (37 * (j : Int)) from rfl]
                    refine ziload (k := 53) rfl rfl ?_
                    refine zicmp_lt (k := 54) rfl rfl (fun c7 => ?_) (fun c7 => ?_)
                    · skip
                      refine zaload_n (k := 56) rfl rfl ?_
                      refine zgF 46 (k := 57) rfl ob_289 fl_12_153 rfl fx_289_46 ?_
                      refine zbipush (k := 58) rfl rfl ?_
                      refine ziload_n (k := 59) rfl rfl ?_
                      refine ziaddB (k := 60) rfl (by omega) ?_
                      refine ziaload (k := 61) rfl ar_316 ⟨by omega, by omega⟩ ?_
                      rw [show (7 : Int) + c = 7 * 1 + c by omega, (h0.1.2.1 c hcc.1 hcc.2).1, show i = N by omega, show (gooF Wm (zup S 2 c (37 * (j : Int))) N).1 1 c = lftF Wm S c N (37 * (j : Int)) from rfl]
                      refine zistore (k := 62) (ls' := [_, _, _, _, _, _, _, _]) rfl (Nat.le_of_ble_eq_true rfl) rfl ?_
                      refine ziload (k := 63) rfl rfl ?_
                      refine zistore (k := 64) (ls' := [_, _, _, _, _, _, _, _]) rfl (Nat.le_of_ble_eq_true rfl) rfl ?_
                      refine ziincB (k := 65) (ls' := [_, _, _, _, _, _, _, _]) rfl rfl (by decide) (by omega) rfl ?_
                      refine zgoto (k := 66) rfl rfl ?_
                      refine zforget (ls' := [_, _, _, _, _, _, _, _]) 7 rfl ?_
                      have es : scrM σ σ3 := fun x k a c d => by rw [(scrM_st h0) x k a c d]; exact hs x k a c d
                      first
                      | (have en : bsM Wm S c N (j + 1) = bsM Wm S c N j := by rw [bsM_s lb.2]; exact if_neg (by omega)
                         have r := ih41 (j + 1) _ (by omega) (by omega) es
                         rw [en, show 37 * ((j + 1 : Nat) : Int) = 37 * (j : Int) + 37 by omega] at r
                         exact r)
                      | (have en : bsM Wm S c N (j + 1) = (37 * (j : Int), lftF Wm S c N (37 * (j : Int))) := by rw [bsM_s lb.2]; exact if_pos (by omega)
                         have r := ih41 (j + 1) _ (by omega) (by omega) es
                         rw [en, show 37 * ((j + 1 : Nat) : Int) = 37 * (j : Int) + 37 by omega] at r
                         exact r)
                    · skip
                      refine zgoto (k := 55) rfl rfl ?_
                      refine ziincB (k := 65) (ls' := [_, _, _, _, _, _, _, _]) rfl rfl (by decide) (by omega) rfl ?_
                      refine zgoto (k := 66) rfl rfl ?_
                      refine zforget (ls' := [_, _, _, _, _, _, _, _]) 7 rfl ?_
                      have es : scrM σ σ3 := fun x k a c d => by rw [(scrM_st h0) x k a c d]; exact hs x k a c d
                      first
                      | (have en : bsM Wm S c N (j + 1) = bsM Wm S c N j := by rw [bsM_s lb.2]; exact if_neg (by omega)
                         have r := ih41 (j + 1) _ (by omega) (by omega) es
                         rw [en, show 37 * ((j + 1 : Nat) : Int) = 37 * (j : Int) + 37 by omega] at r
                         exact r)
                      | (have en : bsM Wm S c N (j + 1) = (37 * (j : Int), lftF Wm S c N (37 * (j : Int))) := by rw [bsM_s lb.2]; exact if_pos (by omega)
                         have r := ih41 (j + 1) _ (by omega) (by omega) es
                         rw [en, show 37 * ((j + 1 : Nat) : Int) = 37 * (j : Int) + 37 by omega] at r
                         exact r)
                  · skip
                    refine zaload_n (k := 42) rfl rfl ?_
                    refine ziconst (k := 43) rfl (by decide) ?_
                    refine zpV0 (k := 44) rfl (c_M_passes hb1 ⟨by omega, by omega⟩ h0 (SI_goo hWI (SI_p (c := c) hSI (v := 37 * (j : Int)) (by omega)) i) hWI (by rw [goo_00 (by rw [zup_n (by omega)]; omega), zup_n (by omega)]; omega)) fm_M_passes lk_12_501 rfl rfl ob_289 ⟨_, rfl, rfl⟩ (Nat.le_of_ble_eq_true rfl) (by decide) ⟨by decide, by decide⟩ (fun σ4 h2 => ?_)
                    rw [zup_zup] at h2
                    refine ziincB (k := 45) (ls' := [_, _, _, _, _, _, _, _]) rfl rfl (by decide) (by omega) rfl ?_
                    refine zgoto (k := 46) rfl rfl ?_
                    exact ih69 (i + 1) _ _ (by omega) (by omega) h2
              exact lp69 _ 0 (σ1 289 62) _ (Nat.lt_succ_self _) (by omega) (by rw [zup_id rfl]; exact h9)
        exact lp41 _ 0 _ (Nat.lt_succ_self _) (by omega) (scrM_rf σ)
      · skip
        refine ziconst (k := 15) rfl (by decide) ?_
        refine zireturn (k := 16) rfl rfl rfl ?_
        rw [← hQ]
        refine ⟨rfl, _, rfl, ?_, scrM_rf σ⟩
        unfold bstQ
        rw [if_pos (by omega)]
