/-! measures() -/
def mrw (σ : zv_H) (i : Int) (g : Int → Int) : zv_H := fun x k => if x = 297 ∧ 49 * i ≤ k ∧ k < 49 * i + 49 then g (k - 49 * i) else σ x k
theorem mrw_n {σ : zv_H} {i x k : Int} {g : Int → Int} (h : ¬ (x = 297 ∧ 49 * i ≤ k ∧ k < 49 * i + 49)) : mrw σ i g x k = σ x k := if_neg h
theorem mrw_s {σ : zv_H} {i f t : Int} {g : Int → Int} (hf : 0 ≤ f ∧ f < 7) (ht : 0 ≤ t ∧ t < 7) : mrw σ i g 297 (49 * i + 7 * f + t) = g (f * 7 + t) := by
  unfold mrw
  rw [if_pos (by omega), show 49 * i + 7 * f + t - 49 * i = f * 7 + t by omega]
theorem mrw_up {σ : zv_H} {i f t v : Int} {g : Int → Int} (hf : 0 ≤ f ∧ f < 7) (ht : 0 ≤ t ∧ t < 7) : zup (mrw σ i g) 297 (49 * i + 7 * f + t) v = mrw σ i (ups g (f * 7 + t) v) := by
  funext x k
  by_cases e : x = 297 ∧ k = 49 * i + 7 * f + t
  · rw [e.1, e.2, zup_s, mrw_s hf ht, ups_s]
  · rw [zup_n e]
    unfold mrw
    by_cases c : x = 297 ∧ 49 * i ≤ k ∧ k < 49 * i + 49
    · rw [if_pos c, if_pos c, ups_n (by omega)]
    · rw [if_neg c, if_neg c]
def r296 (σ : zv_H) (i : Int) : Int → Int := fun k => σ 296 (49 * i + k)
theorem r296_e (σ : zv_H) (i f t : Int) : σ 296 (49 * i + 7 * f + t) = r296 σ i (f * 7 + t) := by
  unfold r296
  rw [show 49 * i + 7 * f + t = 49 * i + (f * 7 + t) by omega]
def msJ (r o : Int → Int) (c : Int) : Int → Int := fun k => if k < c then msI r k else o k
theorem msJ_0 (σ : zv_H) (i : Int) (r : Int → Int) : σ = mrw σ i (msJ r (fun k => σ 297 (49 * i + k)) (7 * ((0 : Nat) : Int))) := by
  funext x k
  unfold mrw msJ
  by_cases c : x = 297 ∧ 49 * i ≤ k ∧ k < 49 * i + 49
  · rw [if_pos c, if_neg (by omega), c.1]
    show σ 297 k = σ 297 (49 * i + (k - 49 * i))
    rw [show 49 * i + (k - 49 * i) = k by omega]
  · rw [if_neg c]
theorem msJ_s {r o : Int → Int} {f t v : Int} (hf : 0 ≤ f) (ht : 0 ≤ t ∧ t < 7) (hv : v = if f = t then 0 else if 0 < r (f * 7 + t) then r (f * 7 + t) else 100000000) : ups (msJ r o (7 * f + t)) (f * 7 + t) v = msJ r o (7 * f + (t + 1)) := by
  funext k
  by_cases e : k = f * 7 + t
  · rw [e, ups_s]
    unfold msJ
    rw [if_pos (by omega)]
    unfold msI
    rw [show (f * 7 + t) / 7 = f by omega, show (f * 7 + t) % 7 = t by omega]
    exact hv
  · rw [ups_n e]
    unfold msJ
    by_cases c : k < 7 * f + t
    · rw [if_pos c, if_pos (by omega)]
    · rw [if_neg c, if_neg (by omega)]
theorem mrw_w {σ : zv_H} {i : Int} {r o : Int → Int} : mrw σ i (msJ r o 49) = mrw σ i (msI r) := by
  funext x k
  unfold mrw msJ
  by_cases c : x = 297 ∧ 49 * i ≤ k ∧ k < 49 * i + 49
  · rw [if_pos c, if_pos c, if_pos (by omega)]
  · rw [if_neg c, if_neg c]
set_option maxHeartbeats 4000000 in
set_option maxRecDepth 20000 in
theorem ms78 {Γ : zv_M} {L : Int} {Q : zv_P} {σ : zv_H} {i : Int} (hi1_q : i = 0 ∨ i = 1) (f t : Nat) (v : Int) (hf : f < 7) (ht : t < 7) (hv : v = if (f : Int) = t then 0 else if 0 < (r296 σ i) ((f : Int) * 7 + t) then (r296 σ i) ((f : Int) * 7 + t) else 100000000) (kk : zV Γ m_M_measures 1 0 0 Q (GM L) (0, 0) 10 [some (zR 289), some (zI f), some (zI ((t + 1 : Nat) : Int)), none, none] [] (mrw σ i (msJ (r296 σ i) (fun k => σ 297 (49 * i + k)) (7 * (f : Int) + ((t + 1 : Nat) : Int))))) : zV Γ m_M_measures 1 0 0 Q (GM L) (0, 0) 78 [some (zR 289), some (zI f), some (zI t), none, none] [zI v, zI (49 * i + 7 * f + t), zR 297] (mrw σ i (msJ (r296 σ i) (fun k => σ 297 (49 * i + k)) (7 * (f : Int) + (t : Int)))) := by
  refine ziastore (k := 44) rfl ar_297 ⟨by omega, by omega⟩ (by omega) ?_
  rw [mrw_up (by omega) (by omega), msJ_s (by omega) (by omega) hv]
  refine ziincB (k := 45) (ls' := [_, _, _, _, _]) rfl rfl (by decide) (by omega) rfl ?_
  refine zgoto (k := 46) rfl rfl ?_
  exact kk
set_option maxHeartbeats 4000000 in
set_option maxRecDepth 20000 in
theorem c_M_measures {Γ : zv_M} {L : Int} {σ : zv_H} {i : Int} (hin : σ 289 32 = i) (hi1_q : i = 0 ∨ i = 1) (h49_q : ∀ k, 0 ≤ k → k < 49 → 0 ≤ r296 σ i k ∧ r296 σ i k ≤ 9)  : zC Γ m_M_measures 1 0 0 (GM L) [zR 289] σ (zFn none (GM L) (mrw σ i (fwB (msI (r296 σ i)) 7 7))) := by
  refine zC_of (ls0 := [_, _, _, _, _]) zm_M_measures (by decide) rfl (Nat.le_of_ble_eq_true rfl) ?_
  generalize hQ : (zFn none (GM L) (mrw σ i (fwB (msI (r296 σ i)) 7 7))) = Q
  refine ziconst (k := 0) rfl (by decide) ?_
  refine zistore_n (k := 1) (ls' := [_, _, _, _, _]) rfl (Nat.le_of_ble_eq_true rfl) rfl ?_
  have lp2_q : ∀ (g : Nat) (f : Nat), (7 - f) < g → (f ≤ 7) → zV Γ m_M_measures 1 0 0 Q (GM L) (0, 0) 2 [some (zR 289), some (zI f), none, none, none] [] (mrw σ i (msJ (r296 σ i) (fun k => σ 297 (49 * i + k)) (7 * f))) := by
    intro g
    induction g with
    | zero => intro f hg; exact absurd hg (Nat.not_lt_zero _)
    | succ g ih2_q =>
      intro f hg hf
      refine ziload_n (k := 2) rfl rfl ?_
      refine zbipush (k := 3) rfl rfl ?_
      refine zicmp_ge (k := 4) rfl rfl (fun c1_q => ?_) (fun c1_q => ?_)
      · skip
        refine ziconst (k := 49) rfl (by decide) ?_
        refine zistore_n (k := 50) (ls' := [_, _, _, _, _]) rfl (Nat.le_of_ble_eq_true rfl) rfl ?_
        have lp93_q : ∀ (g : Nat) (b : Nat), (7 - b) < g → (b ≤ 7) → zV Γ m_M_measures 1 0 0 Q (GM L) (0, 0) 93 [some (zR 289), some (zI b), none, none, none] [] (mrw σ i (fwB (msI (r296 σ i)) 7 b)) := by
          intro g
          induction g with
          | zero => intro b hg; exact absurd hg (Nat.not_lt_zero _)
          | succ g ih93_q =>
            intro b hg hb
            refine ziload_n (k := 51) rfl rfl ?_
            refine zbipush (k := 52) rfl rfl ?_
            refine zicmp_ge (k := 53) rfl rfl (fun c2_q => ?_) (fun c2_q => ?_)
            · skip
              rw [show b = 7 by omega]
              refine zreturn (k := 111) rfl rfl rfl ?_
              rw [← hQ]
              exact ⟨rfl, rfl, rfl⟩
            · skip
              refine ziconst (k := 54) rfl (by decide) ?_
              refine zistore_n (k := 55) (ls' := [_, _, _, _, _]) rfl (Nat.le_of_ble_eq_true rfl) rfl ?_
              have lp101_q : ∀ (g : Nat) (f : Nat), (7 - f) < g → (f ≤ 7) → zV Γ m_M_measures 1 0 0 Q (GM L) (0, 0) 101 [some (zR 289), some (zI b), some (zI f), none, none] [] (mrw σ i (fwF (fwB (msI (r296 σ i)) 7 b) b 7 f)) := by
                intro g
                induction g with
                | zero => intro f hg; exact absurd hg (Nat.not_lt_zero _)
                | succ g ih101_q =>
                  intro f hg hf2_q
                  refine ziload_n (k := 56) rfl rfl ?_
                  refine zbipush (k := 57) rfl rfl ?_
                  refine zicmp_ge (k := 58) rfl rfl (fun c3_q => ?_) (fun c3_q => ?_)
                  · skip
                    rw [show f = 7 by omega]
                    refine ziincB (k := 109) (ls' := [_, _, _, _, _]) rfl rfl (by decide) (by omega) rfl ?_
                    refine zgoto (k := 110) rfl rfl ?_
                    refine zforget (ls' := [_, _, _, _, _]) 2 rfl ?_
                    exact ih93_q (b + 1) (by omega) (by omega)
                  · skip
                    refine ziconst (k := 59) rfl (by decide) ?_
                    refine zistore_n (k := 60) (ls' := [_, _, _, _, _]) rfl (Nat.le_of_ble_eq_true rfl) rfl ?_
                    have lp109_q : ∀ (g : Nat) (t : Nat), (7 - t) < g → (t ≤ 7) → zV Γ m_M_measures 1 0 0 Q (GM L) (0, 0) 109 [some (zR 289), some (zI b), some (zI f), some (zI t), none] [] (mrw σ i (fwT (fwF (fwB (msI (r296 σ i)) 7 b) b 7 f) b f t)) := by
                      intro g
                      induction g with
                      | zero => intro t hg; exact absurd hg (Nat.not_lt_zero _)
                      | succ g ih109_q =>
                        intro t hg ht2_q
                        refine ziload_n (k := 61) rfl rfl ?_
                        refine zbipush (k := 62) rfl rfl ?_
                        refine zicmp_ge (k := 63) rfl rfl (fun c4_q => ?_) (fun c4_q => ?_)
                        · skip
                          rw [show t = 7 by omega]
                          refine ziincB (k := 107) (ls' := [_, _, _, _, _]) rfl rfl (by decide) (by omega) rfl ?_
                          refine zgoto (k := 108) rfl rfl ?_
                          refine zforget (ls' := [_, _, _, _, _]) 3 rfl ?_
                          exact ih101_q (f + 1) (by omega) (by omega)
                        · skip
                          have hok := fwT_k (fwF_k (b := (b : Int)) (fwB_k (msI_k h49_q) (Nat.le_refl 7) b (by omega)) ⟨by omega, by omega⟩ (Nat.le_refl 7) f (by omega)) (b := (b : Int)) (f := (f : Int)) ⟨by omega, by omega⟩ ⟨by omega, by omega⟩ t (by omega)
                          have q1_q := hok (f * 7 + b) (by omega) (by omega)
                          have q2_q := hok (b * 7 + t) (by omega) (by omega)
                          have q3_q := hok (f * 7 + t) (by omega) (by omega)
                          refine zaload_n (k := 64) rfl rfl ?_
                          refine zgF 20 (k := 65) rfl ob_289 fl_12_72 rfl fx_289_20 ?_
                          refine zaload_n (k := 66) rfl rfl ?_
                          refine zaload_n (k := 67) rfl rfl ?_
                          refine zgI 32 (k := 68) rfl ob_289 fl_12_109 rfl fx_289_32 ?_
                          rw [mrw_n (by omega), hin]
                          refine ziload_n (k := 69) rfl rfl ?_
                          refine ziload_n (k := 70) rfl rfl ?_
                          refine zfV1 (k := 71) rfl (c_M_at (by omega) (by omega) (by omega)) fm_M_at lk_12_379 rfl rfl ob_289 ⟨_, rfl, rfl⟩ (Nat.le_of_ble_eq_true rfl) (by decide) ⟨by decide, by decide⟩ ?_
                          refine ziaload (k := 72) rfl ar_297 ⟨by omega, by omega⟩ ?_
                          refine zaload_n (k := 73) rfl rfl ?_
                          refine zgF 20 (k := 74) rfl ob_289 fl_12_72 rfl fx_289_20 ?_
                          refine zaload_n (k := 75) rfl rfl ?_
                          refine zaload_n (k := 76) rfl rfl ?_
                          refine zgI 32 (k := 77) rfl ob_289 fl_12_109 rfl fx_289_32 ?_
                          rw [mrw_n (by omega), hin]
                          refine ziload_n (k := 78) rfl rfl ?_
                          refine ziload_n (k := 79) rfl rfl ?_
                          refine zfV1 (k := 80) rfl (c_M_at (by omega) (by omega) (by omega)) fm_M_at lk_12_379 rfl rfl ob_289 ⟨_, rfl, rfl⟩ (Nat.le_of_ble_eq_true rfl) (by decide) ⟨by decide, by decide⟩ ?_
                          refine ziaload (k := 81) rfl ar_297 ⟨by omega, by omega⟩ ?_
                          rw [mrw_s (by omega) (by omega), mrw_s (by omega) (by omega)]
                          refine ziaddB (k := 82) rfl (by omega) ?_
                          refine zistore (k := 83) (ls' := [_, _, _, _, _]) rfl (Nat.le_of_ble_eq_true rfl) rfl ?_
                          refine ziload (k := 84) rfl rfl ?_
                          refine zaload_n (k := 85) rfl rfl ?_
                          refine zgF 20 (k := 86) rfl ob_289 fl_12_72 rfl fx_289_20 ?_
                          refine zaload_n (k := 87) rfl rfl ?_
                          refine zaload_n (k := 88) rfl rfl ?_
                          refine zgI 32 (k := 89) rfl ob_289 fl_12_109 rfl fx_289_32 ?_
                          rw [mrw_n (by omega), hin]
                          refine ziload_n (k := 90) rfl rfl ?_
                          refine ziload_n (k := 91) rfl rfl ?_
                          refine zfV1 (k := 92) rfl (c_M_at (by omega) (by omega) (by omega)) fm_M_at lk_12_379 rfl rfl ob_289 ⟨_, rfl, rfl⟩ (Nat.le_of_ble_eq_true rfl) (by decide) ⟨by decide, by decide⟩ ?_
                          refine ziaload (k := 93) rfl ar_297 ⟨by omega, by omega⟩ ?_
                          rw [mrw_s (by omega) (by omega)]
                          refine zicmp_ge (k := 94) rfl rfl (fun c5_q => ?_) (fun c5_q => ?_)
                          · skip
                            rw [show fwT (fwF (fwB (msI (r296 σ i)) 7 b) b 7 f) b f t = fwT (fwF (fwB (msI (r296 σ i)) 7 b) b 7 f) b f (t + 1) from (if_neg (Int.not_lt.mpr (by assumption))).symm]
                            refine ziincB (k := 105) (ls' := [_, _, _, _, _]) rfl rfl (by decide) (by omega) rfl ?_
                            refine zgoto (k := 106) rfl rfl ?_
                            refine zforget (ls' := [_, _, _, _, _]) 4 rfl ?_
                            exact ih109_q (t + 1) (by omega) (by omega)
                          · skip
                            -- LESS
                            refine zaload_n (k := 95) rfl rfl ?_
                            refine zgF 20 (k := 96) rfl ob_289 fl_12_72 rfl fx_289_20 ?_
                            refine zaload_n (k := 97) rfl rfl ?_
                            refine zaload_n (k := 98) rfl rfl ?_
                            refine zgI 32 (k := 99) rfl ob_289 fl_12_109 rfl fx_289_32 ?_
                            rw [mrw_n (by omega), hin]
                            refine ziload_n (k := 100) rfl rfl ?_
                            refine ziload_n (k := 101) rfl rfl ?_
                            refine zfV1 (k := 102) rfl (c_M_at (by omega) (by omega) (by omega)) fm_M_at lk_12_379 rfl rfl ob_289 ⟨_, rfl, rfl⟩ (Nat.le_of_ble_eq_true rfl) (by decide) ⟨by decide, by decide⟩ ?_
                            refine ziload (k := 103) rfl rfl ?_
                            refine ziastore (k := 104) rfl ar_297 ⟨by omega, by omega⟩ (by omega) ?_
                            rw [mrw_up (by omega) (by omega), show ups (fwT (fwF (fwB (msI (r296 σ i)) 7 b) b 7 f) b f t) _ _ = fwT (fwF (fwB (msI (r296 σ i)) 7 b) b 7 f) b f (t + 1) from (if_pos (by assumption)).symm]
                            refine ziincB (k := 105) (ls' := [_, _, _, _, _]) rfl rfl (by decide) (by omega) rfl ?_
                            refine zgoto (k := 106) rfl rfl ?_
                            refine zforget (ls' := [_, _, _, _, _]) 4 rfl ?_
                            exact ih109_q (t + 1) (by omega) (by omega)
                    exact lp109_q _ 0 (Nat.lt_succ_self _) (by omega)
              exact lp101_q _ 0 (Nat.lt_succ_self _) (by omega)
        rw [show 7 * (f : Int) = 49 by omega, mrw_w]
        exact lp93_q _ 0 (Nat.lt_succ_self _) (by omega)
      · skip
        refine ziconst (k := 5) rfl (by decide) ?_
        refine zistore_n (k := 6) (ls' := [_, _, _, _, _]) rfl (Nat.le_of_ble_eq_true rfl) rfl ?_
        have lp10_q : ∀ (g : Nat) (t : Nat), (7 - t) < g → (t ≤ 7) → zV Γ m_M_measures 1 0 0 Q (GM L) (0, 0) 10 [some (zR 289), some (zI f), some (zI t), none, none] [] (mrw σ i (msJ (r296 σ i) (fun k => σ 297 (49 * i + k)) (7 * f + t))) := by
          intro g
          induction g with
          | zero => intro t hg; exact absurd hg (Nat.not_lt_zero _)
          | succ g ih10_q =>
            intro t hg ht
            have e296_q := r296_e σ i f t
            refine ziload_n (k := 7) rfl rfl ?_
            refine zbipush (k := 8) rfl rfl ?_
            refine zicmp_ge (k := 9) rfl rfl (fun c6_q => ?_) (fun c6_q => ?_)
            · skip
              refine ziincB (k := 47) (ls' := [_, _, _, _, _]) rfl rfl (by decide) (by omega) rfl ?_
              refine zgoto (k := 48) rfl rfl ?_
              refine zforget (ls' := [_, _, _, _, _]) 2 rfl ?_
              have rr := ih2_q (f + 1) (by omega) (by omega)
              rw [show (7 : Int) * ((f + 1 : Nat) : Int) = 7 * (f : Int) + (t : Int) by omega] at rr
              exact rr
            · skip
              refine zaload_n (k := 10) rfl rfl ?_
              refine zgF 20 (k := 11) rfl ob_289 fl_12_72 rfl fx_289_20 ?_
              refine zaload_n (k := 12) rfl rfl ?_
              refine zaload_n (k := 13) rfl rfl ?_
              refine zgI 32 (k := 14) rfl ob_289 fl_12_109 rfl fx_289_32 ?_
              rw [mrw_n (by omega), hin]
              refine ziload_n (k := 15) rfl rfl ?_
              refine ziload_n (k := 16) rfl rfl ?_
              refine zfV1 (k := 17) rfl (c_M_at (by omega) (by omega) (by omega)) fm_M_at lk_12_379 rfl rfl ob_289 ⟨_, rfl, rfl⟩ (Nat.le_of_ble_eq_true rfl) (by decide) ⟨by decide, by decide⟩ ?_
              refine ziload_n (k := 18) rfl rfl ?_
              refine ziload_n (k := 19) rfl rfl ?_
              refine zicmp_ne (k := 20) rfl rfl (fun c7_q => ?_) (fun c7_q => ?_)
              · skip
                refine zaload_n (k := 23) rfl rfl ?_
                refine zgF 19 (k := 24) rfl ob_289 fl_12_69 rfl fx_289_19 ?_
                refine zaload_n (k := 25) rfl rfl ?_
                refine zaload_n (k := 26) rfl rfl ?_
                refine zgI 32 (k := 27) rfl ob_289 fl_12_109 rfl fx_289_32 ?_
                rw [mrw_n (by omega), hin]
                refine ziload_n (k := 28) rfl rfl ?_
                refine ziload_n (k := 29) rfl rfl ?_
                refine zfV1 (k := 30) rfl (c_M_at (by omega) (by omega) (by omega)) fm_M_at lk_12_379 rfl rfl ob_289 ⟨_, rfl, rfl⟩ (Nat.le_of_ble_eq_true rfl) (by decide) ⟨by decide, by decide⟩ ?_
                refine ziaload (k := 31) rfl ar_296 ⟨by omega, by omega⟩ ?_
                rw [mrw_n (by omega), e296_q]
                refine zif_le (k := 32) rfl rfl (fun c8_q => ?_) (fun c8_q => ?_)
                · skip
                  refine zldcw (k := 43) (z := 100000000) rfl kc_12_404 rfl ?_
                  refine ms78 hi1_q f t _ (by omega) (by omega) ?_ (ih10_q (t + 1) (by omega) (by omega))
                  rw [if_neg (by omega), if_neg (by omega)]
                · skip
                  -- POS
                  refine zaload_n (k := 33) rfl rfl ?_
                  refine zgF 19 (k := 34) rfl ob_289 fl_12_69 rfl fx_289_19 ?_
                  refine zaload_n (k := 35) rfl rfl ?_
                  refine zaload_n (k := 36) rfl rfl ?_
                  refine zgI 32 (k := 37) rfl ob_289 fl_12_109 rfl fx_289_32 ?_
                  rw [mrw_n (by omega), hin]
                  refine ziload_n (k := 38) rfl rfl ?_
                  refine ziload_n (k := 39) rfl rfl ?_
                  refine zfV1 (k := 40) rfl (c_M_at (by omega) (by omega) (by omega)) fm_M_at lk_12_379 rfl rfl ob_289 ⟨_, rfl, rfl⟩ (Nat.le_of_ble_eq_true rfl) (by decide) ⟨by decide, by decide⟩ ?_
                  refine ziaload (k := 41) rfl ar_296 ⟨by omega, by omega⟩ ?_
                  rw [mrw_n (by omega), e296_q]
                  refine zgoto (k := 42) rfl rfl ?_
                  refine ms78 hi1_q f t _ (by omega) (by omega) ?_ (ih10_q (t + 1) (by omega) (by omega))
                  rw [if_neg (by omega), if_pos (by omega)]
              · skip
                -- EQ
                refine ziconst (k := 21) rfl (by decide) ?_
                refine zgoto (k := 22) rfl rfl ?_
                refine ms78 hi1_q f t _ (by omega) (by omega) ?_ (ih10_q (t + 1) (by omega) (by omega))
                exact (if_pos (by omega)).symm
        have rr := lp10_q _ 0 (Nat.lt_succ_self _) (by omega)
        rw [show (7 : Int) * (f : Int) + ((0 : Nat) : Int) = 7 * (f : Int) by omega] at rr
        exact rr
  rw [msJ_0 σ i (r296 σ i)]
  exact lp2_q _ 0 (Nat.lt_succ_self _) (by omega)
