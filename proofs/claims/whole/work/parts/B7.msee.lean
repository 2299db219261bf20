/-! see, feed, end: the model's -/
def seeQ (T : Int → Int) (n : Int) : Prop := n % 2 = 0 ∧ 1 ≤ n / 2 ∧ n / 2 ≤ 16 ∧ seeB T (n / 2).toNat = true
def seM (T : Int → Int) (σ : zv_H) (r : Int) : zv_H := fun x k => if x = 332 ∧ 0 ≤ k ∧ k < r then T (2 * k) else if x = 333 ∧ 0 ≤ k ∧ k < r then T (2 * k + 1) else σ x k
theorem seM_n {T : Int → Int} {σ : zv_H} {r x : Int} (h1_q : x ≠ 332) (h2_q : x ≠ 333) (k : Int) : seM T σ r x k = σ x k := by
  unfold seM
  rw [if_neg (by omega), if_neg (by omega)]
theorem seM_0 (T : Int → Int) (σ : zv_H) : seM T σ ((0 : Nat) : Int) = σ := by
  funext x k
  unfold seM
  rw [if_neg (by omega), if_neg (by omega)]
theorem seM_s {T : Int → Int} {σ : zv_H} {r : Int} (h : 0 ≤ r) : zup (zup (seM T σ r) 332 r (T (2 * r))) 333 r (T (2 * r + 1)) = seM T σ (r + 1) := by
  funext x k
  unfold seM zup
  dsimp only
  (repeat' split) <;> first | rfl | (exfalso; omega) | (congr 1; omega)
theorem seeB_f {T : Int → Int} {j d : Nat} (h : seeB T d = true) (hj : j < d) : T (2 * j) < 6 ∧ T (2 * j + 1) ≤ 1 := by
  cases hh : seeB T (j + 1) with
  | false =>
    have q := seeB_le T hh (d - (j + 1))
    rw [show j + 1 + (d - (j + 1)) = d by omega, h] at q
    exact absurd q (by decide)
  | true =>
    rw [seeB_s] at hh
    simp only [Bool.and_eq_true, decide_eq_true_eq] at hh
    exact hh.2
set_option maxHeartbeats 4000000 in
set_option maxRecDepth 20000 in
theorem c_M_see {Γ : zv_M} {L : Int} {σ : zv_H} {n : Int} (hn : σ 289 1 = n) (hnb : 0 ≤ n ∧ n ≤ 1600) (hT : ∀ k, 0 ≤ k → k < n → 0 ≤ σ 290 k ∧ σ 290 k ≤ 255)  : zC Γ m_M_see 2 0 0 (GM L) [zR 289] σ (zPI (GM L) (fun z σ' => (seeQ (σ 290) n ∧ z = n / 2 ∧ σ' = seM (σ 290) (zup (zup σ 289 1 0) 289 67 (n / 2)) (n / 2)) ∨ (¬ seeQ (σ 290) n ∧ z = -1 ∧ σ' = rfM (zup σ 289 1 0) 5))) := by
  refine zC_of (ls0 := [_, _, _, _]) zm_M_see (by decide) rfl (Nat.le_of_ble_eq_true rfl) ?_
  generalize hQ : (zPI (GM L) (fun z σ' => (seeQ (σ 290) n ∧ z = n / 2 ∧ σ' = seM (σ 290) (zup (zup σ 289 1 0) 289 67 (n / 2)) (n / 2)) ∨ (¬ seeQ (σ 290) n ∧ z = -1 ∧ σ' = rfM (zup σ 289 1 0) 5))) = Q
  have cut32_q : ∀ (v : Int), ((v = 0 ∨ v = 1) ∧ ((v = 1 ∧ (0 < n ∧ n % 2 = 0 ∧ n ≤ 32) ∧ seeB (σ 290) 0 = true) ∨ (v = 0 ∧ ¬ seeQ (σ 290) n))) → zV Γ m_M_see 2 0 0 Q (GM L) (0, 0) 32 [some (zR 289), some (zI n), some (zI v), none] [] (zup σ 289 1 0) := by
    intro v hv
    refine ziconst (k := 19) rfl (by decide) ?_
    refine zistore_n (k := 20) (ls' := [_, _, _, _]) rfl (Nat.le_of_ble_eq_true rfl) rfl ?_
    have lp34_q : ∀ (g : Nat) (j : Nat) (v : Int), ((n + 2 - 2 * j).toNat) < g → (2 * (j : Int) ≤ n + 1) → ((v = 0 ∨ v = 1) ∧ ((v = 1 ∧ (0 < n ∧ n % 2 = 0 ∧ n ≤ 32) ∧ seeB (σ 290) j = true) ∨ (v = 0 ∧ ¬ seeQ (σ 290) n))) → zV Γ m_M_see 2 0 0 Q (GM L) (0, 0) 34 [some (zR 289), some (zI n), some (zI v), some (zI (2 * j))] [] (zup σ 289 1 0) := by
      intro g
      induction g with
      | zero => intro j v hg; exact absurd hg (Nat.not_lt_zero _)
      | succ g ih34_q =>
        intro j v hg hj hv
        have htt := fun k => hT k
        refine ziload_n (k := 21) rfl rfl ?_
        refine ziload_n (k := 22) rfl rfl ?_
        refine zicmp_ge (k := 23) rfl rfl (fun c1_q => ?_) (fun c1_q => ?_)
        · skip
          refine ziload_n (k := 46) rfl rfl ?_
          refine zif_ne (k := 47) rfl rfl (fun c2_q => ?_) (fun c2_q => ?_)
          · skip
            have sq : seeQ (σ 290) n := by
              rcases hv.2 with q | q
              · exact ⟨by omega, by omega, by omega, by rw [show (n / 2).toNat = j by omega]; exact q.2.2⟩
              · exfalso; omega
            have sq2_q := sq.2.2.1
            have sq1_q := sq.2.1
            have sq0_q := sq.1
            refine zaload_n (k := 52) rfl rfl ?_
            refine ziload_n (k := 53) rfl rfl ?_
            refine ziconst (k := 54) rfl (by decide) ?_
            refine zidivP (k := 55) rfl (by omega) ?_
            refine zpI 67 (k := 56) rfl ob_289 fl_12_216 ⟨_, rfl, rfl⟩ rfl (by omega) rfl fx_289_67 ?_
            refine ziconst (k := 57) rfl (by decide) ?_
            refine zistore_n (k := 58) (ls' := [_, _, _, _]) rfl (Nat.le_of_ble_eq_true rfl) rfl ?_
            refine zforget (ls' := [_, _, _, _]) 2 rfl ?_
            have lp97_q : ∀ (g : Nat) (r : Nat), ((n / 2).toNat - r) < g → ((r : Int) ≤ n / 2) → zV Γ m_M_see 2 0 0 Q (GM L) (0, 0) 97 [some (zR 289), some (zI n), none, some (zI r)] [] (seM (σ 290) (zup (zup σ 289 1 0) 289 67 (n / 2)) r) := by
              intro g
              induction g with
              | zero => intro r hg; exact absurd hg (Nat.not_lt_zero _)
              | succ g ih97_q =>
                intro r hg hr
                refine ziload_n (k := 59) rfl rfl ?_
                refine zaload_n (k := 60) rfl rfl ?_
                refine zgI 67 (k := 61) rfl ob_289 fl_12_216 rfl fx_289_67 ?_
                rw [seM_n (by omega) (by omega), zup_s]
                refine zicmp_ge (k := 62) rfl rfl (fun c3_q => ?_) (fun c3_q => ?_)
                · skip
                  refine zaload_n (k := 87) rfl rfl ?_
                  refine zgI 67 (k := 88) rfl ob_289 fl_12_216 rfl fx_289_67 ?_
                  rw [seM_n (by omega) (by omega), zup_s]
                  refine zireturn (k := 89) rfl rfl rfl ?_
                  rw [← hQ]
                  exact ⟨rfl, _, rfl, Or.inl ⟨sq, rfl, by rw [show (r : Int) = n / 2 by omega]⟩⟩
                · skip
                  refine zaload_n (k := 63) rfl rfl ?_
                  refine zgF 68 (k := 64) rfl ob_289 fl_12_219 rfl fx_289_68 ?_
                  refine ziload_n (k := 65) rfl rfl ?_
                  refine zaload_n (k := 66) rfl rfl ?_
                  refine zgF 0 (k := 67) rfl ob_289 fl_12_7 rfl fx_289_0 ?_
                  refine ziconst (k := 68) rfl (by decide) ?_
                  refine ziload_n (k := 69) rfl rfl ?_
                  refine zimulB (k := 70) rfl (by omega) ?_
                  refine ziaload (k := 71) rfl ar_290 ⟨by omega, by omega⟩ ?_
                  rw [seM_n (by omega) (by omega), zup_n (by omega), zup_n (by omega)]
                  refine ziastore (k := 72) rfl ar_332 ⟨by omega, by omega⟩ (by omega) ?_
                  refine zaload_n (k := 73) rfl rfl ?_
                  refine zgF 69 (k := 74) rfl ob_289 fl_12_222 rfl fx_289_69 ?_
                  refine ziload_n (k := 75) rfl rfl ?_
                  refine zaload_n (k := 76) rfl rfl ?_
                  refine zgF 0 (k := 77) rfl ob_289 fl_12_7 rfl fx_289_0 ?_
                  refine ziconst (k := 78) rfl (by decide) ?_
                  refine ziload_n (k := 79) rfl rfl ?_
                  refine zimulB (k := 80) rfl (by omega) ?_
                  refine ziconst (k := 81) rfl (by decide) ?_
                  refine ziaddB (k := 82) rfl (by omega) ?_
                  refine ziaload (k := 83) rfl ar_290 ⟨by omega, by omega⟩ ?_
                  rw [zup_n (by omega), seM_n (by omega) (by omega), zup_n (by omega), zup_n (by omega)]
                  refine ziastore (k := 84) rfl ar_333 ⟨by omega, by omega⟩ (by omega) ?_
                  refine ziincB (k := 85) (ls' := [_, _, _, _]) rfl rfl (by decide) (by omega) rfl ?_
                  refine zgoto (k := 86) rfl rfl ?_
                  rw [seM_s (by omega)]
                  exact ih97_q (r + 1) (by omega) (by omega)
            have rr := lp97_q ((n / 2).toNat + 1) 0 (by omega) (by omega)
            rw [seM_0] at rr
            exact rr
          · skip
            refine zaload_n (k := 48) rfl rfl ?_
            refine ziconst (k := 49) rfl (by decide) ?_
            refine zfV1 (k := 50) rfl (c_M_refuses (by omega)) fm_M_refuses lk_12_231 rfl rfl ob_289 ⟨_, rfl, rfl⟩ (Nat.le_of_ble_eq_true rfl) (by decide) ⟨by decide, by decide⟩ ?_
            refine zireturn (k := 51) rfl rfl rfl ?_
            rw [← hQ]
            refine ⟨rfl, _, rfl, Or.inr ⟨?_, rfl, rfl⟩⟩
            rcases hv.2 with q | q
            · exfalso; omega
            · exact q.2
        · skip
          refine ziload_n (k := 24) rfl rfl ?_
          refine zif_eq (k := 25) rfl rfl (fun c4_q => ?_) (fun c4_q => ?_)
          · skip
            refine ziload_n (k := 46) rfl rfl ?_
            refine zif_ne (k := 47) rfl rfl (fun c5_q => ?_) (fun c5_q => ?_)
            · skip
              have sq : seeQ (σ 290) n := by
                rcases hv.2 with q | q
                · exact ⟨by omega, by omega, by omega, by rw [show (n / 2).toNat = j by omega]; exact q.2.2⟩
                · exfalso; omega
              have sq2_q := sq.2.2.1
              have sq1_q := sq.2.1
              have sq0_q := sq.1
              refine zaload_n (k := 52) rfl rfl ?_
              refine ziload_n (k := 53) rfl rfl ?_
              refine ziconst (k := 54) rfl (by decide) ?_
              refine zidivP (k := 55) rfl (by omega) ?_
              refine zpI 67 (k := 56) rfl ob_289 fl_12_216 ⟨_, rfl, rfl⟩ rfl (by omega) rfl fx_289_67 ?_
              refine ziconst (k := 57) rfl (by decide) ?_
              refine zistore_n (k := 58) (ls' := [_, _, _, _]) rfl (Nat.le_of_ble_eq_true rfl) rfl ?_
              refine zforget (ls' := [_, _, _, _]) 2 rfl ?_
              have lp97_q : ∀ (g : Nat) (r : Nat), ((n / 2).toNat - r) < g → ((r : Int) ≤ n / 2) → zV Γ m_M_see 2 0 0 Q (GM L) (0, 0) 97 [some (zR 289), some (zI n), none, some (zI r)] [] (seM (σ 290) (zup (zup σ 289 1 0) 289 67 (n / 2)) r) := by
                intro g
                induction g with
                | zero => intro r hg; exact absurd hg (Nat.not_lt_zero _)
                | succ g ih97_q =>
                  intro r hg hr
                  refine ziload_n (k := 59) rfl rfl ?_
                  refine zaload_n (k := 60) rfl rfl ?_
                  refine zgI 67 (k := 61) rfl ob_289 fl_12_216 rfl fx_289_67 ?_
                  rw [seM_n (by omega) (by omega), zup_s]
                  refine zicmp_ge (k := 62) rfl rfl (fun c6_q => ?_) (fun c6_q => ?_)
                  · skip
                    refine zaload_n (k := 87) rfl rfl ?_
                    refine zgI 67 (k := 88) rfl ob_289 fl_12_216 rfl fx_289_67 ?_
                    rw [seM_n (by omega) (by omega), zup_s]
                    refine zireturn (k := 89) rfl rfl rfl ?_
                    rw [← hQ]
                    exact ⟨rfl, _, rfl, Or.inl ⟨sq, rfl, by rw [show (r : Int) = n / 2 by omega]⟩⟩
                  · skip
                    refine zaload_n (k := 63) rfl rfl ?_
                    refine zgF 68 (k := 64) rfl ob_289 fl_12_219 rfl fx_289_68 ?_
                    refine ziload_n (k := 65) rfl rfl ?_
                    refine zaload_n (k := 66) rfl rfl ?_
                    refine zgF 0 (k := 67) rfl ob_289 fl_12_7 rfl fx_289_0 ?_
                    refine ziconst (k := 68) rfl (by decide) ?_
                    refine ziload_n (k := 69) rfl rfl ?_
                    refine zimulB (k := 70) rfl (by omega) ?_
                    refine ziaload (k := 71) rfl ar_290 ⟨by omega, by omega⟩ ?_
                    rw [seM_n (by omega) (by omega), zup_n (by omega), zup_n (by omega)]
                    refine ziastore (k := 72) rfl ar_332 ⟨by omega, by omega⟩ (by omega) ?_
                    refine zaload_n (k := 73) rfl rfl ?_
                    refine zgF 69 (k := 74) rfl ob_289 fl_12_222 rfl fx_289_69 ?_
                    refine ziload_n (k := 75) rfl rfl ?_
                    refine zaload_n (k := 76) rfl rfl ?_
                    refine zgF 0 (k := 77) rfl ob_289 fl_12_7 rfl fx_289_0 ?_
                    refine ziconst (k := 78) rfl (by decide) ?_
                    refine ziload_n (k := 79) rfl rfl ?_
                    refine zimulB (k := 80) rfl (by omega) ?_
                    refine ziconst (k := 81) rfl (by decide) ?_
                    refine ziaddB (k := 82) rfl (by omega) ?_
                    refine ziaload (k := 83) rfl ar_290 ⟨by omega, by omega⟩ ?_
                    rw [zup_n (by omega), seM_n (by omega) (by omega), zup_n (by omega), zup_n (by omega)]
                    refine ziastore (k := 84) rfl ar_333 ⟨by omega, by omega⟩ (by omega) ?_
                    refine ziincB (k := 85) (ls' := [_, _, _, _]) rfl rfl (by decide) (by omega) rfl ?_
                    refine zgoto (k := 86) rfl rfl ?_
                    rw [seM_s (by omega)]
                    exact ih97_q (r + 1) (by omega) (by omega)
              have rr := lp97_q ((n / 2).toNat + 1) 0 (by omega) (by omega)
              rw [seM_0] at rr
              exact rr
            · skip
              refine zaload_n (k := 48) rfl rfl ?_
              refine ziconst (k := 49) rfl (by decide) ?_
              refine zfV1 (k := 50) rfl (c_M_refuses (by omega)) fm_M_refuses lk_12_231 rfl rfl ob_289 ⟨_, rfl, rfl⟩ (Nat.le_of_ble_eq_true rfl) (by decide) ⟨by decide, by decide⟩ ?_
              refine zireturn (k := 51) rfl rfl rfl ?_
              rw [← hQ]
              refine ⟨rfl, _, rfl, Or.inr ⟨?_, rfl, rfl⟩⟩
              rcases hv.2 with q | q
              · exfalso; omega
              · exact q.2
          · skip
            refine zaload_n (k := 26) rfl rfl ?_
            refine zgF 0 (k := 27) rfl ob_289 fl_12_7 rfl fx_289_0 ?_
            refine ziload_n (k := 28) rfl rfl ?_
            refine ziaload (k := 29) rfl ar_290 ⟨by omega, by omega⟩ ?_
            rw [zup_n (by omega)]
            refine zbipush (k := 30) rfl rfl ?_
            refine zicmp_ge (k := 31) rfl rfl (fun c7_q => ?_) (fun c7_q => ?_)
            · skip
              refine ziconst (k := 42) rfl (by decide) ?_
              refine zistore_n (k := 43) (ls' := [_, _, _, _]) rfl (Nat.le_of_ble_eq_true rfl) rfl ?_
              refine ziincB (k := 44) (ls' := [_, _, _, _]) rfl rfl (by decide) (by omega) rfl ?_
              refine zgoto (k := 45) rfl rfl ?_
              rcases hv.2 with hq | hq
              · have n32_q := hq.2.1
                have r := fun (u : Int) (hu : (u = 0 ∨ u = 1) ∧ ((u = 1 ∧ (0 < n ∧ n % 2 = 0 ∧ n ≤ 32) ∧ seeB (σ 290) (j + 1) = true) ∨ (u = 0 ∧ ¬ seeQ (σ 290) n))) => ih34_q (j + 1) u (by omega) (by omega) hu
                rw [show 2 * ((j + 1 : Nat) : Int) = 2 * (j : Int) + 2 by omega] at r
                first
                | exact r 1 ⟨Or.inr rfl, Or.inl ⟨rfl, n32_q, by rw [seeB_s, hq.2.2]; simp only [Bool.true_and, Bool.and_eq_true, decide_eq_true_eq]; constructor <;> omega⟩⟩
                | exact r 0 ⟨Or.inl rfl, Or.inr ⟨rfl, fun s => by have s4_q := seeB_f s.2.2.2 (show j < (n / 2).toNat by omega); omega⟩⟩
              · exfalso; omega
            · skip
              refine zaload_n (k := 32) rfl rfl ?_
              refine zgF 0 (k := 33) rfl ob_289 fl_12_7 rfl fx_289_0 ?_
              refine ziload_n (k := 34) rfl rfl ?_
              refine ziconst (k := 35) rfl (by decide) ?_
              refine ziaddB (k := 36) rfl (by omega) ?_
              refine ziaload (k := 37) rfl ar_290 ⟨by omega, by omega⟩ ?_
              rw [zup_n (by omega)]
              refine ziconst (k := 38) rfl (by decide) ?_
              refine zicmp_ge (k := 39) rfl rfl (fun c8_q => ?_) (fun c8_q => ?_)
              · skip
                refine ziconst (k := 42) rfl (by decide) ?_
                refine zistore_n (k := 43) (ls' := [_, _, _, _]) rfl (Nat.le_of_ble_eq_true rfl) rfl ?_
                refine ziincB (k := 44) (ls' := [_, _, _, _]) rfl rfl (by decide) (by omega) rfl ?_
                refine zgoto (k := 45) rfl rfl ?_
                rcases hv.2 with hq | hq
                · have n32_q := hq.2.1
                  have r := fun (u : Int) (hu : (u = 0 ∨ u = 1) ∧ ((u = 1 ∧ (0 < n ∧ n % 2 = 0 ∧ n ≤ 32) ∧ seeB (σ 290) (j + 1) = true) ∨ (u = 0 ∧ ¬ seeQ (σ 290) n))) => ih34_q (j + 1) u (by omega) (by omega) hu
                  rw [show 2 * ((j + 1 : Nat) : Int) = 2 * (j : Int) + 2 by omega] at r
                  first
                  | exact r 1 ⟨Or.inr rfl, Or.inl ⟨rfl, n32_q, by rw [seeB_s, hq.2.2]; simp only [Bool.true_and, Bool.and_eq_true, decide_eq_true_eq]; constructor <;> omega⟩⟩
                  | exact r 0 ⟨Or.inl rfl, Or.inr ⟨rfl, fun s => by have s4_q := seeB_f s.2.2.2 (show j < (n / 2).toNat by omega); omega⟩⟩
                · exfalso; omega
              · skip
                refine ziconst (k := 40) rfl (by decide) ?_
                refine zgoto (k := 41) rfl rfl ?_
                refine zistore_n (k := 43) (ls' := [_, _, _, _]) rfl (Nat.le_of_ble_eq_true rfl) rfl ?_
                refine ziincB (k := 44) (ls' := [_, _, _, _]) rfl rfl (by decide) (by omega) rfl ?_
                refine zgoto (k := 45) rfl rfl ?_
                rcases hv.2 with hq | hq
                · have n32_q := hq.2.1
                  have r := fun (u : Int) (hu : (u = 0 ∨ u = 1) ∧ ((u = 1 ∧ (0 < n ∧ n % 2 = 0 ∧ n ≤ 32) ∧ seeB (σ 290) (j + 1) = true) ∨ (u = 0 ∧ ¬ seeQ (σ 290) n))) => ih34_q (j + 1) u (by omega) (by omega) hu
                  rw [show 2 * ((j + 1 : Nat) : Int) = 2 * (j : Int) + 2 by omega] at r
                  first
                  | exact r 1 ⟨Or.inr rfl, Or.inl ⟨rfl, n32_q, by rw [seeB_s, hq.2.2]; simp only [Bool.true_and, Bool.and_eq_true, decide_eq_true_eq]; constructor <;> omega⟩⟩
                  | exact r 0 ⟨Or.inl rfl, Or.inr ⟨rfl, fun s => by have s4_q := seeB_f s.2.2.2 (show j < (n / 2).toNat by omega); omega⟩⟩
                · exfalso; omega
    exact lp34_q _ 0 _ (Nat.lt_succ_self _) (by omega) hv
  refine zaload_n (k := 0) rfl rfl ?_
  refine zgI 1 (k := 1) rfl ob_289 fl_12_13 rfl fx_289_1 ?_
  rw [hn]
  refine zistore_n (k := 2) (ls' := [_, _, _, _]) rfl (Nat.le_of_ble_eq_true rfl) rfl ?_
  refine zaload_n (k := 3) rfl rfl ?_
  refine ziconst (k := 4) rfl (by decide) ?_
  refine zpI 1 (k := 5) rfl ob_289 fl_12_13 ⟨_, rfl, rfl⟩ rfl (by omega) rfl fx_289_1 ?_
  refine ziload_n (k := 6) rfl rfl ?_
  refine zif_le (k := 7) rfl rfl (fun c9_q => ?_) (fun c9_q => ?_)
  · skip
    refine ziconst (k := 17) rfl (by decide) ?_
    refine zistore_n (k := 18) (ls' := [_, _, _, _]) rfl (Nat.le_of_ble_eq_true rfl) rfl ?_
    first
    | exact cut32_q _ ⟨Or.inr rfl, Or.inl ⟨rfl, ⟨by omega, by omega, by omega⟩, rfl⟩⟩
    | exact cut32_q _ ⟨Or.inl rfl, Or.inr ⟨rfl, fun q => by have q1_q := q.1; have q2_q := q.2.1; have q3_q := q.2.2.1; omega⟩⟩
  · skip
    refine ziload_n (k := 8) rfl rfl ?_
    refine ziconst (k := 9) rfl (by decide) ?_
    refine ziremP (k := 10) rfl (by omega) ?_
    refine zif_ne (k := 11) rfl rfl (fun c10_q => ?_) (fun c10_q => ?_)
    · skip
      refine ziconst (k := 17) rfl (by decide) ?_
      refine zistore_n (k := 18) (ls' := [_, _, _, _]) rfl (Nat.le_of_ble_eq_true rfl) rfl ?_
      first
      | exact cut32_q _ ⟨Or.inr rfl, Or.inl ⟨rfl, ⟨by omega, by omega, by omega⟩, rfl⟩⟩
      | exact cut32_q _ ⟨Or.inl rfl, Or.inr ⟨rfl, fun q => by have q1_q := q.1; have q2_q := q.2.1; have q3_q := q.2.2.1; omega⟩⟩
    · skip
      refine ziload_n (k := 12) rfl rfl ?_
      refine zbipush (k := 13) rfl rfl ?_
      refine zicmp_gt (k := 14) rfl rfl (fun c11_q => ?_) (fun c11_q => ?_)
      · skip
        refine ziconst (k := 17) rfl (by decide) ?_
        refine zistore_n (k := 18) (ls' := [_, _, _, _]) rfl (Nat.le_of_ble_eq_true rfl) rfl ?_
        first
        | exact cut32_q _ ⟨Or.inr rfl, Or.inl ⟨rfl, ⟨by omega, by omega, by omega⟩, rfl⟩⟩
        | exact cut32_q _ ⟨Or.inl rfl, Or.inr ⟨rfl, fun q => by have q1_q := q.1; have q2_q := q.2.1; have q3_q := q.2.2.1; omega⟩⟩
      · skip
        refine ziconst (k := 15) rfl (by decide) ?_
        refine zgoto (k := 16) rfl rfl ?_
        refine zistore_n (k := 18) (ls' := [_, _, _, _]) rfl (Nat.le_of_ble_eq_true rfl) rfl ?_
        first
        | exact cut32_q _ ⟨Or.inr rfl, Or.inl ⟨rfl, ⟨by omega, by omega, by omega⟩, rfl⟩⟩
        | exact cut32_q _ ⟨Or.inl rfl, Or.inr ⟨rfl, fun q => by have q1_q := q.1; have q2_q := q.2.1; have q3_q := q.2.2.1; omega⟩⟩
