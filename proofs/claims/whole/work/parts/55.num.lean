theorem up_82 (σ : zv_H) (a b c d : Int) : zup (zup (zup (zup σ 53 8 a) 53 2 b) 53 8 c) 53 2 d = zup (zup σ 53 8 c) 53 2 d := by
  funext x j
  unfold zup
  (repeat' split) <;> first | rfl | (exfalso; omega)
theorem nv_b {T : Int → Int} {q : Int} : ∀ j : Nat, (∀ i : Nat, i < j → 48 ≤ T (q + i) ∧ T (q + i) ≤ 57) → 0 ≤ nv10 T q j ∧ nv10 T q j < 10 ^ j
  | 0, _ => ⟨Int.le_refl _, by show (0 : Int) < 1; omega⟩
  | j + 1, h => by
    have ih := nv_b j (fun i hi => h i (by omega))
    have := h j (by omega)
    rw [show nv10 T q (j + 1) = 10 * nv10 T q j + (T (q + j) - 48) from rfl, show (10 : Int) ^ (j + 1) = 10 ^ j * 10 from Int.pow_succ _ _]
    omega
theorem p10_4 {j : Nat} (h : j ≤ 4) : (10 : Int) ^ j ≤ 10000 := by
  have e : j = 0 ∨ j = 1 ∨ j = 2 ∨ j = 3 ∨ j = 4 := by omega
  rcases e with rfl | rfl | rfl | rfl | rfl <;> decide
set_option maxHeartbeats 4000000 in
set_option maxRecDepth 20000 in
theorem c_Scanner_readNumber {Γ : zv_M} {L : Int} {σ : zv_H} {T : Int → Int} {n : Int} (hT : tA σ = T) (hl : σ 2 1 = n) (hn0 : TT T n) {q : Int} (hq : σ 53 2 = q) (hqb : 0 ≤ q ∧ q ≤ 1600) : zC Γ m_Scanner_readNumber 1 0 0 (GM L) [zR 53] σ (zFn none (GM L) (if run 48 57 T 5 q = 5 then zup (zup (zup (zup σ 53 8 (nv10 T q 4)) 53 2 (q + 4)) 53 3 4) 53 5 (q + 4) else zup (zup (zup σ 53 8 (nv10 T q (run 48 57 T 4 q))) 53 2 (q + (run 48 57 T 4 q : Int))) 53 3 2)) := by
  refine zC_of (ls0 := [_, _]) zm_Scanner_readNumber (by decide) rfl (Nat.le_of_ble_eq_true rfl) ?_
  generalize hQ : (zFn none (GM L) (if run 48 57 T 5 q = 5 then zup (zup (zup (zup σ 53 8 (nv10 T q 4)) 53 2 (q + 4)) 53 3 4) 53 5 (q + 4) else zup (zup (zup σ 53 8 (nv10 T q (run 48 57 T 4 q))) 53 2 (q + (run 48 57 T 4 q : Int))) 53 3 2)) = Q
  refine zaload_n (k := 0) rfl rfl ?_
  refine ziconst (k := 1) rfl (by decide) ?_
  refine zpI 8 (k := 2) rfl ob_53 fl_7_72 ⟨_, rfl, rfl⟩ rfl (by omega) rfl fx_53_8 ?_
  refine ziconst (k := 3) rfl (by decide) ?_
  refine zistore_n (k := 4) (ls' := [_, _]) rfl (Nat.le_of_ble_eq_true rfl) rfl ?_
  have lp7 : ∀ (g : Nat) (j : Nat), (4 - j) < g → (j ≤ 4) → (∀ i : Nat, i < j → 48 ≤ T (q + i) ∧ T (q + i) ≤ 57) → zV Γ m_Scanner_readNumber 1 0 0 Q (GM L) (0, 0) 7 [some (zR 53), some (zI j)] [] (zup (zup σ 53 8 (nv10 T q j)) 53 2 (q + j)) := by
    intro g
    induction g with
    | zero => intro j hg; exact absurd hg (Nat.not_lt_zero _)
    | succ g ih7 =>
      intro j hg hj hr
      have wb := nv_b j hr
      have pl := p10_4 hj
      have es : zup (zup σ 53 8 (nv10 T q j)) 53 2 (q + (j : Int)) 53 2 = q + j := zup_s _ _ _ _
      have es8 : zup (zup σ 53 8 (nv10 T q j)) 53 2 (q + (j : Int)) 53 8 = nv10 T q j := by rw [zup_n (by omega), zup_s]
      refine ziload_n (k := 5) rfl rfl ?_
      refine ziconst (k := 6) rfl (by decide) ?_
      refine zicmp_ge (k := 7) rfl rfl (fun c1 => ?_) (fun c1 => ?_)
      · skip
        refine zaload_n (k := 37) rfl rfl ?_
        refine zgF 0 (k := 38) rfl ob_53 fl_7_9 rfl fx_53_0 ?_
        refine zaload_n (k := 39) rfl rfl ?_
        refine zgI 2 (k := 40) rfl ob_53 fl_7_43 rfl fx_53_2 ?_
        rw [es]
        refine zfV1 (k := 41) rfl (k_oct (T := T) (by first | exact hT | (simp only [tA_53]; exact hT)) (by first | (rw [hl]; exact hn0.1.2) | (simp only [up_53]; rw [hl]; exact hn0.1.2))) fm_Tape_octetAt lk_7_53 rfl rfl ob_2 ⟨_, rfl, rfl⟩ (Nat.le_of_ble_eq_true rfl) (by decide) ⟨by decide, by decide⟩ ?_
        refine zfS1 (k := 42) rfl c_Scanner_isDigit fm_Scanner_isDigit lk_7_78 rfl rfl (Nat.le_of_ble_eq_true rfl) (by decide) ⟨by decide, by decide⟩ ?_
        refine zif_eq (k := 43) rfl rfl (fun c2 => ?_) (fun c2 => ?_)
        · skip
          refine zaload_n (k := 52) rfl rfl ?_
          refine ziconst (k := 53) rfl (by decide) ?_
          refine zpI 3 (k := 54) rfl ob_53 fl_7_47 ⟨_, rfl, rfl⟩ rfl (by omega) rfl fx_53_3 ?_
          refine zreturn (k := 55) rfl rfl rfl ?_
          rw [← hQ]
          refine ⟨rfl, rfl, ?_⟩
          first
          | (have hj6 : j = 4 := by
               by_cases hj6 : j = 4
               · exact hj6
               · exfalso; omega
             have r7 : run 48 57 T 5 q = 5 := run_u 5 q 5 (Nat.le_refl _) (fun i hi => by
               by_cases e : i = j
               · rw [e]; omega
               · exact hr i (by omega)) (Or.inl rfl)
             rw [if_pos r7, hj6]
             rfl)
          | (have hnl : ¬ (48 ≤ T (q + (j : Int)) ∧ T (q + (j : Int)) ≤ 57) := by omega
             have r7 : run 48 57 T 5 q = j := run_u 5 q j (by omega) hr (Or.inr hnl)
             have r6 : run 48 57 T 4 q = j := run_u 4 q j hj hr (Or.inr hnl)
             rw [if_neg (by omega), r6])
        · skip
          refine zaload_n (k := 44) rfl rfl ?_
          refine ziconst (k := 45) rfl (by decide) ?_
          refine zpI 3 (k := 46) rfl ob_53 fl_7_47 ⟨_, rfl, rfl⟩ rfl (by omega) rfl fx_53_3 ?_
          refine zaload_n (k := 47) rfl rfl ?_
          refine zaload_n (k := 48) rfl rfl ?_
          refine zgI 2 (k := 49) rfl ob_53 fl_7_43 rfl fx_53_2 ?_
          rw [zup_n (by omega), es]
          refine zpI 5 (k := 50) rfl ob_53 fl_7_66 ⟨_, rfl, rfl⟩ rfl (by omega) rfl fx_53_5 ?_
          refine zreturn (k := 51) rfl rfl rfl ?_
          rw [← hQ]
          refine ⟨rfl, rfl, ?_⟩
          first
          | (have hj6 : j = 4 := by
               by_cases hj6 : j = 4
               · exact hj6
               · exfalso; omega
             have r7 : run 48 57 T 5 q = 5 := run_u 5 q 5 (Nat.le_refl _) (fun i hi => by
               by_cases e : i = j
               · rw [e]; omega
               · exact hr i (by omega)) (Or.inl rfl)
             rw [if_pos r7, hj6]
             rfl)
          | (have hnl : ¬ (48 ≤ T (q + (j : Int)) ∧ T (q + (j : Int)) ≤ 57) := by omega
             have r7 : run 48 57 T 5 q = j := run_u 5 q j (by omega) hr (Or.inr hnl)
             have r6 : run 48 57 T 4 q = j := run_u 4 q j hj hr (Or.inr hnl)
             rw [if_neg (by omega), r6])
      · skip
        refine zaload_n (k := 8) rfl rfl ?_
        refine zgF 0 (k := 9) rfl ob_53 fl_7_9 rfl fx_53_0 ?_
        refine zaload_n (k := 10) rfl rfl ?_
        refine zgI 2 (k := 11) rfl ob_53 fl_7_43 rfl fx_53_2 ?_
        rw [es]
        refine zfV1 (k := 12) rfl (k_oct (T := T) (by first | exact hT | (simp only [tA_53]; exact hT)) (by first | (rw [hl]; exact hn0.1.2) | (simp only [up_53]; rw [hl]; exact hn0.1.2))) fm_Tape_octetAt lk_7_53 rfl rfl ob_2 ⟨_, rfl, rfl⟩ (Nat.le_of_ble_eq_true rfl) (by decide) ⟨by decide, by decide⟩ ?_
        refine zfS1 (k := 13) rfl c_Scanner_isDigit fm_Scanner_isDigit lk_7_78 rfl rfl (Nat.le_of_ble_eq_true rfl) (by decide) ⟨by decide, by decide⟩ ?_
        refine zif_eq (k := 14) rfl rfl (fun c3 => ?_) (fun c3 => ?_)
        · skip
          refine zaload_n (k := 37) rfl rfl ?_
          refine zgF 0 (k := 38) rfl ob_53 fl_7_9 rfl fx_53_0 ?_
          refine zaload_n (k := 39) rfl rfl ?_
          refine zgI 2 (k := 40) rfl ob_53 fl_7_43 rfl fx_53_2 ?_
          rw [es]
          refine zfV1 (k := 41) rfl (k_oct (T := T) (by first | exact hT | (simp only [tA_53]; exact hT)) (by first | (rw [hl]; exact hn0.1.2) | (simp only [up_53]; rw [hl]; exact hn0.1.2))) fm_Tape_octetAt lk_7_53 rfl rfl ob_2 ⟨_, rfl, rfl⟩ (Nat.le_of_ble_eq_true rfl) (by decide) ⟨by decide, by decide⟩ ?_
          refine zfS1 (k := 42) rfl c_Scanner_isDigit fm_Scanner_isDigit lk_7_78 rfl rfl (Nat.le_of_ble_eq_true rfl) (by decide) ⟨by decide, by decide⟩ ?_
          refine zif_eq (k := 43) rfl rfl (fun c4 => ?_) (fun c4 => ?_)
          · skip
            refine zaload_n (k := 52) rfl rfl ?_
            refine ziconst (k := 53) rfl (by decide) ?_
            refine zpI 3 (k := 54) rfl ob_53 fl_7_47 ⟨_, rfl, rfl⟩ rfl (by omega) rfl fx_53_3 ?_
            refine zreturn (k := 55) rfl rfl rfl ?_
            rw [← hQ]
            refine ⟨rfl, rfl, ?_⟩
            first
            | (have hj6 : j = 4 := by
                 by_cases hj6 : j = 4
                 · exact hj6
                 · exfalso; omega
               have r7 : run 48 57 T 5 q = 5 := run_u 5 q 5 (Nat.le_refl _) (fun i hi => by
                 by_cases e : i = j
                 · rw [e]; omega
                 · exact hr i (by omega)) (Or.inl rfl)
               rw [if_pos r7, hj6]
               rfl)
            | (have hnl : ¬ (48 ≤ T (q + (j : Int)) ∧ T (q + (j : Int)) ≤ 57) := by omega
               have r7 : run 48 57 T 5 q = j := run_u 5 q j (by omega) hr (Or.inr hnl)
               have r6 : run 48 57 T 4 q = j := run_u 4 q j hj hr (Or.inr hnl)
               rw [if_neg (by omega), r6])
          · skip
            refine zaload_n (k := 44) rfl rfl ?_
            refine ziconst (k := 45) rfl (by decide) ?_
            refine zpI 3 (k := 46) rfl ob_53 fl_7_47 ⟨_, rfl, rfl⟩ rfl (by omega) rfl fx_53_3 ?_
            refine zaload_n (k := 47) rfl rfl ?_
            refine zaload_n (k := 48) rfl rfl ?_
            refine zgI 2 (k := 49) rfl ob_53 fl_7_43 rfl fx_53_2 ?_
            rw [zup_n (by omega), es]
            refine zpI 5 (k := 50) rfl ob_53 fl_7_66 ⟨_, rfl, rfl⟩ rfl (by omega) rfl fx_53_5 ?_
            refine zreturn (k := 51) rfl rfl rfl ?_
            rw [← hQ]
            refine ⟨rfl, rfl, ?_⟩
            first
            | (have hj6 : j = 4 := by
                 by_cases hj6 : j = 4
                 · exact hj6
                 · exfalso; omega
               have r7 : run 48 57 T 5 q = 5 := run_u 5 q 5 (Nat.le_refl _) (fun i hi => by
                 by_cases e : i = j
                 · rw [e]; omega
                 · exact hr i (by omega)) (Or.inl rfl)
               rw [if_pos r7, hj6]
               rfl)
            | (have hnl : ¬ (48 ≤ T (q + (j : Int)) ∧ T (q + (j : Int)) ≤ 57) := by omega
               have r7 : run 48 57 T 5 q = j := run_u 5 q j (by omega) hr (Or.inr hnl)
               have r6 : run 48 57 T 4 q = j := run_u 4 q j hj hr (Or.inr hnl)
               rw [if_neg (by omega), r6])
        · skip
          have tT : 48 ≤ T (q + (j : Int)) ∧ T (q + (j : Int)) ≤ 57 := by omega
          refine zaload_n (k := 15) rfl rfl ?_
          refine zbipush (k := 16) rfl rfl ?_
          refine zaload_n (k := 17) rfl rfl ?_
          refine zgI 8 (k := 18) rfl ob_53 fl_7_72 rfl fx_53_8 ?_
          rw [es8]
          refine zimulB (k := 19) rfl (by omega) ?_
          refine zaload_n (k := 20) rfl rfl ?_
          refine zgF 0 (k := 21) rfl ob_53 fl_7_9 rfl fx_53_0 ?_
          refine zaload_n (k := 22) rfl rfl ?_
          refine zgI 2 (k := 23) rfl ob_53 fl_7_43 rfl fx_53_2 ?_
          rw [es]
          refine zfV1 (k := 24) rfl (k_oct (T := T) (by first | exact hT | (simp only [tA_53]; exact hT)) (by first | (rw [hl]; exact hn0.1.2) | (simp only [up_53]; rw [hl]; exact hn0.1.2))) fm_Tape_octetAt lk_7_53 rfl rfl ob_2 ⟨_, rfl, rfl⟩ (Nat.le_of_ble_eq_true rfl) (by decide) ⟨by decide, by decide⟩ ?_
          refine zbipush (k := 25) rfl rfl ?_
          refine zisubB (k := 26) rfl (by omega) ?_
          refine ziaddB (k := 27) rfl (by omega) ?_
          refine zpI 8 (k := 28) rfl ob_53 fl_7_72 ⟨_, rfl, rfl⟩ rfl (by omega) rfl fx_53_8 ?_
          refine zaload_n (k := 29) rfl rfl ?_
          refine zdup (k := 30) rfl rfl ?_
          refine zgI 2 (k := 31) rfl ob_53 fl_7_43 rfl fx_53_2 ?_
          rw [zup_n (by omega), es]
          refine ziconst (k := 32) rfl (by decide) ?_
          refine ziaddB (k := 33) rfl (by omega) ?_
          refine zpI 2 (k := 34) rfl ob_53 fl_7_43 ⟨_, rfl, rfl⟩ rfl (by omega) rfl fx_53_2 ?_
          refine ziincB (k := 35) (ls' := [_, _]) rfl rfl (by decide) (by omega) rfl ?_
          refine zgoto (k := 36) rfl rfl ?_
          have r := ih7 (j + 1) (by omega) (by omega) (fun i hi => by
            by_cases e : i = j
            · rw [e]; exact tT
            · exact hr i (by omega))
          rw [show q + ((j + 1 : Nat) : Int) = q + (j : Int) + 1 by omega, ← up_82 σ (nv10 T q j) (q + (j : Int))] at r
          exact r
  have r := lp7 5 0 (by omega) (by omega) (fun i hi => absurd hi (Nat.not_lt_zero _))
  rw [show q + ((0 : Nat) : Int) = q by omega, zup_id (σ := zup σ 53 8 (nv10 T q 0)) (by rw [zup_n (by omega)]; exact hq)] at r
  exact r
theorem tK_0 {T : Int → Int} {p : Int} (h : T (tQ T p) = -1) : tK T p = 0 := if_pos h
theorem tK_3 {T : Int → Int} {p : Int} (h : T (tQ T p) ≠ -1) (h2 : ¬ alnm (T (tQ T p))) : tK T p = 3 := by unfold tK; rw [if_neg h, if_pos h2]
theorem tK_4 {T : Int → Int} {p : Int} (h : T (tQ T p) ≠ -1) (h2 : alnm (T (tQ T p))) (h3 : tS T p) : tK T p = 4 := by unfold tK; rw [if_neg h, if_neg (fun q => q h2), if_pos h3]
theorem tK_k {T : Int → Int} {p : Int} (h : T (tQ T p) ≠ -1) (h2 : alnm (T (tQ T p))) (h3 : ¬ tS T p) : tK T p = tK0 T (tQ T p) := by unfold tK; rw [if_neg h, if_neg (fun q => q h2), if_neg h3]
theorem tP_q {T : Int → Int} {p : Int} (h : ¬ (tK T p = 4 ∧ ¬ tS T p)) : tP T p = tQ T p := if_neg h
theorem tP_4 {T : Int → Int} {p : Int} (h : tK T p = 4) (h2 : ¬ tS T p) : tP T p = if 97 ≤ T (tQ T p) ∧ T (tQ T p) ≤ 122 then tQ T p + 6 else tQ T p + 4 := if_pos ⟨h, h2⟩
theorem tO_n {T : Int → Int} {p : Int} (h : tK T p ≠ 1) : tO T p = -1 := if_neg h
theorem tQ_b {T : Int → Int} {n : Int} (hn : TT T n) {p : Int} (hp : 0 ≤ p ∧ p ≤ n) : p ≤ tQ T p ∧ tQ T p ≤ n := by
  have a := skp_b (T := T) 1600 p
  refine ⟨a.1, ?_⟩
  by_cases h : tQ T p ≤ n
  · exact h
  · exfalso
    have := skp_i (T := T) 1600 p n hp.2 (by show n < tQ T p; omega)
    have := hn.2.2 n (by omega)
    omega
theorem tQ_s {T : Int → Int} {n : Int} (hn : TT T n) {p : Int} (hp : 0 ≤ p) : T (tQ T p) ≠ 10 ∧ T (tQ T p) ≠ 32 := skp_s 1600 p (by
  have := hn.1
  have := hn.2.2 (p + (1600 : Nat)) (by omega)
  omega)
theorem tQ_u {T : Int → Int} {n : Int} (hn : TT T n) {p q : Int} (hp : 0 ≤ p) (h0 : p ≤ q) (h1 : ∀ i, p ≤ i → i < q → T i = 10 ∨ T i = 32) (h2 : ¬ (T q = 10 ∨ T q = 32)) : tQ T p = q := skp_u h0 h1 h2 (by
  have := hn.1
  have := hn.2.2 (p + (1600 : Nat)) (by omega)
  omega)
