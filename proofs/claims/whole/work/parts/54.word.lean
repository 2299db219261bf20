set_option maxHeartbeats 4000000 in
set_option maxRecDepth 20000 in
theorem c_Scanner_readWord {Γ : zv_M} {L : Int} {σ : zv_H} {T : Int → Int} {n : Int} (hT : tA σ = T) (hl : σ 2 1 = n) (hn0 : TT T n) {q : Int} (hq : σ 53 2 = q) (hqb : 0 ≤ q ∧ q ≤ 1600) (ho : ∀ k, 0 ≤ k → k < 24 → σ 54 k = ownR k) : zC Γ m_Scanner_readWord 1 0 0 (GM L) [zR 53] σ (zFn none (GM L) (if run 97 122 T 7 q = 7 then zup (zup (zup σ 53 2 (q + 6)) 53 3 4) 53 5 (q + 6) else zup (zup (zup (zup σ 53 2 (q + (run 97 122 T 6 q : Int))) 53 3 1) 53 7 (fil27 (wv27 T q (run 97 122 T 6 q)) (6 - run 97 122 T 6 q))) 53 6 (ownI (fil27 (wv27 T q (run 97 122 T 6 q)) (6 - run 97 122 T 6 q))))) := by
  refine zC_of (ls0 := [_, _, _]) zm_Scanner_readWord (by decide) rfl (Nat.le_of_ble_eq_true rfl) ?_
  generalize hQ : (zFn none (GM L) (if run 97 122 T 7 q = 7 then zup (zup (zup σ 53 2 (q + 6)) 53 3 4) 53 5 (q + 6) else zup (zup (zup (zup σ 53 2 (q + (run 97 122 T 6 q : Int))) 53 3 1) 53 7 (fil27 (wv27 T q (run 97 122 T 6 q)) (6 - run 97 122 T 6 q))) 53 6 (ownI (fil27 (wv27 T q (run 97 122 T 6 q)) (6 - run 97 122 T 6 q))))) = Q
  refine ziconst (k := 0) rfl (by decide) ?_
  refine zistore_n (k := 1) (ls' := [_, _, _]) rfl (Nat.le_of_ble_eq_true rfl) rfl ?_
  refine ziconst (k := 2) rfl (by decide) ?_
  refine zistore_n (k := 3) (ls' := [_, _, _]) rfl (Nat.le_of_ble_eq_true rfl) rfl ?_
  have lp4 : ∀ (g : Nat) (j : Nat), (6 - j) < g → (j ≤ 6) → (∀ i : Nat, i < j → 97 ≤ T (q + i) ∧ T (q + i) ≤ 122) → zV Γ m_Scanner_readWord 1 0 0 Q (GM L) (0, 0) 4 [some (zR 53), some (zI (wv27 T q j)), some (zI j)] [] (zup σ 53 2 (q + j)) := by
    intro g
    induction g with
    | zero => intro j hg; exact absurd hg (Nat.not_lt_zero _)
    | succ g ih4 =>
      intro j hg hj hr
      have wb := wv_b j hr
      have pl := p27_le (a := j) (b := 6) hj
      rw [show (27 : Int) ^ 6 = 387420489 from rfl] at pl
      have es : zup σ 53 2 (q + (j : Int)) 53 2 = q + j := zup_s _ _ _ _
      refine ziload_n (k := 4) rfl rfl ?_
      refine zbipush (k := 5) rfl rfl ?_
      refine zicmp_ge (k := 6) rfl rfl (fun c1 => ?_) (fun c1 => ?_)
      · skip
        refine zaload_n (k := 36) rfl rfl ?_
        refine zgF 0 (k := 37) rfl ob_53 fl_7_9 rfl fx_53_0 ?_
        refine zaload_n (k := 38) rfl rfl ?_
        refine zgI 2 (k := 39) rfl ob_53 fl_7_43 rfl fx_53_2 ?_
        rw [es]
        refine zfV1 (k := 40) rfl (k_oct (T := T) (by first | exact hT | (simp only [tA_53]; exact hT)) (by first | (rw [hl]; exact hn0.1.2) | (simp only [up_53]; rw [hl]; exact hn0.1.2))) fm_Tape_octetAt lk_7_53 rfl rfl ob_2 ⟨_, rfl, rfl⟩ (Nat.le_of_ble_eq_true rfl) (by decide) ⟨by decide, by decide⟩ ?_
        refine zfS1 (k := 41) rfl c_Scanner_isLetter fm_Scanner_isLetter lk_7_75 rfl rfl (Nat.le_of_ble_eq_true rfl) (by decide) ⟨by decide, by decide⟩ ?_
        refine zif_eq (k := 42) rfl rfl (fun c2 => ?_) (fun c2 => ?_)
        · skip
          refine zaload_n (k := 51) rfl rfl ?_
          refine ziconst (k := 52) rfl (by decide) ?_
          refine zpI 3 (k := 53) rfl ob_53 fl_7_47 ⟨_, rfl, rfl⟩ rfl (by omega) rfl fx_53_3 ?_
          refine zaload_n (k := 54) rfl rfl ?_
          refine ziload_n (k := 55) rfl rfl ?_
          refine ziload_n (k := 56) rfl rfl ?_
          refine zfS1 (k := 57) rfl (c_Scanner_filledUp (n := j) (by omega) wb) fm_Scanner_filledUp lk_7_35 rfl rfl (Nat.le_of_ble_eq_true rfl) (by decide) ⟨by decide, by decide⟩ ?_
          refine zpI 7 (k := 58) rfl ob_53 fl_7_87 ⟨_, rfl, rfl⟩ rfl (by omega) rfl fx_53_7 ?_
          refine zaload_n (k := 59) rfl rfl ?_
          refine zaload_n (k := 60) rfl rfl ?_
          refine zgF 1 (k := 61) rfl ob_53 fl_7_21 rfl fx_53_1 ?_
          refine zaload_n (k := 62) rfl rfl ?_
          refine zgF 1 (k := 63) rfl ob_53 fl_7_21 rfl fx_53_1 ?_
          refine zarraylength (k := 64) rfl (ar_54).1 ?_
          refine zaload_n (k := 65) rfl rfl ?_
          refine zgI 7 (k := 66) rfl ob_53 fl_7_87 rfl fx_53_7 ?_
          rw [zup_s]
          refine zfS1 (k := 67) rfl (c_NT_indexOf ar_54 (by omega) (by omega)) fm_NT_indexOf lk_7_90 rfl rfl (Nat.le_of_ble_eq_true rfl) (by decide) ⟨by decide, by decide⟩ ?_
          rw [show zmn 24 24 = 24 from rfl, zidx_F (f := ownR) 24 0 (fun i h1 h2 => by (repeat rw [zup_n (by omega)]); exact ho i h1 (by omega))]
          refine zpI 6 (k := 68) rfl ob_53 fl_7_69 ⟨_, rfl, rfl⟩ rfl (by omega) rfl fx_53_6 ?_
          refine zreturn (k := 69) rfl rfl rfl ?_
          rw [← hQ]
          refine ⟨rfl, rfl, ?_⟩
          first
          | (have hj6 : j = 6 := by
               by_cases hj6 : j = 6
               · exact hj6
               · exfalso; omega
             have r7 : run 97 122 T 7 q = 7 := run_u 7 q 7 (Nat.le_refl _) (fun i hi => by
               by_cases e : i = j
               · rw [e]; omega
               · exact hr i (by omega)) (Or.inl rfl)
             rw [if_pos r7, hj6]
             rfl)
          | (have hnl : ¬ (97 ≤ T (q + (j : Int)) ∧ T (q + (j : Int)) ≤ 122) := by omega
             have r7 : run 97 122 T 7 q = j := run_u 7 q j (by omega) hr (Or.inr hnl)
             have r6 : run 97 122 T 6 q = j := run_u 6 q j hj hr (Or.inr hnl)
             rw [if_neg (by omega), r6]
             rfl)
        · skip
          refine zaload_n (k := 43) rfl rfl ?_
          refine ziconst (k := 44) rfl (by decide) ?_
          refine zpI 3 (k := 45) rfl ob_53 fl_7_47 ⟨_, rfl, rfl⟩ rfl (by omega) rfl fx_53_3 ?_
          refine zaload_n (k := 46) rfl rfl ?_
          refine zaload_n (k := 47) rfl rfl ?_
          refine zgI 2 (k := 48) rfl ob_53 fl_7_43 rfl fx_53_2 ?_
          rw [zup_n (by omega), es]
          refine zpI 5 (k := 49) rfl ob_53 fl_7_66 ⟨_, rfl, rfl⟩ rfl (by omega) rfl fx_53_5 ?_
          refine zreturn (k := 50) rfl rfl rfl ?_
          rw [← hQ]
          refine ⟨rfl, rfl, ?_⟩
          first
          | (have hj6 : j = 6 := by
               by_cases hj6 : j = 6
               · exact hj6
               · exfalso; omega
             have r7 : run 97 122 T 7 q = 7 := run_u 7 q 7 (Nat.le_refl _) (fun i hi => by
               by_cases e : i = j
               · rw [e]; omega
               · exact hr i (by omega)) (Or.inl rfl)
             rw [if_pos r7, hj6]
             rfl)
          | (have hnl : ¬ (97 ≤ T (q + (j : Int)) ∧ T (q + (j : Int)) ≤ 122) := by omega
             have r7 : run 97 122 T 7 q = j := run_u 7 q j (by omega) hr (Or.inr hnl)
             have r6 : run 97 122 T 6 q = j := run_u 6 q j hj hr (Or.inr hnl)
             rw [if_neg (by omega), r6]
             rfl)
      · skip
        refine zaload_n (k := 7) rfl rfl ?_
        refine zgF 0 (k := 8) rfl ob_53 fl_7_9 rfl fx_53_0 ?_
        refine zaload_n (k := 9) rfl rfl ?_
        refine zgI 2 (k := 10) rfl ob_53 fl_7_43 rfl fx_53_2 ?_
        rw [es]
        refine zfV1 (k := 11) rfl (k_oct (T := T) (by first | exact hT | (simp only [tA_53]; exact hT)) (by first | (rw [hl]; exact hn0.1.2) | (simp only [up_53]; rw [hl]; exact hn0.1.2))) fm_Tape_octetAt lk_7_53 rfl rfl ob_2 ⟨_, rfl, rfl⟩ (Nat.le_of_ble_eq_true rfl) (by decide) ⟨by decide, by decide⟩ ?_
        refine zfS1 (k := 12) rfl c_Scanner_isLetter fm_Scanner_isLetter lk_7_75 rfl rfl (Nat.le_of_ble_eq_true rfl) (by decide) ⟨by decide, by decide⟩ ?_
        refine zif_eq (k := 13) rfl rfl (fun c3 => ?_) (fun c3 => ?_)
        · skip
          refine zaload_n (k := 36) rfl rfl ?_
          refine zgF 0 (k := 37) rfl ob_53 fl_7_9 rfl fx_53_0 ?_
          refine zaload_n (k := 38) rfl rfl ?_
          refine zgI 2 (k := 39) rfl ob_53 fl_7_43 rfl fx_53_2 ?_
          rw [es]
          refine zfV1 (k := 40) rfl (k_oct (T := T) (by first | exact hT | (simp only [tA_53]; exact hT)) (by first | (rw [hl]; exact hn0.1.2) | (simp only [up_53]; rw [hl]; exact hn0.1.2))) fm_Tape_octetAt lk_7_53 rfl rfl ob_2 ⟨_, rfl, rfl⟩ (Nat.le_of_ble_eq_true rfl) (by decide) ⟨by decide, by decide⟩ ?_
          refine zfS1 (k := 41) rfl c_Scanner_isLetter fm_Scanner_isLetter lk_7_75 rfl rfl (Nat.le_of_ble_eq_true rfl) (by decide) ⟨by decide, by decide⟩ ?_
          refine zif_eq (k := 42) rfl rfl (fun c4 => ?_) (fun c4 => ?_)
          · skip
            refine zaload_n (k := 51) rfl rfl ?_
            refine ziconst (k := 52) rfl (by decide) ?_
            refine zpI 3 (k := 53) rfl ob_53 fl_7_47 ⟨_, rfl, rfl⟩ rfl (by omega) rfl fx_53_3 ?_
            refine zaload_n (k := 54) rfl rfl ?_
            refine ziload_n (k := 55) rfl rfl ?_
            refine ziload_n (k := 56) rfl rfl ?_
            refine zfS1 (k := 57) rfl (c_Scanner_filledUp (n := j) (by omega) wb) fm_Scanner_filledUp lk_7_35 rfl rfl (Nat.le_of_ble_eq_true rfl) (by decide) ⟨by decide, by decide⟩ ?_
            refine zpI 7 (k := 58) rfl ob_53 fl_7_87 ⟨_, rfl, rfl⟩ rfl (by omega) rfl fx_53_7 ?_
            refine zaload_n (k := 59) rfl rfl ?_
            refine zaload_n (k := 60) rfl rfl ?_
            refine zgF 1 (k := 61) rfl ob_53 fl_7_21 rfl fx_53_1 ?_
            refine zaload_n (k := 62) rfl rfl ?_
            refine zgF 1 (k := 63) rfl ob_53 fl_7_21 rfl fx_53_1 ?_
            refine zarraylength (k := 64) rfl (ar_54).1 ?_
            refine zaload_n (k := 65) rfl rfl ?_
            refine zgI 7 (k := 66) rfl ob_53 fl_7_87 rfl fx_53_7 ?_
            rw [zup_s]
            refine zfS1 (k := 67) rfl (c_NT_indexOf ar_54 (by omega) (by omega)) fm_NT_indexOf lk_7_90 rfl rfl (Nat.le_of_ble_eq_true rfl) (by decide) ⟨by decide, by decide⟩ ?_
            rw [show zmn 24 24 = 24 from rfl, zidx_F (f := ownR) 24 0 (fun i h1 h2 => by (repeat rw [zup_n (by omega)]); exact ho i h1 (by omega))]
            refine zpI 6 (k := 68) rfl ob_53 fl_7_69 ⟨_, rfl, rfl⟩ rfl (by omega) rfl fx_53_6 ?_
            refine zreturn (k := 69) rfl rfl rfl ?_
            rw [← hQ]
            refine ⟨rfl, rfl, ?_⟩
            first
            | (have hj6 : j = 6 := by
                 by_cases hj6 : j = 6
                 · exact hj6
                 · exfalso; omega
               have r7 : run 97 122 T 7 q = 7 := run_u 7 q 7 (Nat.le_refl _) (fun i hi => by
                 by_cases e : i = j
                 · rw [e]; omega
                 · exact hr i (by omega)) (Or.inl rfl)
               rw [if_pos r7, hj6]
               rfl)
            | (have hnl : ¬ (97 ≤ T (q + (j : Int)) ∧ T (q + (j : Int)) ≤ 122) := by omega
               have r7 : run 97 122 T 7 q = j := run_u 7 q j (by omega) hr (Or.inr hnl)
               have r6 : run 97 122 T 6 q = j := run_u 6 q j hj hr (Or.inr hnl)
               rw [if_neg (by omega), r6]
               rfl)
          · skip
            refine zaload_n (k := 43) rfl rfl ?_
            refine ziconst (k := 44) rfl (by decide) ?_
            refine zpI 3 (k := 45) rfl ob_53 fl_7_47 ⟨_, rfl, rfl⟩ rfl (by omega) rfl fx_53_3 ?_
            refine zaload_n (k := 46) rfl rfl ?_
            refine zaload_n (k := 47) rfl rfl ?_
            refine zgI 2 (k := 48) rfl ob_53 fl_7_43 rfl fx_53_2 ?_
            rw [zup_n (by omega), es]
            refine zpI 5 (k := 49) rfl ob_53 fl_7_66 ⟨_, rfl, rfl⟩ rfl (by omega) rfl fx_53_5 ?_
            refine zreturn (k := 50) rfl rfl rfl ?_
            rw [← hQ]
            refine ⟨rfl, rfl, ?_⟩
            first
            | (have hj6 : j = 6 := by
                 by_cases hj6 : j = 6
                 · exact hj6
                 · exfalso; omega
               have r7 : run 97 122 T 7 q = 7 := run_u 7 q 7 (Nat.le_refl _) (fun i hi => by
                 by_cases e : i = j
                 · rw [e]; omega
                 · exact hr i (by omega)) (Or.inl rfl)
               rw [if_pos r7, hj6]
               rfl)
            | (have hnl : ¬ (97 ≤ T (q + (j : Int)) ∧ T (q + (j : Int)) ≤ 122) := by omega
               have r7 : run 97 122 T 7 q = j := run_u 7 q j (by omega) hr (Or.inr hnl)
               have r6 : run 97 122 T 6 q = j := run_u 6 q j hj hr (Or.inr hnl)
               rw [if_neg (by omega), r6]
               rfl)
        · skip
          have tT : 97 ≤ T (q + (j : Int)) ∧ T (q + (j : Int)) ≤ 122 := by omega
          refine zbipush (k := 14) rfl rfl ?_
          refine ziload_n (k := 15) rfl rfl ?_
          refine zimulB (k := 16) rfl (by have pl2 := p27_le (a := j + 1) (b := 6) (by omega); rw [show (27 : Int) ^ 6 = 387420489 from rfl, show (27 : Int) ^ (j + 1) = 27 ^ j * 27 from Int.pow_succ _ _] at pl2; omega) ?_
          refine zaload_n (k := 17) rfl rfl ?_
          refine zgF 0 (k := 18) rfl ob_53 fl_7_9 rfl fx_53_0 ?_
          refine zaload_n (k := 19) rfl rfl ?_
          refine zgI 2 (k := 20) rfl ob_53 fl_7_43 rfl fx_53_2 ?_
          rw [es]
          refine zfV1 (k := 21) rfl (k_oct (T := T) (by first | exact hT | (simp only [tA_53]; exact hT)) (by first | (rw [hl]; exact hn0.1.2) | (simp only [up_53]; rw [hl]; exact hn0.1.2))) fm_Tape_octetAt lk_7_53 rfl rfl ob_2 ⟨_, rfl, rfl⟩ (Nat.le_of_ble_eq_true rfl) (by decide) ⟨by decide, by decide⟩ ?_
          refine zbipush (k := 22) rfl rfl ?_
          refine zisubB (k := 23) rfl (by have := tT; omega) ?_
          refine ziconst (k := 24) rfl (by decide) ?_
          refine ziaddB (k := 25) rfl (by have := tT; omega) ?_
          refine ziaddB (k := 26) rfl (by have := tT; have pl2 := p27_le (a := j + 1) (b := 6) (by omega); rw [show (27 : Int) ^ 6 = 387420489 from rfl, show (27 : Int) ^ (j + 1) = 27 ^ j * 27 from Int.pow_succ _ _] at pl2; omega) ?_
          refine zistore_n (k := 27) (ls' := [_, _, _]) rfl (Nat.le_of_ble_eq_true rfl) rfl ?_
          refine zaload_n (k := 28) rfl rfl ?_
          refine zdup (k := 29) rfl rfl ?_
          refine zgI 2 (k := 30) rfl ob_53 fl_7_43 rfl fx_53_2 ?_
          refine ziconst (k := 31) rfl (by decide) ?_
          refine ziaddB (k := 32) rfl (by omega) ?_
          refine zpI 2 (k := 33) rfl ob_53 fl_7_43 ⟨_, rfl, rfl⟩ rfl (by omega) rfl fx_53_2 ?_
          refine ziincB (k := 34) (ls' := [_, _, _]) rfl rfl (by decide) (by omega) rfl ?_
          refine zgoto (k := 35) rfl rfl ?_
          have r := ih4 (j + 1) (by omega) (by omega) (fun i hi => by
            by_cases e : i = j
            · rw [e]; exact tT
            · exact hr i (by omega))
          rw [show q + ((j + 1 : Nat) : Int) = q + (j : Int) + 1 by omega, ← zup_zup σ 53 2 (q + (j : Int)) (q + (j : Int) + 1)] at r
          exact r
  have r := lp4 7 0 (by omega) (by omega) (fun i hi => absurd hi (Nat.not_lt_zero _))
  rw [show q + ((0 : Nat) : Int) = q by omega, zup_id hq] at r
  exact r
