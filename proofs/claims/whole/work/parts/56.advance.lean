set_option maxHeartbeats 4000000 in
set_option maxRecDepth 20000 in
theorem c_Scanner_advance {Γ : zv_M} {L : Int} {σ : zv_H} {T : Int → Int} {n : Int} (hT : tA σ = T) (hl : σ 2 1 = n) (hn0 : TT T n) {p : Int} (hp : σ 53 2 = p) (hpb : 0 ≤ p ∧ p ≤ n) (hnb : (σ 53 3 = 1 ∨ σ 53 3 = 2) ↔ ((97 ≤ T (p - 1) ∧ T (p - 1) ≤ 122) ∨ (48 ≤ T (p - 1) ∧ T (p - 1) ≤ 57))) (ho : ∀ k, 0 ≤ k → k < 24 → σ 54 k = ownR k) : zC Γ m_Scanner_advance 2 0 0 (GM L) [zR 53] σ (zP0 (GM L) (fun σ' => SCp σ' T p ∧ ∀ x k, x ≠ 53 → σ' x k = σ x k)) := by
  refine zC_of (ls0 := [_, _, _, _]) zm_Scanner_advance (by decide) rfl (Nat.le_of_ble_eq_true rfl) ?_
  generalize hQ : (zP0 (GM L) (fun σ' => SCp σ' T p ∧ ∀ x k, x ≠ 53 → σ' x k = σ x k)) = Q
  have hn1 := hn0.1
  have qb := tQ_b hn0 hpb
  have qs := tQ_s hn0 hpb.1
  have cut86 : ∀ (v s : Int), ((s = 1 ∧ tS T p) ∨ (s = 0 ∧ ¬ tS T p)) → zV Γ m_Scanner_advance 2 0 0 Q (GM L) (0, 0) 86 [some (zR 53), some (zI v), some (zI p), none] [zI s] (zup σ 53 2 (tQ T p)) := by
    intro v s hs
    refine zistore_n (k := 44) (ls' := [_, _, _, _]) rfl (Nat.le_of_ble_eq_true rfl) rfl ?_
    refine zaload_n (k := 45) rfl rfl ?_
    refine zaload_n (k := 46) rfl rfl ?_
    refine zgI 2 (k := 47) rfl ob_53 fl_7_43 rfl fx_53_2 ?_
    rw [zup_s]
    refine zpI 4 (k := 48) rfl ob_53 fl_7_63 ⟨_, rfl, rfl⟩ rfl (by omega) rfl fx_53_4 ?_
    refine zaload_n (k := 49) rfl rfl ?_
    refine zaload_n (k := 50) rfl rfl ?_
    refine zgI 2 (k := 51) rfl ob_53 fl_7_43 rfl fx_53_2 ?_
    rw [zup_n (by omega), zup_s]
    refine zpI 5 (k := 52) rfl ob_53 fl_7_66 ⟨_, rfl, rfl⟩ rfl (by omega) rfl fx_53_5 ?_
    refine zaload_n (k := 53) rfl rfl ?_
    refine ziconst (k := 54) rfl (by decide) ?_
    refine zpI 6 (k := 55) rfl ob_53 fl_7_69 ⟨_, rfl, rfl⟩ rfl (by omega) rfl fx_53_6 ?_
    refine zaload_n (k := 56) rfl rfl ?_
    refine zaload_n (k := 57) rfl rfl ?_
    refine zgF 0 (k := 58) rfl ob_53 fl_7_9 rfl fx_53_0 ?_
    refine zaload_n (k := 59) rfl rfl ?_
    refine zgI 2 (k := 60) rfl ob_53 fl_7_43 rfl fx_53_2 ?_
    rw [zup_n (by omega), zup_n (by omega), zup_n (by omega), zup_s]
    refine zfV1 (k := 61) rfl (k_oct (T := T) (by first | exact hT | (simp only [tA_53]; exact hT)) (by first | (rw [hl]; exact hn0.1.2) | (simp only [up_53]; rw [hl]; exact hn0.1.2))) fm_Tape_octetAt lk_7_53 rfl rfl ob_2 ⟨_, rfl, rfl⟩ (Nat.le_of_ble_eq_true rfl) (by decide) ⟨by decide, by decide⟩ ?_
    refine zpI 8 (k := 62) rfl ob_53 fl_7_72 ⟨_, rfl, rfl⟩ rfl (by omega) rfl fx_53_8 ?_
    refine zaload_n (k := 63) rfl rfl ?_
    refine zgI 8 (k := 64) rfl ob_53 fl_7_72 rfl fx_53_8 ?_
    rw [zup_s]
    refine ziconst (k := 65) rfl (by decide) ?_
    refine zicmp_ne (k := 66) rfl rfl (fun c1 => ?_) (fun c1 => ?_)
    · skip
      refine zaload_n (k := 71) rfl rfl ?_
      refine zgI 8 (k := 72) rfl ob_53 fl_7_72 rfl fx_53_8 ?_
      rw [zup_s]
      refine zfS1 (k := 73) rfl c_Scanner_isLetter fm_Scanner_isLetter lk_7_75 rfl rfl (Nat.le_of_ble_eq_true rfl) (by decide) ⟨by decide, by decide⟩ ?_
      refine zif_ne (k := 74) rfl rfl (fun c2 => ?_) (fun c2 => ?_)
      · skip
        refine ziload_n (k := 89) rfl rfl ?_
        refine zif_eq (k := 90) rfl rfl (fun c3 => ?_) (fun c3 => ?_)
        · skip
          refine zaload_n (k := 95) rfl rfl ?_
          refine zgI 8 (k := 96) rfl ob_53 fl_7_72 rfl fx_53_8 ?_
          rw [zup_s]
          refine zfS1 (k := 97) rfl c_Scanner_isLetter fm_Scanner_isLetter lk_7_75 rfl rfl (Nat.le_of_ble_eq_true rfl) (by decide) ⟨by decide, by decide⟩ ?_
          refine zif_eq (k := 98) rfl rfl (fun c4 => ?_) (fun c4 => ?_)
          · skip
            have hnS : ¬ tS T p := by rcases hs with g | g; omega; exact g.2
            refine zaload_n (k := 102) rfl rfl ?_
            refine zfV0 (k := 103) rfl (c_Scanner_readNumber (T := T) (n := n) (q := tQ T p) (by simp only [tA_53]; exact hT) (by simp only [up_53]; exact hl) hn0 (by simp [zup]) (by omega)) fm_Scanner_readNumber lk_7_84 rfl rfl ob_53 ⟨_, rfl, rfl⟩ (Nat.le_of_ble_eq_true rfl) (by decide) ⟨by decide, by decide⟩ ?_
            refine zreturn (k := 104) rfl rfl rfl ?_
            rw [← hQ]
            have hnl : ¬ (97 ≤ T (tQ T p) ∧ T (tQ T p) ≤ 122) := by omega
            have ek := tK_k (T := T) (p := p) (by omega) (by unfold alnm; omega) hnS
            unfold tK0 at ek
            rw [if_neg hnl] at ek
            by_cases h7 : run 48 57 T 5 (tQ T p) = 5
            · rw [if_pos h7] at ek ⊢
              refine ⟨rfl, rfl, ?_, fun x k hx => by (repeat rw [zup_n (by omega)])⟩
              refine ⟨fun h => absurd ek h, ?_, ?_, ?_, ?_, fun h => by omega, fun h => by omega, fun h => by omega⟩
              · rw [ek]; simp [zup]
              · simp [zup]
              · rw [tP_4 ek hnS, if_neg hnl]; simp [zup]
              · rw [tO_n (by omega)]; simp [zup]
            · rw [if_neg h7] at ek ⊢
              refine ⟨rfl, rfl, ?_, fun x k hx => by (repeat rw [zup_n (by omega)])⟩
              refine ⟨fun _ => ?_, ?_, ?_, ?_, ?_, fun h => by omega, fun _ => ?_, fun h => by omega⟩
              · unfold tN; rw [if_neg (by omega), if_neg (by omega), if_neg hnl]; simp [zup]
              · rw [ek]; simp [zup]
              · simp [zup]
              · rw [tP_q (by omega)]; simp [zup]
              · rw [tO_n (by omega)]; simp [zup]
              · simp [zup, tNv]
          · skip
            have hnS : ¬ tS T p := by rcases hs with g | g; omega; exact g.2
            refine zaload_n (k := 99) rfl rfl ?_
            refine zfV0 (k := 100) rfl (c_Scanner_readWord (T := T) (n := n) (q := tQ T p) (by simp only [tA_53]; exact hT) (by simp only [up_53]; exact hl) hn0 (by simp [zup]) (by omega) (fun k h1 h2 => by (repeat rw [zup_n (by omega)]); exact ho k h1 h2)) fm_Scanner_readWord lk_7_81 rfl rfl ob_53 ⟨_, rfl, rfl⟩ (Nat.le_of_ble_eq_true rfl) (by decide) ⟨by decide, by decide⟩ ?_
            refine zgoto (k := 101) rfl rfl ?_
            refine zreturn (k := 104) rfl rfl rfl ?_
            rw [← hQ]
            have ek := tK_k (T := T) (p := p) (by omega) (by unfold alnm; omega) hnS
            have hlet : 97 ≤ T (tQ T p) ∧ T (tQ T p) ≤ 122 := by omega
            unfold tK0 at ek
            rw [if_pos hlet] at ek
            by_cases h7 : run 97 122 T 7 (tQ T p) = 7
            · rw [if_pos h7] at ek ⊢
              refine ⟨rfl, rfl, ?_, fun x k hx => by (repeat rw [zup_n (by omega)])⟩
              refine ⟨fun h => absurd ek h, ?_, ?_, ?_, ?_, fun h => by omega, fun h => by omega, fun h => by omega⟩
              · rw [ek]; simp [zup]
              · simp [zup]
              · rw [tP_4 ek hnS, if_pos hlet]; simp [zup]
              · rw [tO_n (by omega)]; simp [zup]
            · rw [if_neg h7] at ek ⊢
              refine ⟨rfl, rfl, ?_, fun x k hx => by (repeat rw [zup_n (by omega)])⟩
              refine ⟨fun _ => ?_, ?_, ?_, ?_, ?_, fun _ => ?_, fun h => by omega, fun h => by omega⟩
              · unfold tN; rw [if_neg (by omega), if_neg (by omega), if_pos hlet]; simp [zup]
              · rw [ek]; simp [zup]
              · simp [zup]
              · rw [tP_q (by omega)]; simp [zup]
              · rw [show tO T p = ownI (tNm T p) from if_pos ek]; simp [zup, tNm]
              · simp [zup, tNm]
        · skip
          have hyS : tS T p := by rcases hs with g | g; exact g.2; omega
          refine zaload_n (k := 91) rfl rfl ?_
          refine ziconst (k := 92) rfl (by decide) ?_
          refine zpI 3 (k := 93) rfl ob_53 fl_7_47 ⟨_, rfl, rfl⟩ rfl (by omega) rfl fx_53_3 ?_
          refine zgoto (k := 94) rfl rfl ?_
          refine zreturn (k := 104) rfl rfl rfl ?_
          rw [← hQ]
          refine ⟨rfl, rfl, ?_, fun x k hx => by (repeat rw [zup_n (by omega)])⟩
          have ek := tK_4 (T := T) (p := p) (by omega) (by unfold alnm; omega) hyS
          refine ⟨fun h => absurd ek h, ?_, ?_, ?_, ?_, fun h => by omega, fun h => by omega, fun h => by omega⟩
          · rw [ek]; simp [zup]
          · simp [zup]
          · rw [tP_q (fun q => q.2 hyS)]; simp [zup]
          · rw [tO_n (by omega)]; simp [zup]
      · skip
        refine zaload_n (k := 75) rfl rfl ?_
        refine zgI 8 (k := 76) rfl ob_53 fl_7_72 rfl fx_53_8 ?_
        rw [zup_s]
        refine zfS1 (k := 77) rfl c_Scanner_isDigit fm_Scanner_isDigit lk_7_78 rfl rfl (Nat.le_of_ble_eq_true rfl) (by decide) ⟨by decide, by decide⟩ ?_
        refine zif_ne (k := 78) rfl rfl (fun c5 => ?_) (fun c5 => ?_)
        · skip
          refine ziload_n (k := 89) rfl rfl ?_
          refine zif_eq (k := 90) rfl rfl (fun c6 => ?_) (fun c6 => ?_)
          · skip
            refine zaload_n (k := 95) rfl rfl ?_
            refine zgI 8 (k := 96) rfl ob_53 fl_7_72 rfl fx_53_8 ?_
            rw [zup_s]
            refine zfS1 (k := 97) rfl c_Scanner_isLetter fm_Scanner_isLetter lk_7_75 rfl rfl (Nat.le_of_ble_eq_true rfl) (by decide) ⟨by decide, by decide⟩ ?_
            refine zif_eq (k := 98) rfl rfl (fun c7 => ?_) (fun c7 => ?_)
            · skip
              have hnS : ¬ tS T p := by rcases hs with g | g; omega; exact g.2
              refine zaload_n (k := 102) rfl rfl ?_
              refine zfV0 (k := 103) rfl (c_Scanner_readNumber (T := T) (n := n) (q := tQ T p) (by simp only [tA_53]; exact hT) (by simp only [up_53]; exact hl) hn0 (by simp [zup]) (by omega)) fm_Scanner_readNumber lk_7_84 rfl rfl ob_53 ⟨_, rfl, rfl⟩ (Nat.le_of_ble_eq_true rfl) (by decide) ⟨by decide, by decide⟩ ?_
              refine zreturn (k := 104) rfl rfl rfl ?_
              rw [← hQ]
              have hnl : ¬ (97 ≤ T (tQ T p) ∧ T (tQ T p) ≤ 122) := by omega
              have ek := tK_k (T := T) (p := p) (by omega) (by unfold alnm; omega) hnS
              unfold tK0 at ek
              rw [if_neg hnl] at ek
              by_cases h7 : run 48 57 T 5 (tQ T p) = 5
              · rw [if_pos h7] at ek ⊢
                refine ⟨rfl, rfl, ?_, fun x k hx => by (repeat rw [zup_n (by omega)])⟩
                refine ⟨fun h => absurd ek h, ?_, ?_, ?_, ?_, fun h => by omega, fun h => by omega, fun h => by omega⟩
                · rw [ek]; simp [zup]
                · simp [zup]
                · rw [tP_4 ek hnS, if_neg hnl]; simp [zup]
                · rw [tO_n (by omega)]; simp [zup]
              · rw [if_neg h7] at ek ⊢
                refine ⟨rfl, rfl, ?_, fun x k hx => by (repeat rw [zup_n (by omega)])⟩
                refine ⟨fun _ => ?_, ?_, ?_, ?_, ?_, fun h => by omega, fun _ => ?_, fun h => by omega⟩
                · unfold tN; rw [if_neg (by omega), if_neg (by omega), if_neg hnl]; simp [zup]
                · rw [ek]; simp [zup]
                · simp [zup]
                · rw [tP_q (by omega)]; simp [zup]
                · rw [tO_n (by omega)]; simp [zup]
                · simp [zup, tNv]
            · skip
              have hnS : ¬ tS T p := by rcases hs with g | g; omega; exact g.2
              refine zaload_n (k := 99) rfl rfl ?_
              refine zfV0 (k := 100) rfl (c_Scanner_readWord (T := T) (n := n) (q := tQ T p) (by simp only [tA_53]; exact hT) (by simp only [up_53]; exact hl) hn0 (by simp [zup]) (by omega) (fun k h1 h2 => by (repeat rw [zup_n (by omega)]); exact ho k h1 h2)) fm_Scanner_readWord lk_7_81 rfl rfl ob_53 ⟨_, rfl, rfl⟩ (Nat.le_of_ble_eq_true rfl) (by decide) ⟨by decide, by decide⟩ ?_
              refine zgoto (k := 101) rfl rfl ?_
              refine zreturn (k := 104) rfl rfl rfl ?_
              rw [← hQ]
              have ek := tK_k (T := T) (p := p) (by omega) (by unfold alnm; omega) hnS
              have hlet : 97 ≤ T (tQ T p) ∧ T (tQ T p) ≤ 122 := by omega
              unfold tK0 at ek
              rw [if_pos hlet] at ek
              by_cases h7 : run 97 122 T 7 (tQ T p) = 7
              · rw [if_pos h7] at ek ⊢
                refine ⟨rfl, rfl, ?_, fun x k hx => by (repeat rw [zup_n (by omega)])⟩
                refine ⟨fun h => absurd ek h, ?_, ?_, ?_, ?_, fun h => by omega, fun h => by omega, fun h => by omega⟩
                · rw [ek]; simp [zup]
                · simp [zup]
                · rw [tP_4 ek hnS, if_pos hlet]; simp [zup]
                · rw [tO_n (by omega)]; simp [zup]
              · rw [if_neg h7] at ek ⊢
                refine ⟨rfl, rfl, ?_, fun x k hx => by (repeat rw [zup_n (by omega)])⟩
                refine ⟨fun _ => ?_, ?_, ?_, ?_, ?_, fun _ => ?_, fun h => by omega, fun h => by omega⟩
                · unfold tN; rw [if_neg (by omega), if_neg (by omega), if_pos hlet]; simp [zup]
                · rw [ek]; simp [zup]
                · simp [zup]
                · rw [tP_q (by omega)]; simp [zup]
                · rw [show tO T p = ownI (tNm T p) from if_pos ek]; simp [zup, tNm]
                · simp [zup, tNm]
          · skip
            have hyS : tS T p := by rcases hs with g | g; exact g.2; omega
            refine zaload_n (k := 91) rfl rfl ?_
            refine ziconst (k := 92) rfl (by decide) ?_
            refine zpI 3 (k := 93) rfl ob_53 fl_7_47 ⟨_, rfl, rfl⟩ rfl (by omega) rfl fx_53_3 ?_
            refine zgoto (k := 94) rfl rfl ?_
            refine zreturn (k := 104) rfl rfl rfl ?_
            rw [← hQ]
            refine ⟨rfl, rfl, ?_, fun x k hx => by (repeat rw [zup_n (by omega)])⟩
            have ek := tK_4 (T := T) (p := p) (by omega) (by unfold alnm; omega) hyS
            refine ⟨fun h => absurd ek h, ?_, ?_, ?_, ?_, fun h => by omega, fun h => by omega, fun h => by omega⟩
            · rw [ek]; simp [zup]
            · simp [zup]
            · rw [tP_q (fun q => q.2 hyS)]; simp [zup]
            · rw [tO_n (by omega)]; simp [zup]
        · skip
          refine zaload_n (k := 79) rfl rfl ?_
          refine ziconst (k := 80) rfl (by decide) ?_
          refine zpI 3 (k := 81) rfl ob_53 fl_7_47 ⟨_, rfl, rfl⟩ rfl (by omega) rfl fx_53_3 ?_
          refine zaload_n (k := 82) rfl rfl ?_
          refine zdup (k := 83) rfl rfl ?_
          refine zgI 2 (k := 84) rfl ob_53 fl_7_43 rfl fx_53_2 ?_
          rw [zup_n (by omega), zup_n (by omega), zup_n (by omega), zup_n (by omega), zup_n (by omega), zup_s]
          refine ziconst (k := 85) rfl (by decide) ?_
          refine ziaddB (k := 86) rfl (by omega) ?_
          refine zpI 2 (k := 87) rfl ob_53 fl_7_43 ⟨_, rfl, rfl⟩ rfl (by omega) rfl fx_53_2 ?_
          refine zgoto (k := 88) rfl rfl ?_
          refine zreturn (k := 104) rfl rfl rfl ?_
          rw [← hQ]
          refine ⟨rfl, rfl, ?_, fun x k hx => by (repeat rw [zup_n (by omega)])⟩
          have ek := tK_3 (T := T) (p := p) (by omega) (by unfold alnm; omega)
          refine ⟨fun _ => ?_, ?_, ?_, ?_, ?_, fun h => by omega, fun h => by omega, fun _ => ?_⟩
          · unfold tN; rw [if_neg (by omega), if_pos ek]; simp [zup]
          · rw [ek]; simp [zup]
          · simp [zup]
          · rw [tP_q (by omega)]; simp [zup]
          · rw [tO_n (by omega)]; simp [zup]
          · simp [zup]
    · skip
      refine zaload_n (k := 67) rfl rfl ?_
      refine ziconst (k := 68) rfl (by decide) ?_
      refine zpI 3 (k := 69) rfl ob_53 fl_7_47 ⟨_, rfl, rfl⟩ rfl (by omega) rfl fx_53_3 ?_
      refine zgoto (k := 70) rfl rfl ?_
      refine zreturn (k := 104) rfl rfl rfl ?_
      rw [← hQ]
      refine ⟨rfl, rfl, ?_, fun x k hx => by (repeat rw [zup_n (by omega)])⟩
      have ek := tK_0 (T := T) (p := p) (by omega)
      refine ⟨fun _ => ?_, ?_, ?_, ?_, ?_, fun h => by omega, fun h => by omega, fun h => by omega⟩
      · unfold tN; rw [if_pos ek]; simp [zup]
      · rw [ek]; simp [zup]
      · simp [zup]
      · rw [tP_q (by omega)]; simp [zup]
      · rw [tO_n (by omega)]; simp [zup]
  have cut69 : ∀ (v : Int), ((v = 1 ∧ ((97 ≤ T (p - 1) ∧ T (p - 1) ≤ 122) ∨ (48 ≤ T (p - 1) ∧ T (p - 1) ≤ 57))) ∨ (v = 0 ∧ ¬ ((97 ≤ T (p - 1) ∧ T (p - 1) ≤ 122) ∨ (48 ≤ T (p - 1) ∧ T (p - 1) ≤ 57)))) → zV Γ m_Scanner_advance 2 0 0 Q (GM L) (0, 0) 69 [some (zR 53), some (zI v), some (zI p), none] [] (zup σ 53 2 (tQ T p)) := by
    intro v hv
    refine ziload_n (k := 35) rfl rfl ?_
    refine zif_eq (k := 36) rfl rfl (fun c8 => ?_) (fun c8 => ?_)
    · skip
      refine ziconst (k := 43) rfl (by decide) ?_
      refine cut86 _ _ ?_
      unfold tS
      first | exact Or.inl ⟨rfl, by omega, by omega⟩ | exact Or.inr ⟨rfl, fun q => by have q1 := q.1; have q2 := q.2; omega⟩
    · skip
      refine zaload_n (k := 37) rfl rfl ?_
      refine zgI 2 (k := 38) rfl ob_53 fl_7_43 rfl fx_53_2 ?_
      rw [zup_s]
      refine ziload_n (k := 39) rfl rfl ?_
      refine zicmp_ne (k := 40) rfl rfl (fun c9 => ?_) (fun c9 => ?_)
      · skip
        refine ziconst (k := 43) rfl (by decide) ?_
        refine cut86 _ _ ?_
        unfold tS
        first | exact Or.inl ⟨rfl, by omega, by omega⟩ | exact Or.inr ⟨rfl, fun q => by have q1 := q.1; have q2 := q.2; omega⟩
      · skip
        refine ziconst (k := 41) rfl (by decide) ?_
        refine zgoto (k := 42) rfl rfl ?_
        refine cut86 _ _ ?_
        unfold tS
        first | exact Or.inl ⟨rfl, by omega, by omega⟩ | exact Or.inr ⟨rfl, fun q => by have q1 := q.1; have q2 := q.2; omega⟩
  have cut21 : ∀ (v : Int), ((v = 1 ∧ ((97 ≤ T (p - 1) ∧ T (p - 1) ≤ 122) ∨ (48 ≤ T (p - 1) ∧ T (p - 1) ≤ 57))) ∨ (v = 0 ∧ ¬ ((97 ≤ T (p - 1) ∧ T (p - 1) ≤ 122) ∨ (48 ≤ T (p - 1) ∧ T (p - 1) ≤ 57)))) → zV Γ m_Scanner_advance 2 0 0 Q (GM L) (0, 0) 21 [some (zR 53), none, none, none] [zI v] σ := by
    intro v hv
    refine zistore_n (k := 11) (ls' := [_, _, _, _]) rfl (Nat.le_of_ble_eq_true rfl) rfl ?_
    refine zaload_n (k := 12) rfl rfl ?_
    refine zgI 2 (k := 13) rfl ob_53 fl_7_43 rfl fx_53_2 ?_
    rw [hp]
    refine zistore_n (k := 14) (ls' := [_, _, _, _]) rfl (Nat.le_of_ble_eq_true rfl) rfl ?_
    refine ziconst (k := 15) rfl (by decide) ?_
    refine zistore_n (k := 16) (ls' := [_, _, _, _]) rfl (Nat.le_of_ble_eq_true rfl) rfl ?_
    have lp29 : ∀ (g : Nat) (j : Nat), (1600 - j) < g → (j ≤ 1600) → (∀ i, p ≤ i → i < p + j → T i = 10 ∨ T i = 32) → zV Γ m_Scanner_advance 2 0 0 Q (GM L) (0, 0) 29 [some (zR 53), some (zI v), some (zI p), some (zI j)] [] (zup σ 53 2 (p + j)) := by
      intro g
      induction g with
      | zero => intro j hg; exact absurd hg (Nat.not_lt_zero _)
      | succ g ih29 =>
        intro j hg hj hb
        have es : zup σ 53 2 (p + (j : Int)) 53 2 = p + j := zup_s _ _ _ _
        refine ziload_n (k := 17) rfl rfl ?_
        refine zsipush (k := 18) rfl rfl ?_
        refine zicmp_ge (k := 19) rfl rfl (fun c10 => ?_) (fun c10 => ?_)
        · skip
          refine zforget (ls' := [_, _, _, _]) 3 rfl ?_
          have hq : tQ T p = p + j := tQ_u hn0 hpb.1 (by omega) hb (by first | omega | (have := hn0.2.2 (p + (j : Int)) (by omega); omega))
          rw [← hq]
          exact cut69 _ hv
        · skip
          refine zaload_n (k := 20) rfl rfl ?_
          refine zgF 0 (k := 21) rfl ob_53 fl_7_9 rfl fx_53_0 ?_
          refine zaload_n (k := 22) rfl rfl ?_
          refine zgI 2 (k := 23) rfl ob_53 fl_7_43 rfl fx_53_2 ?_
          rw [es]
          refine zfV1 (k := 24) rfl (k_oct (T := T) (by first | exact hT | (simp only [tA_53]; exact hT)) (by first | (rw [hl]; exact hn0.1.2) | (simp only [up_53]; rw [hl]; exact hn0.1.2))) fm_Tape_octetAt lk_7_53 rfl rfl ob_2 ⟨_, rfl, rfl⟩ (Nat.le_of_ble_eq_true rfl) (by decide) ⟨by decide, by decide⟩ ?_
          refine zfS1 (k := 25) rfl c_Scanner_isBlank fm_Scanner_isBlank lk_7_59 rfl rfl (Nat.le_of_ble_eq_true rfl) (by decide) ⟨by decide, by decide⟩ ?_
          refine zif_eq (k := 26) rfl rfl (fun c11 => ?_) (fun c11 => ?_)
          · skip
            refine zforget (ls' := [_, _, _, _]) 3 rfl ?_
            have hq : tQ T p = p + j := tQ_u hn0 hpb.1 (by omega) hb (by first | omega | (have := hn0.2.2 (p + (j : Int)) (by omega); omega))
            rw [← hq]
            exact cut69 _ hv
          · skip
            refine zaload_n (k := 27) rfl rfl ?_
            refine zdup (k := 28) rfl rfl ?_
            refine zgI 2 (k := 29) rfl ob_53 fl_7_43 rfl fx_53_2 ?_
            refine ziconst (k := 30) rfl (by decide) ?_
            rw [es]
            refine ziaddB (k := 31) rfl (by omega) ?_
            refine zpI 2 (k := 32) rfl ob_53 fl_7_43 ⟨_, rfl, rfl⟩ rfl (by omega) rfl fx_53_2 ?_
            refine ziincB (k := 33) (ls' := [_, _, _, _]) rfl rfl (by decide) (by omega) rfl ?_
            refine zgoto (k := 34) rfl rfl ?_
            have r := ih29 (j + 1) (by omega) (by omega) (fun i h1 h2 => by
              by_cases e : i = p + j
              · rw [e]; omega
              · exact hb i h1 (by omega))
            rw [show p + ((j + 1 : Nat) : Int) = p + (j : Int) + 1 by omega, ← zup_zup σ 53 2 (p + (j : Int)) (p + (j : Int) + 1)] at r
            exact r
    have r := lp29 1601 0 (by omega) (by omega) (fun i h1 h2 => by omega)
    rw [show p + ((0 : Nat) : Int) = p by omega, zup_id hp] at r
    exact r
  refine zaload_n (k := 0) rfl rfl ?_
  refine zgI 3 (k := 1) rfl ob_53 fl_7_47 rfl fx_53_3 ?_
  refine ziconst (k := 2) rfl (by decide) ?_
  refine zicmp_eq (k := 3) rfl rfl (fun c12 => ?_) (fun c12 => ?_)
  · skip
    refine ziconst (k := 8) rfl (by decide) ?_
    refine zgoto (k := 9) rfl rfl ?_
    exact cut21 _ (by first | exact Or.inl ⟨rfl, hnb.mp (by omega)⟩ | exact Or.inr ⟨rfl, fun q => by have := hnb.mpr q; omega⟩)
  · skip
    refine zaload_n (k := 4) rfl rfl ?_
    refine zgI 3 (k := 5) rfl ob_53 fl_7_47 rfl fx_53_3 ?_
    refine ziconst (k := 6) rfl (by decide) ?_
    refine zicmp_ne (k := 7) rfl rfl (fun c13 => ?_) (fun c13 => ?_)
    · skip
      refine ziconst (k := 10) rfl (by decide) ?_
      exact cut21 _ (by first | exact Or.inl ⟨rfl, hnb.mp (by omega)⟩ | exact Or.inr ⟨rfl, fun q => by have := hnb.mpr q; omega⟩)
    · skip
      refine ziconst (k := 8) rfl (by decide) ?_
      refine zgoto (k := 9) rfl rfl ?_
      exact cut21 _ (by first | exact Or.inl ⟨rfl, hnb.mp (by omega)⟩ | exact Or.inr ⟨rfl, fun q => by have := hnb.mpr q; omega⟩)
