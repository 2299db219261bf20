set_option maxHeartbeats 4000000 in
set_option maxRecDepth 20000 in
theorem c_M_ahead {Γ : zv_M} {L : Int} {σ : zv_H} {T : Int → Int} {n p : Int} (hR : TR σ T n) (hp : 0 ≤ p ∧ p ≤ n) (h5_q : σ 289 5 = p)  : zC Γ m_M_ahead 1 0 0 (GM L) [zR 289] σ (zP0 (GM L) (fun σ' => MSc σ' T p ∧ sfr σ σ')) := by
  refine zC_of (ls0 := [_, _, _, _, _, _]) zm_M_ahead (by decide) rfl (Nat.le_of_ble_eq_true rfl) ?_
  generalize hQ : (zP0 (GM L) (fun σ' => MSc σ' T p ∧ sfr σ σ')) = Q
  have hT := hR.2.1
  have hn := hT.1
  have sb := skp_b (T := T) 1600 p
  rw [show skp T 1600 p = tQ T p from rfl] at sb
  have tq := tS_q hT hp
  have hR2 : ∀ k, 0 ≤ k → k < n → σ 290 k = T k := hR.2.2
  have cut135_q : ∀ (x l d : Int), ((tQ T p) < n) → ((x = (tQ T p) ∧ alnm (T (tQ T p)) ∧ tS T p) ∨ (x = -1 ∧ ¬ (alnm (T (tQ T p)) ∧ tS T p))) → (l = if 97 ≤ T (tQ T p) ∧ T (tQ T p) ≤ 122 then 1 else 0) → (d = if 48 ≤ T (tQ T p) ∧ T (tQ T p) ≤ 57 then 1 else 0) → zV Γ m_M_ahead 1 0 0 Q (GM L) (0, 0) 135 [some (zR 289), some (zI (tQ T p)), some (zI l), some (zI d), none, none] [] (zup (zup (zup (zup σ 289 4 (tQ T p)) 289 5 (tQ T p)) 289 3 0) 289 12 x) := by
    intro x l d hq hx hl hd
    refine zaload_n (k := 75) rfl rfl ?_
    refine ziconst (k := 76) rfl (by decide) ?_
    refine zpI 6 (k := 77) rfl ob_289 fl_12_29 ⟨_, rfl, rfl⟩ rfl (by omega) rfl fx_289_6 ?_
    refine zaload_n (k := 78) rfl rfl ?_
    refine zlconst (k := 79) (z := 0) rfl rfl ?_
    refine zpL 7 (k := 80) rfl ob_289 fl_12_32 ⟨_, rfl, rfl⟩ rfl (by omega) rfl fx_289_7 ?_
    refine zaload_n (k := 81) rfl rfl ?_
    refine ziconst (k := 82) rfl (by decide) ?_
    refine zpI 3 (k := 83) rfl ob_289 fl_12_20 ⟨_, rfl, rfl⟩ rfl (by omega) rfl fx_289_3 ?_
    refine zaload_n (k := 84) rfl rfl ?_
    refine ziload_n (k := 85) rfl rfl ?_
    refine ziconst (k := 86) rfl (by decide) ?_
    refine ziaddB (k := 87) rfl (by omega) ?_
    refine zpI 5 (k := 88) rfl ob_289 fl_12_26 ⟨_, rfl, rfl⟩ rfl (by omega) rfl fx_289_5 ?_
    refine ziload_n (k := 89) rfl rfl ?_
    refine zif_ne (k := 90) rfl rfl (fun c1_q => ?_) (fun c1_q => ?_)
    · skip
      have mL1 : l = 1 := by omega
      refine zaload_n (k := 100) rfl rfl ?_
      refine ziload_n (k := 101) rfl rfl ?_
      refine zif_eq (k := 102) rfl rfl (fun c2_q => ?_) (fun c2_q => ?_)
      · exfalso; omega
      refine ziconst (k := 103) rfl (by decide) ?_
      refine zgoto (k := 104) rfl rfl ?_
      refine zpI 3 (k := 106) rfl ob_289 fl_12_20 ⟨_, rfl, rfl⟩ rfl (by omega) rfl fx_289_3 ?_
      refine ziload_n (k := 107) rfl rfl ?_
      refine zif_eq (k := 108) rfl rfl (fun c3_q => ?_) (fun c3_q => ?_)
      · exfalso; omega
      refine zbipush (k := 109) rfl rfl ?_
      refine zgoto (k := 110) rfl rfl ?_
      refine zistore (k := 112) (ls' := [_, _, _, _, _, _]) rfl (Nat.le_of_ble_eq_true rfl) rfl ?_
      refine ziconst (k := 113) rfl (by decide) ?_
      refine zistore (k := 114) (ls' := [_, _, _, _, _, _]) rfl (Nat.le_of_ble_eq_true rfl) rfl ?_
      have m1_q : aF T σ (zup (zup (zup (zup (zup (zup (zup (zup (zup σ 289 4 (tQ T p)) 289 5 (tQ T p)) 289 3 0) 289 12 x) 289 6 0) 289 7 0) 289 3 3) 289 5 ((tQ T p) + 1)) 289 3 (if l = 1 then 1 else 2)) (tQ T p) l x 0 0 0 := by
        refine ⟨fun y k q => by rw [zup_n (by omega), zup_n (by omega), zup_n (by omega), zup_n (by omega), zup_n (by omega), zup_n (by omega), zup_n (by omega), zup_n (by omega), zup_n (by omega)], ?_, ?_, ?_, ?_, ?_⟩
        · repeat (first | rw [zup_s] | rw [zup_n (by omega)])
        · rw [zup_s]
        · repeat (first | rw [zup_s] | rw [zup_n (by omega)])
          rcases hx with q | q
          · rw [if_pos q.1, q.1]
          · rw [if_neg (by omega), if_neg (by (repeat' split) <;> omega), q.1]
        · repeat (first | rw [zup_s] | rw [zup_n (by omega)])
          split <;> rfl
        · repeat (first | rw [zup_s] | rw [zup_n (by omega)])
          split <;> rfl
      have lp204_q : ∀ (g : Nat) (j : Nat) (σ1 : zv_H), ((n - tQ T p).toNat - j) < g → ((tQ T p) + (j : Int) ≤ n) → (aF T σ σ1 (tQ T p) l x j j j) → (∀ i : Nat, i < j → (l = 1 ∧ 97 ≤ T ((tQ T p) + i) ∧ T ((tQ T p) + i) ≤ 122) ∨ (l = 0 ∧ 48 ≤ T ((tQ T p) + i) ∧ T ((tQ T p) + i) ≤ 57)) → zV Γ m_M_ahead 1 0 0 Q (GM L) (0, 0) 204 [some (zR 289), some (zI ((tQ T p) + j)), some (zI l), some (zI d), some (zI (if l = 1 then 6 else 4)), some (zI j)] [] σ1 := by
        intro g
        induction g with
        | zero => intro j σ1 hg; exact absurd hg (Nat.not_lt_zero _)
        | succ g ih204_q =>
          intro j σ1 hg hj h1_q hcl
          have t1_q := TR_s hR h1_q.1
          have n1_q := t1_q.1
          refine ziload_n (k := 115) rfl rfl ?_
          refine zaload_n (k := 116) rfl rfl ?_
          refine zgI 2 (k := 117) rfl ob_289 fl_12_17 rfl fx_289_2 ?_
          rw [n1_q]
          refine zicmp_ge (k := 118) rfl rfl (fun c4_q => ?_) (fun c4_q => ?_)
          · skip
            refine zaload_n (k := 182) rfl rfl ?_
            refine ziload_n (k := 183) rfl rfl ?_
            refine zpI 5 (k := 184) rfl ob_289 fl_12_26 ⟨_, rfl, rfl⟩ rfl (by omega) rfl fx_289_5 ?_
            refine zreturn (k := 185) rfl rfl rfl ?_
            rw [← hQ]
            have tQb := hT.2.1 (tQ T p) (by omega) (by omega)
            have j1_q : 1 ≤ j := by
              by_cases e : j = 0
              · exfalso
                have e3_q : T ((tQ T p) + (j : Int)) = T (tQ T p) := congrArg T (by omega)
                omega
              · omega
            have te : (tQ T p) + (j : Int) < n ∨ T ((tQ T p) + j) = -1 := by
              by_cases e : (tQ T p) + (j : Int) < n
              · exact Or.inl e
              · exact Or.inr (hT.2.2 _ (by omega))
            have sf : sfr σ (zup σ1 289 5 ((tQ T p) + j)) := fun y k q => by rw [zup_n (by omega)]; exact h1_q.1 y k q
            have l01_q : l = 1 ∨ l = 0 := by omega
            rcases l01_q with e | e
            · subst e
              exact ⟨rfl, rfl, MSc_w hT hq (by omega) j1_q (fun i hi => by have q := hcl i hi; omega) (by omega) hx h1_q, sf⟩
            · subst e
              exact ⟨rfl, rfl, MSc_d hT hq (by omega) j1_q (fun i hi => by have q := hcl i hi; omega) (by omega) hx h1_q, sf⟩
          · skip
            refine ziload_n (k := 119) rfl rfl ?_
            refine zif_eq (k := 120) rfl rfl (fun c5_q => ?_) (fun c5_q => ?_)
            · exfalso; omega
            refine zaload_n (k := 121) rfl rfl ?_
            refine zgF 0 (k := 122) rfl ob_289 fl_12_7 rfl fx_289_0 ?_
            refine ziload_n (k := 123) rfl rfl ?_
            refine ziaload (k := 124) rfl ar_290 ⟨by omega, by omega⟩ ?_
            rw [t1_q.2.2 _ (by omega) (by omega)]
            refine zfS1 (k := 125) rfl c_M_isLetter fm_M_isLetter lk_12_243 rfl rfl (Nat.le_of_ble_eq_true rfl) (by decide) ⟨by decide, by decide⟩ ?_
            refine zif_eq (k := 126) rfl rfl (fun c6_q => ?_) (fun c6_q => ?_)
            · skip
              refine zaload_n (k := 182) rfl rfl ?_
              refine ziload_n (k := 183) rfl rfl ?_
              refine zpI 5 (k := 184) rfl ob_289 fl_12_26 ⟨_, rfl, rfl⟩ rfl (by omega) rfl fx_289_5 ?_
              refine zreturn (k := 185) rfl rfl rfl ?_
              rw [← hQ]
              have tQb := hT.2.1 (tQ T p) (by omega) (by omega)
              have j1_q : 1 ≤ j := by
                by_cases e : j = 0
                · exfalso
                  have e3_q : T ((tQ T p) + (j : Int)) = T (tQ T p) := congrArg T (by omega)
                  omega
                · omega
              have te : (tQ T p) + (j : Int) < n ∨ T ((tQ T p) + j) = -1 := by
                by_cases e : (tQ T p) + (j : Int) < n
                · exact Or.inl e
                · exact Or.inr (hT.2.2 _ (by omega))
              have sf : sfr σ (zup σ1 289 5 ((tQ T p) + j)) := fun y k q => by rw [zup_n (by omega)]; exact h1_q.1 y k q
              have l01_q : l = 1 ∨ l = 0 := by omega
              rcases l01_q with e | e
              · subst e
                exact ⟨rfl, rfl, MSc_w hT hq (by omega) j1_q (fun i hi => by have q := hcl i hi; omega) (by omega) hx h1_q, sf⟩
              · subst e
                exact ⟨rfl, rfl, MSc_d hT hq (by omega) j1_q (fun i hi => by have q := hcl i hi; omega) (by omega) hx h1_q, sf⟩
            · skip
              refine zgoto (k := 127) rfl rfl ?_
              have cut325_q : ∀ (σ2 : zv_H), (aF T σ σ2 (tQ T p) l x (j + 1) (j + 1) (j + 1)) → zV Γ m_M_ahead 1 0 0 Q (GM L) (0, 0) 325 [some (zR 289), some (zI ((tQ T p) + j)), some (zI l), some (zI d), some (zI (if l = 1 then 6 else 4)), some (zI j)] [] σ2 := by
                intro σ2 h2_q
                have t2_q := TR_s hR h2_q.1
                have n2_q := t2_q.1
                refine ziincB (k := 179) (ls' := [_, _, _, _, _, _]) rfl rfl (by decide) (by omega) rfl ?_
                refine ziincB (k := 180) (ls' := [_, _, _, _, _, _]) rfl rfl (by decide) (by omega) rfl ?_
                refine zgoto (k := 181) rfl rfl ?_
                have rr := ih204_q (j + 1) _ (by omega) (by omega) h2_q (fun i hi => by
                  by_cases e : i = j
                  · rw [e]; omega
                  · exact hcl i (by omega))
                rw [show (tQ T p) + ((j + 1 : Nat) : Int) = (tQ T p) + j + 1 by omega] at rr
                exact rr
              have cut293_q : ∀ (σ2 : zv_H), (aF T σ σ2 (tQ T p) l x (j + 1) (j + 1) j) → zV Γ m_M_ahead 1 0 0 Q (GM L) (0, 0) 293 [some (zR 289), some (zI ((tQ T p) + j)), some (zI l), some (zI d), some (zI (if l = 1 then 6 else 4)), some (zI j)] [] σ2 := by
                intro σ2 h2_q
                have t2_q := TR_s hR h2_q.1
                have n2_q := t2_q.1
                refine ziload (k := 161) rfl rfl ?_
                refine ziload (k := 162) rfl rfl ?_
                refine zicmp_ge (k := 163) rfl rfl (fun c7_q => ?_) (fun c7_q => ?_)
                · skip
                  first
                  | exact cut325_q _ (aF_5 h2_q (by omega) (by omega) rfl)
                  | exact cut325_q _ (aF_6 h2_q (by omega))
                · skip
                  refine ziload_n (k := 164) rfl rfl ?_
                  refine zif_eq (k := 165) rfl rfl (fun c8_q => ?_) (fun c8_q => ?_)
                  · skip
                    first
                    | exact cut325_q _ (aF_5 h2_q (by omega) (by omega) rfl)
                    | exact cut325_q _ (aF_6 h2_q (by omega))
                  · exfalso; omega
              have cut263_q : ∀ (σ2 : zv_H), (aF T σ σ2 (tQ T p) l x (j + 1) j j) → zV Γ m_M_ahead 1 0 0 Q (GM L) (0, 0) 263 [some (zR 289), some (zI ((tQ T p) + j)), some (zI l), some (zI d), some (zI (if l = 1 then 6 else 4)), some (zI j)] [] σ2 := by
                intro σ2 h2_q
                have t2_q := TR_s hR h2_q.1
                have n2_q := t2_q.1
                refine ziload (k := 144) rfl rfl ?_
                refine ziload (k := 145) rfl rfl ?_
                refine zicmp_ge (k := 146) rfl rfl (fun c9_q => ?_) (fun c9_q => ?_)
                · skip
                  first
                  | exact cut293_q _ (aF_3 h2_q (by omega) (by omega) rfl)
                  | exact cut293_q _ (aF_4 h2_q (by omega))
                · skip
                  refine ziload_n (k := 147) rfl rfl ?_
                  refine zif_eq (k := 148) rfl rfl (fun c10_q => ?_) (fun c10_q => ?_)
                  · exfalso; omega
                  refine zaload_n (k := 149) rfl rfl ?_
                  refine zaload_n (k := 150) rfl rfl ?_
                  refine zgL 7 (k := 151) rfl ob_289 fl_12_32 rfl fx_289_7 ?_
                  have hw7_q : σ2 289 7 = wv256 T (tQ T p) j := by rw [h2_q.2.2.2.2.1, if_pos (by omega), Nat.min_eq_left (by omega)]
                  rw [hw7_q]
                  refine zbipush (k := 152) rfl rfl ?_
                  refine zlshl (k := 153) rfl ?_
                  refine zaload_n (k := 154) rfl rfl ?_
                  refine zgF 0 (k := 155) rfl ob_289 fl_12_7 rfl fx_289_0 ?_
                  refine ziload_n (k := 156) rfl rfl ?_
                  refine ziaload (k := 157) rfl ar_290 ⟨by omega, by omega⟩ ?_
                  rw [t2_q.2.2 _ (by omega) (by omega)]
                  have tj := hT.2.1 ((tQ T p) + j) (by omega) (by omega)
                  refine zi2l (k := 158) rfl ?_
                  refine zlor (k := 159) rfl ?_
                  have bw := wv_b6 (T := T) (Q := (tQ T p)) j (fun i hi => by have q := hcl i (by omega); omega)
                  have bw2_q : wv256 T (tQ T p) j ≤ 281474976710655 := by
                    have e : j = 0 ∨ j = 1 ∨ j = 2 ∨ j = 3 ∨ j = 4 ∨ j = 5 := by omega
                    rcases e with rfl | rfl | rfl | rfl | rfl | rfl <;> omega
                  rw [two_bL ⟨bw.1, bw2_q⟩ (by omega)]
                  refine zpL 7 (k := 160) rfl ob_289 fl_12_32 ⟨_, rfl, rfl⟩ rfl (by omega) rfl fx_289_7 ?_
                  first
                  | exact cut293_q _ (aF_3 h2_q (by omega) (by omega) rfl)
                  | exact cut293_q _ (aF_4 h2_q (by omega))
              refine ziload (k := 134) rfl rfl ?_
              refine ziload (k := 135) rfl rfl ?_
              refine zicmp_ne (k := 136) rfl rfl (fun c11_q => ?_) (fun c11_q => ?_)
              · skip
                first
                | exact cut263_q _ (aF_1 h1_q (by omega) (by omega) (by omega) rfl)
                | exact cut263_q _ (aF_2 h1_q (by omega))
              · skip
                refine zaload_n (k := 137) rfl rfl ?_
                refine zgI 12 (k := 138) rfl ob_289 fl_12_48 rfl fx_289_12 ?_
                refine ziconst (k := 139) rfl (by decide) ?_
                refine zicmp_ne (k := 140) rfl rfl (fun c12_q => ?_) (fun c12_q => ?_)
                · skip
                  first
                  | exact cut263_q _ (aF_1 h1_q (by omega) (by omega) (by omega) rfl)
                  | exact cut263_q _ (aF_2 h1_q (by omega))
                · skip
                  refine zaload_n (k := 141) rfl rfl ?_
                  refine ziload_n (k := 142) rfl rfl ?_
                  refine zpI 12 (k := 143) rfl ob_289 fl_12_48 ⟨_, rfl, rfl⟩ rfl (by omega) rfl fx_289_12 ?_
                  first
                  | exact cut263_q _ (aF_1 h1_q (by omega) (by omega) (by omega) rfl)
                  | exact cut263_q _ (aF_2 h1_q (by omega))
      have rr := lp204_q ((n - tQ T p).toNat + 1) 0 _ (by omega) (by omega) m1_q (fun i hi => absurd hi (Nat.not_lt_zero _))
      rw [show (tQ T p) + ((0 : Nat) : Int) = (tQ T p) by omega] at rr
      first
      | (rw [if_pos (c := l = 1) (by omega), if_pos (c := l = 1) (by omega)] at rr; exact rr)
      | (rw [if_neg (c := l = 1) (by omega), if_neg (c := l = 1) (by omega)] at rr; exact rr)
      | (exfalso; omega)
    · skip
      have mL0 : l = 0 := by omega
      refine ziload_n (k := 91) rfl rfl ?_
      refine zif_ne (k := 92) rfl rfl (fun c13_q => ?_) (fun c13_q => ?_)
      · skip
        have mD1 : d = 1 := by omega
        refine zaload_n (k := 100) rfl rfl ?_
        refine ziload_n (k := 101) rfl rfl ?_
        refine zif_eq (k := 102) rfl rfl (fun c14_q => ?_) (fun c14_q => ?_)
        · skip
          refine ziconst (k := 105) rfl (by decide) ?_
          refine zpI 3 (k := 106) rfl ob_289 fl_12_20 ⟨_, rfl, rfl⟩ rfl (by omega) rfl fx_289_3 ?_
          refine ziload_n (k := 107) rfl rfl ?_
          refine zif_eq (k := 108) rfl rfl (fun c15_q => ?_) (fun c15_q => ?_)
          · skip
            refine ziconst (k := 111) rfl (by decide) ?_
            refine zistore (k := 112) (ls' := [_, _, _, _, _, _]) rfl (Nat.le_of_ble_eq_true rfl) rfl ?_
            refine ziconst (k := 113) rfl (by decide) ?_
            refine zistore (k := 114) (ls' := [_, _, _, _, _, _]) rfl (Nat.le_of_ble_eq_true rfl) rfl ?_
            have m1_q : aF T σ (zup (zup (zup (zup (zup (zup (zup (zup (zup σ 289 4 (tQ T p)) 289 5 (tQ T p)) 289 3 0) 289 12 x) 289 6 0) 289 7 0) 289 3 3) 289 5 ((tQ T p) + 1)) 289 3 (if l = 1 then 1 else 2)) (tQ T p) l x 0 0 0 := by
              refine ⟨fun y k q => by rw [zup_n (by omega), zup_n (by omega), zup_n (by omega), zup_n (by omega), zup_n (by omega), zup_n (by omega), zup_n (by omega), zup_n (by omega), zup_n (by omega)], ?_, ?_, ?_, ?_, ?_⟩
              · repeat (first | rw [zup_s] | rw [zup_n (by omega)])
              · rw [zup_s]
              · repeat (first | rw [zup_s] | rw [zup_n (by omega)])
                rcases hx with q | q
                · rw [if_pos q.1, q.1]
                · rw [if_neg (by omega), if_neg (by (repeat' split) <;> omega), q.1]
              · repeat (first | rw [zup_s] | rw [zup_n (by omega)])
                split <;> rfl
              · repeat (first | rw [zup_s] | rw [zup_n (by omega)])
                split <;> rfl
            have lp204_q : ∀ (g : Nat) (j : Nat) (σ1 : zv_H), ((n - tQ T p).toNat - j) < g → ((tQ T p) + (j : Int) ≤ n) → (aF T σ σ1 (tQ T p) l x j j j) → (∀ i : Nat, i < j → (l = 1 ∧ 97 ≤ T ((tQ T p) + i) ∧ T ((tQ T p) + i) ≤ 122) ∨ (l = 0 ∧ 48 ≤ T ((tQ T p) + i) ∧ T ((tQ T p) + i) ≤ 57)) → zV Γ m_M_ahead 1 0 0 Q (GM L) (0, 0) 204 [some (zR 289), some (zI ((tQ T p) + j)), some (zI l), some (zI d), some (zI (if l = 1 then 6 else 4)), some (zI j)] [] σ1 := by
              intro g
              induction g with
              | zero => intro j σ1 hg; exact absurd hg (Nat.not_lt_zero _)
              | succ g ih204_q =>
                intro j σ1 hg hj h1_q hcl
                have t1_q := TR_s hR h1_q.1
                have n1_q := t1_q.1
                refine ziload_n (k := 115) rfl rfl ?_
                refine zaload_n (k := 116) rfl rfl ?_
                refine zgI 2 (k := 117) rfl ob_289 fl_12_17 rfl fx_289_2 ?_
                rw [n1_q]
                refine zicmp_ge (k := 118) rfl rfl (fun c16_q => ?_) (fun c16_q => ?_)
                · skip
                  refine zaload_n (k := 182) rfl rfl ?_
                  refine ziload_n (k := 183) rfl rfl ?_
                  refine zpI 5 (k := 184) rfl ob_289 fl_12_26 ⟨_, rfl, rfl⟩ rfl (by omega) rfl fx_289_5 ?_
                  refine zreturn (k := 185) rfl rfl rfl ?_
                  rw [← hQ]
                  have tQb := hT.2.1 (tQ T p) (by omega) (by omega)
                  have j1_q : 1 ≤ j := by
                    by_cases e : j = 0
                    · exfalso
                      have e3_q : T ((tQ T p) + (j : Int)) = T (tQ T p) := congrArg T (by omega)
                      omega
                    · omega
                  have te : (tQ T p) + (j : Int) < n ∨ T ((tQ T p) + j) = -1 := by
                    by_cases e : (tQ T p) + (j : Int) < n
                    · exact Or.inl e
                    · exact Or.inr (hT.2.2 _ (by omega))
                  have sf : sfr σ (zup σ1 289 5 ((tQ T p) + j)) := fun y k q => by rw [zup_n (by omega)]; exact h1_q.1 y k q
                  have l01_q : l = 1 ∨ l = 0 := by omega
                  rcases l01_q with e | e
                  · subst e
                    exact ⟨rfl, rfl, MSc_w hT hq (by omega) j1_q (fun i hi => by have q := hcl i hi; omega) (by omega) hx h1_q, sf⟩
                  · subst e
                    exact ⟨rfl, rfl, MSc_d hT hq (by omega) j1_q (fun i hi => by have q := hcl i hi; omega) (by omega) hx h1_q, sf⟩
                · skip
                  refine ziload_n (k := 119) rfl rfl ?_
                  refine zif_eq (k := 120) rfl rfl (fun c17_q => ?_) (fun c17_q => ?_)
                  · skip
                    refine zaload_n (k := 128) rfl rfl ?_
                    refine zgF 0 (k := 129) rfl ob_289 fl_12_7 rfl fx_289_0 ?_
                    refine ziload_n (k := 130) rfl rfl ?_
                    refine ziaload (k := 131) rfl ar_290 ⟨by omega, by omega⟩ ?_
                    rw [t1_q.2.2 _ (by omega) (by omega)]
                    refine zfS1 (k := 132) rfl c_M_isDigit fm_M_isDigit lk_12_247 rfl rfl (Nat.le_of_ble_eq_true rfl) (by decide) ⟨by decide, by decide⟩ ?_
                    refine zif_eq (k := 133) rfl rfl (fun c18_q => ?_) (fun c18_q => ?_)
                    · skip
                      refine zaload_n (k := 182) rfl rfl ?_
                      refine ziload_n (k := 183) rfl rfl ?_
                      refine zpI 5 (k := 184) rfl ob_289 fl_12_26 ⟨_, rfl, rfl⟩ rfl (by omega) rfl fx_289_5 ?_
                      refine zreturn (k := 185) rfl rfl rfl ?_
                      rw [← hQ]
                      have tQb := hT.2.1 (tQ T p) (by omega) (by omega)
                      have j1_q : 1 ≤ j := by
                        by_cases e : j = 0
                        · exfalso
                          have e3_q : T ((tQ T p) + (j : Int)) = T (tQ T p) := congrArg T (by omega)
                          omega
                        · omega
                      have te : (tQ T p) + (j : Int) < n ∨ T ((tQ T p) + j) = -1 := by
                        by_cases e : (tQ T p) + (j : Int) < n
                        · exact Or.inl e
                        · exact Or.inr (hT.2.2 _ (by omega))
                      have sf : sfr σ (zup σ1 289 5 ((tQ T p) + j)) := fun y k q => by rw [zup_n (by omega)]; exact h1_q.1 y k q
                      have l01_q : l = 1 ∨ l = 0 := by omega
                      rcases l01_q with e | e
                      · subst e
                        exact ⟨rfl, rfl, MSc_w hT hq (by omega) j1_q (fun i hi => by have q := hcl i hi; omega) (by omega) hx h1_q, sf⟩
                      · subst e
                        exact ⟨rfl, rfl, MSc_d hT hq (by omega) j1_q (fun i hi => by have q := hcl i hi; omega) (by omega) hx h1_q, sf⟩
                    · skip
                      have cut325_q : ∀ (σ2 : zv_H), (aF T σ σ2 (tQ T p) l x (j + 1) (j + 1) (j + 1)) → zV Γ m_M_ahead 1 0 0 Q (GM L) (0, 0) 325 [some (zR 289), some (zI ((tQ T p) + j)), some (zI l), some (zI d), some (zI (if l = 1 then 6 else 4)), some (zI j)] [] σ2 := by
                        intro σ2 h2_q
                        have t2_q := TR_s hR h2_q.1
                        have n2_q := t2_q.1
                        refine ziincB (k := 179) (ls' := [_, _, _, _, _, _]) rfl rfl (by decide) (by omega) rfl ?_
                        refine ziincB (k := 180) (ls' := [_, _, _, _, _, _]) rfl rfl (by decide) (by omega) rfl ?_
                        refine zgoto (k := 181) rfl rfl ?_
                        have rr := ih204_q (j + 1) _ (by omega) (by omega) h2_q (fun i hi => by
                          by_cases e : i = j
                          · rw [e]; omega
                          · exact hcl i (by omega))
                        rw [show (tQ T p) + ((j + 1 : Nat) : Int) = (tQ T p) + j + 1 by omega] at rr
                        exact rr
                      have cut293_q : ∀ (σ2 : zv_H), (aF T σ σ2 (tQ T p) l x (j + 1) (j + 1) j) → zV Γ m_M_ahead 1 0 0 Q (GM L) (0, 0) 293 [some (zR 289), some (zI ((tQ T p) + j)), some (zI l), some (zI d), some (zI (if l = 1 then 6 else 4)), some (zI j)] [] σ2 := by
                        intro σ2 h2_q
                        have t2_q := TR_s hR h2_q.1
                        have n2_q := t2_q.1
                        refine ziload (k := 161) rfl rfl ?_
                        refine ziload (k := 162) rfl rfl ?_
                        refine zicmp_ge (k := 163) rfl rfl (fun c19_q => ?_) (fun c19_q => ?_)
                        · skip
                          first
                          | exact cut325_q _ (aF_5 h2_q (by omega) (by omega) rfl)
                          | exact cut325_q _ (aF_6 h2_q (by omega))
                        · skip
                          refine ziload_n (k := 164) rfl rfl ?_
                          refine zif_eq (k := 165) rfl rfl (fun c20_q => ?_) (fun c20_q => ?_)
                          · exfalso; omega
                          refine zaload_n (k := 166) rfl rfl ?_
                          refine zbipush (k := 167) rfl rfl ?_
                          refine zaload_n (k := 168) rfl rfl ?_
                          refine zgI 6 (k := 169) rfl ob_289 fl_12_29 rfl fx_289_6 ?_
                          have bn := nv_b4 (T := T) (Q := (tQ T p)) j (fun i hi => by have q := hcl i (by omega); omega)
                          have bn2_q : nv10 T (tQ T p) j ≤ 9999 := by
                            have e : j = 0 ∨ j = 1 ∨ j = 2 ∨ j = 3 := by omega
                            rcases e with rfl | rfl | rfl | rfl <;> omega
                          have hw6_q : σ2 289 6 = nv10 T (tQ T p) j := by rw [h2_q.2.2.2.2.2, if_neg (by omega), Nat.min_eq_left (by omega)]
                          rw [hw6_q]
                          refine zimulB (k := 170) rfl (by omega) ?_
                          refine zaload_n (k := 171) rfl rfl ?_
                          refine zgF 0 (k := 172) rfl ob_289 fl_12_7 rfl fx_289_0 ?_
                          refine ziload_n (k := 173) rfl rfl ?_
                          refine ziaload (k := 174) rfl ar_290 ⟨by omega, by omega⟩ ?_
                          rw [t2_q.2.2 _ (by omega) (by omega)]
                          have tj := hT.2.1 ((tQ T p) + j) (by omega) (by omega)
                          refine ziaddB (k := 175) rfl (by omega) ?_
                          refine zbipush (k := 176) rfl rfl ?_
                          refine zisubB (k := 177) rfl (by omega) ?_
                          refine zpI 6 (k := 178) rfl ob_289 fl_12_29 ⟨_, rfl, rfl⟩ rfl (by omega) rfl fx_289_6 ?_
                          first
                          | exact cut325_q _ (aF_5 h2_q (by omega) (by omega) rfl)
                          | exact cut325_q _ (aF_6 h2_q (by omega))
                      have cut263_q : ∀ (σ2 : zv_H), (aF T σ σ2 (tQ T p) l x (j + 1) j j) → zV Γ m_M_ahead 1 0 0 Q (GM L) (0, 0) 263 [some (zR 289), some (zI ((tQ T p) + j)), some (zI l), some (zI d), some (zI (if l = 1 then 6 else 4)), some (zI j)] [] σ2 := by
                        intro σ2 h2_q
                        have t2_q := TR_s hR h2_q.1
                        have n2_q := t2_q.1
                        refine ziload (k := 144) rfl rfl ?_
                        refine ziload (k := 145) rfl rfl ?_
                        refine zicmp_ge (k := 146) rfl rfl (fun c21_q => ?_) (fun c21_q => ?_)
                        · skip
                          first
                          | exact cut293_q _ (aF_3 h2_q (by omega) (by omega) rfl)
                          | exact cut293_q _ (aF_4 h2_q (by omega))
                        · skip
                          refine ziload_n (k := 147) rfl rfl ?_
                          refine zif_eq (k := 148) rfl rfl (fun c22_q => ?_) (fun c22_q => ?_)
                          · skip
                            first
                            | exact cut293_q _ (aF_3 h2_q (by omega) (by omega) rfl)
                            | exact cut293_q _ (aF_4 h2_q (by omega))
                          · exfalso; omega
                      refine ziload (k := 134) rfl rfl ?_
                      refine ziload (k := 135) rfl rfl ?_
                      refine zicmp_ne (k := 136) rfl rfl (fun c23_q => ?_) (fun c23_q => ?_)
                      · skip
                        first
                        | exact cut263_q _ (aF_1 h1_q (by omega) (by omega) (by omega) rfl)
                        | exact cut263_q _ (aF_2 h1_q (by omega))
                      · skip
                        refine zaload_n (k := 137) rfl rfl ?_
                        refine zgI 12 (k := 138) rfl ob_289 fl_12_48 rfl fx_289_12 ?_
                        refine ziconst (k := 139) rfl (by decide) ?_
                        refine zicmp_ne (k := 140) rfl rfl (fun c24_q => ?_) (fun c24_q => ?_)
                        · skip
                          first
                          | exact cut263_q _ (aF_1 h1_q (by omega) (by omega) (by omega) rfl)
                          | exact cut263_q _ (aF_2 h1_q (by omega))
                        · skip
                          refine zaload_n (k := 141) rfl rfl ?_
                          refine ziload_n (k := 142) rfl rfl ?_
                          refine zpI 12 (k := 143) rfl ob_289 fl_12_48 ⟨_, rfl, rfl⟩ rfl (by omega) rfl fx_289_12 ?_
                          first
                          | exact cut263_q _ (aF_1 h1_q (by omega) (by omega) (by omega) rfl)
                          | exact cut263_q _ (aF_2 h1_q (by omega))
                  · exfalso; omega
            have rr := lp204_q ((n - tQ T p).toNat + 1) 0 _ (by omega) (by omega) m1_q (fun i hi => absurd hi (Nat.not_lt_zero _))
            rw [show (tQ T p) + ((0 : Nat) : Int) = (tQ T p) by omega] at rr
            first
            | (rw [if_pos (c := l = 1) (by omega), if_pos (c := l = 1) (by omega)] at rr; exact rr)
            | (rw [if_neg (c := l = 1) (by omega), if_neg (c := l = 1) (by omega)] at rr; exact rr)
            | (exfalso; omega)
          · exfalso; omega
        · exfalso; omega
      · skip
        refine zaload_n (k := 93) rfl rfl ?_
        refine zaload_n (k := 94) rfl rfl ?_
        refine zgF 0 (k := 95) rfl ob_289 fl_12_7 rfl fx_289_0 ?_
        refine ziload_n (k := 96) rfl rfl ?_
        refine ziaload (k := 97) rfl ar_290 ⟨by omega, by omega⟩ ?_
        repeat (first | rw [zup_s] | rw [zup_n (by omega)])
        rw [hR2 _ (by omega) (by omega)]
        refine zpI 6 (k := 98) rfl ob_289 fl_12_29 ⟨_, rfl, rfl⟩ rfl (by omega) rfl fx_289_6 ?_
        refine zreturn (k := 99) rfl rfl rfl ?_
        rw [← hQ]
        have na : ¬ alnm (T (tQ T p)) := by unfold alnm; omega
        have tQb := hT.2.1 (tQ T p) (by omega) (by omega)
        have k3_q : tK T p = 3 := by unfold tK; rw [if_neg (by omega), if_pos na]
        have ex : x = -1 := by
          rcases hx with q | q
          · exact absurd q.2.1 na
          · exact q.1
        refine ⟨rfl, rfl, ⟨?_, fun q => by omega, fun q => ⟨?_, ?_, ?_⟩, fun q => ?_, fun q => by omega, fun q => by omega⟩, fun y k q => ?_⟩
        · repeat (first | rw [zup_s] | rw [zup_n (by omega)])
        · repeat (first | rw [zup_s] | rw [zup_n (by omega)])
          exact ex
        · repeat (first | rw [zup_s] | rw [zup_n (by omega)])
          exact k3_q.symm
        · repeat (first | rw [zup_s] | rw [zup_n (by omega)])
          unfold tN
          rw [if_neg (by omega), if_pos k3_q]
        · repeat (first | rw [zup_s] | rw [zup_n (by omega)])
        · rw [zup_n (by omega), zup_n (by omega), zup_n (by omega), zup_n (by omega), zup_n (by omega), zup_n (by omega), zup_n (by omega), zup_n (by omega), zup_n (by omega)]
  have cut41_q : ((tQ T p) ≤ n) → zV Γ m_M_ahead 1 0 0 Q (GM L) (0, 0) 41 [some (zR 289), some (zI (tQ T p)), none, none, none, none] [] σ := by
    intro  hq
    refine zaload_n (k := 21) rfl rfl ?_
    refine ziload_n (k := 22) rfl rfl ?_
    refine zpI 4 (k := 23) rfl ob_289 fl_12_23 ⟨_, rfl, rfl⟩ rfl (by omega) rfl fx_289_4 ?_
    refine zaload_n (k := 24) rfl rfl ?_
    refine ziload_n (k := 25) rfl rfl ?_
    refine zpI 5 (k := 26) rfl ob_289 fl_12_26 ⟨_, rfl, rfl⟩ rfl (by omega) rfl fx_289_5 ?_
    refine zaload_n (k := 27) rfl rfl ?_
    refine ziconst (k := 28) rfl (by decide) ?_
    refine zpI 3 (k := 29) rfl ob_289 fl_12_20 ⟨_, rfl, rfl⟩ rfl (by omega) rfl fx_289_3 ?_
    refine zaload_n (k := 30) rfl rfl ?_
    refine ziconst (k := 31) rfl (by decide) ?_
    refine zpI 12 (k := 32) rfl ob_289 fl_12_48 ⟨_, rfl, rfl⟩ rfl (by omega) rfl fx_289_12 ?_
    refine ziload_n (k := 33) rfl rfl ?_
    refine zaload_n (k := 34) rfl rfl ?_
    refine zgI 2 (k := 35) rfl ob_289 fl_12_17 rfl fx_289_2 ?_
    repeat (first | rw [zup_s] | rw [zup_n (by omega)])
    rw [hR.1]
    refine zicmp_lt (k := 36) rfl rfl (fun c25_q => ?_) (fun c25_q => ?_)
    · skip
      refine zaload_n (k := 38) rfl rfl ?_
      refine zgF 0 (k := 39) rfl ob_289 fl_12_7 rfl fx_289_0 ?_
      refine ziload_n (k := 40) rfl rfl ?_
      refine ziaload (k := 41) rfl ar_290 ⟨by omega, by omega⟩ ?_
      repeat (first | rw [zup_s] | rw [zup_n (by omega)])
      rw [hR2 _ (by omega) (by omega)]
      have tQb := hT.2.1 (tQ T p) (by omega) (by omega)
      refine zfS1 (k := 42) rfl c_M_isLetter fm_M_isLetter lk_12_243 rfl rfl (Nat.le_of_ble_eq_true rfl) (by decide) ⟨by decide, by decide⟩ ?_
      refine zistore_n (k := 43) (ls' := [_, _, _, _, _, _]) rfl (Nat.le_of_ble_eq_true rfl) rfl ?_
      refine zaload_n (k := 44) rfl rfl ?_
      refine zgF 0 (k := 45) rfl ob_289 fl_12_7 rfl fx_289_0 ?_
      refine ziload_n (k := 46) rfl rfl ?_
      refine ziaload (k := 47) rfl ar_290 ⟨by omega, by omega⟩ ?_
      repeat (first | rw [zup_s] | rw [zup_n (by omega)])
      rw [hR2 _ (by omega) (by omega)]
      refine zfS1 (k := 48) rfl c_M_isDigit fm_M_isDigit lk_12_247 rfl rfl (Nat.le_of_ble_eq_true rfl) (by decide) ⟨by decide, by decide⟩ ?_
      refine zistore_n (k := 49) (ls' := [_, _, _, _, _, _]) rfl (Nat.le_of_ble_eq_true rfl) rfl ?_
      refine ziload_n (k := 50) rfl rfl ?_
      refine zif_ne (k := 51) rfl rfl (fun c26_q => ?_) (fun c26_q => ?_)
      · skip
        refine ziload_n (k := 54) rfl rfl ?_
        refine zif_le (k := 55) rfl rfl (fun c27_q => ?_) (fun c27_q => ?_)
        · skip
          first
          | exact cut135_q (-1) _ _ (by omega) (Or.inr ⟨rfl, fun q => by have q1_q := q.1; have q2_q := tq.mpr q.2; unfold alnm at q1_q q2_q; omega⟩) rfl rfl
          | (rw [zup_zup]; exact cut135_q (tQ T p) _ _ (by omega) (Or.inl ⟨rfl, by unfold alnm; omega, tq.mp (by unfold alnm; omega)⟩) rfl rfl)
        · skip
          refine zaload_n (k := 56) rfl rfl ?_
          refine zgF 0 (k := 57) rfl ob_289 fl_12_7 rfl fx_289_0 ?_
          refine ziload_n (k := 58) rfl rfl ?_
          refine ziconst (k := 59) rfl (by decide) ?_
          refine zisubB (k := 60) rfl (by omega) ?_
          refine ziaload (k := 61) rfl ar_290 ⟨by omega, by omega⟩ ?_
          repeat (first | rw [zup_s] | rw [zup_n (by omega)])
          rw [hR2 _ (by omega) (by omega)]
          refine zfS1 (k := 62) rfl c_M_isLetter fm_M_isLetter lk_12_243 rfl rfl (Nat.le_of_ble_eq_true rfl) (by decide) ⟨by decide, by decide⟩ ?_
          refine zif_ne (k := 63) rfl rfl (fun c28_q => ?_) (fun c28_q => ?_)
          · skip
            refine zaload_n (k := 72) rfl rfl ?_
            refine ziload_n (k := 73) rfl rfl ?_
            refine zpI 12 (k := 74) rfl ob_289 fl_12_48 ⟨_, rfl, rfl⟩ rfl (by omega) rfl fx_289_12 ?_
            first
            | exact cut135_q (-1) _ _ (by omega) (Or.inr ⟨rfl, fun q => by have q1_q := q.1; have q2_q := tq.mpr q.2; unfold alnm at q1_q q2_q; omega⟩) rfl rfl
            | (rw [zup_zup]; exact cut135_q (tQ T p) _ _ (by omega) (Or.inl ⟨rfl, by unfold alnm; omega, tq.mp (by unfold alnm; omega)⟩) rfl rfl)
          · skip
            refine zaload_n (k := 64) rfl rfl ?_
            refine zgF 0 (k := 65) rfl ob_289 fl_12_7 rfl fx_289_0 ?_
            refine ziload_n (k := 66) rfl rfl ?_
            refine ziconst (k := 67) rfl (by decide) ?_
            refine zisubB (k := 68) rfl (by omega) ?_
            refine ziaload (k := 69) rfl ar_290 ⟨by omega, by omega⟩ ?_
            repeat (first | rw [zup_s] | rw [zup_n (by omega)])
            rw [hR2 _ (by omega) (by omega)]
            refine zfS1 (k := 70) rfl c_M_isDigit fm_M_isDigit lk_12_247 rfl rfl (Nat.le_of_ble_eq_true rfl) (by decide) ⟨by decide, by decide⟩ ?_
            refine zif_eq (k := 71) rfl rfl (fun c29_q => ?_) (fun c29_q => ?_)
            · skip
              first
              | exact cut135_q (-1) _ _ (by omega) (Or.inr ⟨rfl, fun q => by have q1_q := q.1; have q2_q := tq.mpr q.2; unfold alnm at q1_q q2_q; omega⟩) rfl rfl
              | (rw [zup_zup]; exact cut135_q (tQ T p) _ _ (by omega) (Or.inl ⟨rfl, by unfold alnm; omega, tq.mp (by unfold alnm; omega)⟩) rfl rfl)
            · skip
              refine zaload_n (k := 72) rfl rfl ?_
              refine ziload_n (k := 73) rfl rfl ?_
              refine zpI 12 (k := 74) rfl ob_289 fl_12_48 ⟨_, rfl, rfl⟩ rfl (by omega) rfl fx_289_12 ?_
              first
              | exact cut135_q (-1) _ _ (by omega) (Or.inr ⟨rfl, fun q => by have q1_q := q.1; have q2_q := tq.mpr q.2; unfold alnm at q1_q q2_q; omega⟩) rfl rfl
              | (rw [zup_zup]; exact cut135_q (tQ T p) _ _ (by omega) (Or.inl ⟨rfl, by unfold alnm; omega, tq.mp (by unfold alnm; omega)⟩) rfl rfl)
      · skip
        refine ziload_n (k := 52) rfl rfl ?_
        refine zif_eq (k := 53) rfl rfl (fun c30_q => ?_) (fun c30_q => ?_)
        · skip
          first
          | exact cut135_q (-1) _ _ (by omega) (Or.inr ⟨rfl, fun q => by have q1_q := q.1; have q2_q := tq.mpr q.2; unfold alnm at q1_q q2_q; omega⟩) rfl rfl
          | (rw [zup_zup]; exact cut135_q (tQ T p) _ _ (by omega) (Or.inl ⟨rfl, by unfold alnm; omega, tq.mp (by unfold alnm; omega)⟩) rfl rfl)
        · skip
          refine ziload_n (k := 54) rfl rfl ?_
          refine zif_le (k := 55) rfl rfl (fun c31_q => ?_) (fun c31_q => ?_)
          · skip
            first
            | exact cut135_q (-1) _ _ (by omega) (Or.inr ⟨rfl, fun q => by have q1_q := q.1; have q2_q := tq.mpr q.2; unfold alnm at q1_q q2_q; omega⟩) rfl rfl
            | (rw [zup_zup]; exact cut135_q (tQ T p) _ _ (by omega) (Or.inl ⟨rfl, by unfold alnm; omega, tq.mp (by unfold alnm; omega)⟩) rfl rfl)
          · skip
            refine zaload_n (k := 56) rfl rfl ?_
            refine zgF 0 (k := 57) rfl ob_289 fl_12_7 rfl fx_289_0 ?_
            refine ziload_n (k := 58) rfl rfl ?_
            refine ziconst (k := 59) rfl (by decide) ?_
            refine zisubB (k := 60) rfl (by omega) ?_
            refine ziaload (k := 61) rfl ar_290 ⟨by omega, by omega⟩ ?_
            repeat (first | rw [zup_s] | rw [zup_n (by omega)])
            rw [hR2 _ (by omega) (by omega)]
            refine zfS1 (k := 62) rfl c_M_isLetter fm_M_isLetter lk_12_243 rfl rfl (Nat.le_of_ble_eq_true rfl) (by decide) ⟨by decide, by decide⟩ ?_
            refine zif_ne (k := 63) rfl rfl (fun c32_q => ?_) (fun c32_q => ?_)
            · skip
              refine zaload_n (k := 72) rfl rfl ?_
              refine ziload_n (k := 73) rfl rfl ?_
              refine zpI 12 (k := 74) rfl ob_289 fl_12_48 ⟨_, rfl, rfl⟩ rfl (by omega) rfl fx_289_12 ?_
              first
              | exact cut135_q (-1) _ _ (by omega) (Or.inr ⟨rfl, fun q => by have q1_q := q.1; have q2_q := tq.mpr q.2; unfold alnm at q1_q q2_q; omega⟩) rfl rfl
              | (rw [zup_zup]; exact cut135_q (tQ T p) _ _ (by omega) (Or.inl ⟨rfl, by unfold alnm; omega, tq.mp (by unfold alnm; omega)⟩) rfl rfl)
            · skip
              refine zaload_n (k := 64) rfl rfl ?_
              refine zgF 0 (k := 65) rfl ob_289 fl_12_7 rfl fx_289_0 ?_
              refine ziload_n (k := 66) rfl rfl ?_
              refine ziconst (k := 67) rfl (by decide) ?_
              refine zisubB (k := 68) rfl (by omega) ?_
              refine ziaload (k := 69) rfl ar_290 ⟨by omega, by omega⟩ ?_
              repeat (first | rw [zup_s] | rw [zup_n (by omega)])
              rw [hR2 _ (by omega) (by omega)]
              refine zfS1 (k := 70) rfl c_M_isDigit fm_M_isDigit lk_12_247 rfl rfl (Nat.le_of_ble_eq_true rfl) (by decide) ⟨by decide, by decide⟩ ?_
              refine zif_eq (k := 71) rfl rfl (fun c33_q => ?_) (fun c33_q => ?_)
              · skip
                first
                | exact cut135_q (-1) _ _ (by omega) (Or.inr ⟨rfl, fun q => by have q1_q := q.1; have q2_q := tq.mpr q.2; unfold alnm at q1_q q2_q; omega⟩) rfl rfl
                | (rw [zup_zup]; exact cut135_q (tQ T p) _ _ (by omega) (Or.inl ⟨rfl, by unfold alnm; omega, tq.mp (by unfold alnm; omega)⟩) rfl rfl)
              · skip
                refine zaload_n (k := 72) rfl rfl ?_
                refine ziload_n (k := 73) rfl rfl ?_
                refine zpI 12 (k := 74) rfl ob_289 fl_12_48 ⟨_, rfl, rfl⟩ rfl (by omega) rfl fx_289_12 ?_
                first
                | exact cut135_q (-1) _ _ (by omega) (Or.inr ⟨rfl, fun q => by have q1_q := q.1; have q2_q := tq.mpr q.2; unfold alnm at q1_q q2_q; omega⟩) rfl rfl
                | (rw [zup_zup]; exact cut135_q (tQ T p) _ _ (by omega) (Or.inl ⟨rfl, by unfold alnm; omega, tq.mp (by unfold alnm; omega)⟩) rfl rfl)
    · skip
      refine zreturn (k := 37) rfl rfl rfl ?_
      rw [← hQ]
      have tn := hT.2.2 (tQ T p) (by omega)
      have k0_q : tK T p = 0 := by unfold tK; rw [if_pos tn]
      refine ⟨rfl, rfl, ⟨?_, fun q => by omega, fun q => ⟨?_, ?_, ?_⟩, fun q => by omega, fun q => by omega, fun q => by omega⟩, fun y k q => ?_⟩
      · repeat (first | rw [zup_s] | rw [zup_n (by omega)])
      · rw [zup_s]
      · repeat (first | rw [zup_s] | rw [zup_n (by omega)])
        exact k0_q.symm
      · repeat (first | rw [zup_s] | rw [zup_n (by omega)])
        unfold tN
        rw [if_pos k0_q]
      · rw [zup_n (by omega), zup_n (by omega), zup_n (by omega), zup_n (by omega)]
  refine zaload_n (k := 0) rfl rfl ?_
  refine zgI 5 (k := 1) rfl ob_289 fl_12_26 rfl fx_289_5 ?_
  rw [h5_q]
  refine zistore_n (k := 2) (ls' := [_, _, _, _, _, _]) rfl (Nat.le_of_ble_eq_true rfl) rfl ?_
  have lp5_q : ∀ (g : Nat) (j : Nat), ((n - p).toNat - j) < g → (p + (j : Int) ≤ n) → (∀ i, p ≤ i → i < p + j → T i = 10 ∨ T i = 32) → zV Γ m_M_ahead 1 0 0 Q (GM L) (0, 0) 5 [some (zR 289), some (zI (p + j)), none, none, none, none] [] σ := by
    intro g
    induction g with
    | zero => intro j hg; exact absurd hg (Nat.not_lt_zero _)
    | succ g ih5_q =>
      intro j hg hj hbl
      refine ziload_n (k := 3) rfl rfl ?_
      refine zaload_n (k := 4) rfl rfl ?_
      refine zgI 2 (k := 5) rfl ob_289 fl_12_17 rfl fx_289_2 ?_
      rw [hR.1]
      refine zicmp_ge (k := 6) rfl rfl (fun c34_q => ?_) (fun c34_q => ?_)
      · skip
        have eq : p + (j : Int) = (tQ T p) := (skp_u (T := T) (g := 1600) (p := p) (q := p + j) (by omega) hbl (by
          first
          | (have q := hT.2.2 (p + j) (by omega); omega)
          | omega) (by have q := hT.2.2 (p + ((1600 : Nat) : Int)) (by omega); omega)).symm
        rw [eq]
        exact cut41_q (by omega)
      · skip
        refine zaload_n (k := 7) rfl rfl ?_
        refine zgF 0 (k := 8) rfl ob_289 fl_12_7 rfl fx_289_0 ?_
        refine ziload_n (k := 9) rfl rfl ?_
        refine ziaload (k := 10) rfl ar_290 ⟨by omega, by omega⟩ ?_
        rw [hR2 _ (by omega) (by omega)]
        refine zbipush (k := 11) rfl rfl ?_
        refine zicmp_eq (k := 12) rfl rfl (fun c35_q => ?_) (fun c35_q => ?_)
        · skip
          refine ziincB (k := 19) (ls' := [_, _, _, _, _, _]) rfl rfl (by decide) (by omega) rfl ?_
          refine zgoto (k := 20) rfl rfl ?_
          have rr := ih5_q (j + 1) (by omega) (by omega) (fun i q1_q q2_q => by
            by_cases e : i = p + j
            · rw [e]; first | exact Or.inl (by assumption) | exact Or.inr (by assumption)
            · exact hbl i q1_q (by omega))
          rw [show p + ((j + 1 : Nat) : Int) = p + j + 1 by omega] at rr
          exact rr
        · skip
          refine zaload_n (k := 13) rfl rfl ?_
          refine zgF 0 (k := 14) rfl ob_289 fl_12_7 rfl fx_289_0 ?_
          refine ziload_n (k := 15) rfl rfl ?_
          refine ziaload (k := 16) rfl ar_290 ⟨by omega, by omega⟩ ?_
          rw [hR2 _ (by omega) (by omega)]
          refine zbipush (k := 17) rfl rfl ?_
          refine zicmp_ne (k := 18) rfl rfl (fun c36_q => ?_) (fun c36_q => ?_)
          · skip
            have eq : p + (j : Int) = (tQ T p) := (skp_u (T := T) (g := 1600) (p := p) (q := p + j) (by omega) hbl (by
              first
              | (have q := hT.2.2 (p + j) (by omega); omega)
              | omega) (by have q := hT.2.2 (p + ((1600 : Nat) : Int)) (by omega); omega)).symm
            rw [eq]
            exact cut41_q (by omega)
          · skip
            refine ziincB (k := 19) (ls' := [_, _, _, _, _, _]) rfl rfl (by decide) (by omega) rfl ?_
            refine zgoto (k := 20) rfl rfl ?_
            have rr := ih5_q (j + 1) (by omega) (by omega) (fun i q1_q q2_q => by
              by_cases e : i = p + j
              · rw [e]; first | exact Or.inl (by assumption) | exact Or.inr (by assumption)
              · exact hbl i q1_q (by omega))
            rw [show p + ((j + 1 : Nat) : Int) = p + j + 1 by omega] at rr
            exact rr
  have rr := lp5_q ((n - p).toNat + 1) 0 (by omega) (by omega) (fun i q1_q q2_q => by omega)
  rw [show p + ((0 : Nat) : Int) = p by omega] at rr
  exact rr
