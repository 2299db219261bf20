theorem cpd_o {σ σ1 : zv_H} {t f x k v : Int} (h : cpd σ σ1 t f 7 6 42) (hx : (x = 325 ∧ k = t) ∨ (x = 326 ∧ 240 * t ≤ k ∧ k < 240 * t + 240)) : cpd σ (zup σ1 x k v) t f 7 6 42 := by
  obtain ⟨h1, h2, h3, h4, h5⟩ := h
  refine ⟨fun y i q => ?_, by rw [zup_n (by omega)]; exact h2, fun g c q1 q2 q3 q4 => ?_, fun g m q1 q2 q3 q4 => ?_, fun i q1 q2 => ?_⟩
  · unfold inV at q
    rw [zup_n (by omega)]
    exact h1 y i (by unfold inV; omega)
  · rw [zup_n (by omega)]; exact h3 g c q1 q2 q3 q4
  · rw [zup_n (by omega)]; exact h4 g m q1 q2 q3 q4
  · rw [zup_n (by omega)]; exact h5 i q1 q2
set_option maxHeartbeats 4000000 in
set_option maxRecDepth 20000 in
theorem c_M_copies {Γ : zv_M} {L : Int} {σ : zv_H} {t f : Int} (ht : 0 ≤ t ∧ t < 22) (hf : 0 ≤ f ∧ f < 22) (hne : t ≠ f) (hn : 0 ≤ σ 325 f ∧ σ 325 f ≤ 60)  : zC Γ m_M_copies 0 0 0 (GM L) [zR 289, zI t, zI f] σ (zP0 (GM L) (fun σ' => cpd σ σ' t f 7 6 42 ∧ σ' 325 t = σ 325 f ∧ ∀ k, 0 ≤ k → k < 4 * σ 325 f → σ' 326 (240 * t + k) = σ 326 (240 * f + k))) := by
  refine zC_of (ls0 := [_, _, _, _]) zm_M_copies (by decide) rfl (Nat.le_of_ble_eq_true rfl) ?_
  generalize hQ : (zP0 (GM L) (fun σ' => cpd σ σ' t f 7 6 42 ∧ σ' 325 t = σ 325 f ∧ ∀ k, 0 ≤ k → k < 4 * σ 325 f → σ' 326 (240 * t + k) = σ 326 (240 * f + k))) = Q
  refine zaload_n (k := 0) rfl rfl ?_
  refine zgF 45 (k := 1) rfl ob_289 fl_12_150 rfl fx_289_45 ?_
  refine ziload_n (k := 2) rfl rfl ?_
  refine zaload_n (k := 3) rfl rfl ?_
  refine zgF 45 (k := 4) rfl ob_289 fl_12_150 rfl fx_289_45 ?_
  refine ziload_n (k := 5) rfl rfl ?_
  refine ziaload (k := 6) rfl ar_315 ⟨by omega, by omega⟩ ?_
  skip
  refine ziastore (k := 7) rfl ar_315 ⟨by omega, by omega⟩ (by omega) ?_
  refine ziconst (k := 8) rfl (by decide) ?_
  refine zistore_n (k := 9) (ls' := [_, _, _, _]) rfl (Nat.le_of_ble_eq_true rfl) rfl ?_
  have lp14 : ∀ (g : Nat) (j : Nat) (σ1 : zv_H), (7 - j) < g → ((j : Int) ≤ 7) → (cpd σ σ1 t f j 0 0) → zV Γ m_M_copies 0 0 0 Q (GM L) (0, 0) 14 [some (zR 289), some (zI t), some (zI f), some (zI j)] [] σ1 := by
    intro g
    induction g with
    | zero => intro j σ1 hg; exact absurd hg (Nat.not_lt_zero _)
    | succ g ih14 =>
      intro j σ1 hg hj h0
      skip
      refine ziload_n (k := 10) rfl rfl ?_
      refine zbipush (k := 11) rfl rfl ?_
      refine zicmp_ge (k := 12) rfl rfl (fun c1 => ?_) (fun c1 => ?_)
      · skip
        refine ziconst (k := 63) rfl (by decide) ?_
        refine zistore_n (k := 64) (ls' := [_, _, _, _]) rfl (Nat.le_of_ble_eq_true rfl) rfl ?_
        have lp94 : ∀ (g : Nat) (j : Nat) (σ1 : zv_H), (6 - j) < g → ((j : Int) ≤ 6) → (cpd σ σ1 t f 7 j 0) → zV Γ m_M_copies 0 0 0 Q (GM L) (0, 0) 94 [some (zR 289), some (zI t), some (zI f), some (zI j)] [] σ1 := by
          intro g
          induction g with
          | zero => intro j σ1 hg; exact absurd hg (Nat.not_lt_zero _)
          | succ g ih94 =>
            intro j σ1 hg hj h0
            skip
            refine ziload_n (k := 65) rfl rfl ?_
            refine zbipush (k := 66) rfl rfl ?_
            refine zicmp_ge (k := 67) rfl rfl (fun c2 => ?_) (fun c2 => ?_)
            · skip
              refine ziconst (k := 150) rfl (by decide) ?_
              refine zistore_n (k := 151) (ls' := [_, _, _, _]) rfl (Nat.le_of_ble_eq_true rfl) rfl ?_
              have lp218 : ∀ (g : Nat) (j : Nat) (σ1 : zv_H), (42 - j) < g → ((j : Int) ≤ 42) → (cpd σ σ1 t f 7 6 j) → zV Γ m_M_copies 0 0 0 Q (GM L) (0, 0) 218 [some (zR 289), some (zI t), some (zI f), some (zI j)] [] σ1 := by
                intro g
                induction g with
                | zero => intro j σ1 hg; exact absurd hg (Nat.not_lt_zero _)
                | succ g ih218 =>
                  intro j σ1 hg hj h0
                  skip
                  refine ziload_n (k := 152) rfl rfl ?_
                  refine zbipush (k := 153) rfl rfl ?_
                  refine zicmp_ge (k := 154) rfl rfl (fun c3 => ?_) (fun c3 => ?_)
                  · skip
                    refine zaload_n (k := 173) rfl rfl ?_
                    refine zgF 55 (k := 174) rfl ob_289 fl_12_180 rfl fx_289_55 ?_
                    refine ziload_n (k := 175) rfl rfl ?_
                    refine zaload_n (k := 176) rfl rfl ?_
                    refine zgF 55 (k := 177) rfl ob_289 fl_12_180 rfl fx_289_55 ?_
                    refine ziload_n (k := 178) rfl rfl ?_
                    refine ziaload (k := 179) rfl ar_325 ⟨by omega, by omega⟩ ?_
                    rw [h0.1 325 f (by unfold inV; omega)]
                    refine ziastore (k := 180) rfl ar_325 ⟨by omega, by omega⟩ (by omega) ?_
                    refine ziconst (k := 181) rfl (by decide) ?_
                    refine zistore_n (k := 182) (ls' := [_, _, _, _]) rfl (Nat.le_of_ble_eq_true rfl) rfl ?_
                    have lp266 : ∀ (g : Nat) (j : Nat) (σ1 : zv_H), (240 - j) < g → ((j : Int) ≤ 4 * σ 325 f) → (cpd σ σ1 t f 7 6 42) → (σ1 325 t = σ 325 f) → (∀ k : Int, 0 ≤ k → k < j → σ1 326 (240 * t + k) = σ 326 (240 * f + k)) → zV Γ m_M_copies 0 0 0 Q (GM L) (0, 0) 266 [some (zR 289), some (zI t), some (zI f), some (zI j)] [] σ1 := by
                      intro g
                      induction g with
                      | zero => intro j σ1 hg; exact absurd hg (Nat.not_lt_zero _)
                      | succ g ih266 =>
                        intro j σ1 hg hj h0 h7 h8
                        skip
                        refine ziload_n (k := 183) rfl rfl ?_
                        refine ziconst (k := 184) rfl (by decide) ?_
                        refine zaload_n (k := 185) rfl rfl ?_
                        refine zgF 55 (k := 186) rfl ob_289 fl_12_180 rfl fx_289_55 ?_
                        refine ziload_n (k := 187) rfl rfl ?_
                        refine ziaload (k := 188) rfl ar_325 ⟨by omega, by omega⟩ ?_
                        rw [h0.1 325 f (by unfold inV; omega)]
                        refine zimulB (k := 189) rfl (by omega) ?_
                        refine zicmp_ge (k := 190) rfl rfl (fun c4 => ?_) (fun c4 => ?_)
                        · skip
                          refine zreturn (k := 209) rfl rfl rfl ?_
                          rw [← hQ]
                          exact ⟨rfl, rfl, h0, h7, fun k q1 q2 => h8 k q1 (by omega)⟩
                        · skip
                          refine zaload_n (k := 191) rfl rfl ?_
                          refine zgF 56 (k := 192) rfl ob_289 fl_12_183 rfl fx_289_56 ?_
                          refine zsipush (k := 193) rfl rfl ?_
                          refine ziload_n (k := 194) rfl rfl ?_
                          refine zimulB (k := 195) rfl (by omega) ?_
                          refine ziload_n (k := 196) rfl rfl ?_
                          refine ziaddB (k := 197) rfl (by omega) ?_
                          refine zaload_n (k := 198) rfl rfl ?_
                          refine zgF 56 (k := 199) rfl ob_289 fl_12_183 rfl fx_289_56 ?_
                          refine zsipush (k := 200) rfl rfl ?_
                          refine ziload_n (k := 201) rfl rfl ?_
                          refine zimulB (k := 202) rfl (by omega) ?_
                          refine ziload_n (k := 203) rfl rfl ?_
                          refine ziaddB (k := 204) rfl (by omega) ?_
                          refine ziaload (k := 205) rfl ar_326 ⟨by omega, by omega⟩ ?_
                          rw [h0.1 326 (240 * f + j) (by unfold inV; omega)]
                          refine ziastore (k := 206) rfl ar_326 ⟨by omega, by omega⟩ (by omega) ?_
                          refine ziincB (k := 207) (ls' := [_, _, _, _]) rfl rfl (by decide) (by omega) rfl ?_
                          refine zgoto (k := 208) rfl rfl ?_
                          exact ih266 (j + 1) _ (by omega) (by omega) (cpd_o h0 (Or.inr ⟨rfl, by omega, by omega⟩)) (by rw [zup_n (by omega)]; exact h7) (fun k q1 q2 => by
                            by_cases e : k = j
                            · subst e; exact zup_s _ _ _ _
                            · rw [zup_n (by omega)]; exact h8 k q1 (by omega))
                    exact lp266 _ 0 _ (Nat.lt_succ_self _) (by omega) (cpd_o (by rw [show (j : Int) = 42 by omega] at h0; exact h0) (Or.inl ⟨rfl, rfl⟩)) (zup_s _ _ _ _) (fun k q1 q2 => by omega)
                  · skip
                    refine zaload_n (k := 155) rfl rfl ?_
                    refine zgF 54 (k := 156) rfl ob_289 fl_12_177 rfl fx_289_54 ?_
                    refine zbipush (k := 157) rfl rfl ?_
                    refine ziload_n (k := 158) rfl rfl ?_
                    refine zimulB (k := 159) rfl (by omega) ?_
                    refine ziload_n (k := 160) rfl rfl ?_
                    refine ziaddB (k := 161) rfl (by omega) ?_
                    refine zaload_n (k := 162) rfl rfl ?_
                    refine zgF 54 (k := 163) rfl ob_289 fl_12_177 rfl fx_289_54 ?_
                    refine zbipush (k := 164) rfl rfl ?_
                    refine ziload_n (k := 165) rfl rfl ?_
                    refine zimulB (k := 166) rfl (by omega) ?_
                    refine ziload_n (k := 167) rfl rfl ?_
                    refine ziaddB (k := 168) rfl (by omega) ?_
                    refine ziaload (k := 169) rfl ar_324 ⟨by omega, by omega⟩ ?_
                    rw [h0.1 324 (42 * f + j) (by unfold inV; omega)]
                    refine ziastore (k := 170) rfl ar_324 ⟨by omega, by omega⟩ (by omega) ?_
                    refine ziincB (k := 171) (ls' := [_, _, _, _]) rfl rfl (by decide) (by omega) rfl ?_
                    refine zgoto (k := 172) rfl rfl ?_
                    exact ih218 (j + 1) _ (by omega) (by omega) (cpd_3 h0 ⟨by omega, by omega⟩)
              exact lp218 _ 0 _ (Nat.lt_succ_self _) (by omega) (by rw [show (j : Int) = 6 by omega] at h0; exact h0)
            · skip
              refine zaload_n (k := 68) rfl rfl ?_
              refine zgF 49 (k := 69) rfl ob_289 fl_12_162 rfl fx_289_49 ?_
              refine zbipush (k := 70) rfl rfl ?_
              refine ziload_n (k := 71) rfl rfl ?_
              refine zimulB (k := 72) rfl (by omega) ?_
              refine ziload_n (k := 73) rfl rfl ?_
              refine ziaddB (k := 74) rfl (by omega) ?_
              refine zaload_n (k := 75) rfl rfl ?_
              refine zgF 49 (k := 76) rfl ob_289 fl_12_162 rfl fx_289_49 ?_
              refine zbipush (k := 77) rfl rfl ?_
              refine ziload_n (k := 78) rfl rfl ?_
              refine zimulB (k := 79) rfl (by omega) ?_
              refine ziload_n (k := 80) rfl rfl ?_
              refine ziaddB (k := 81) rfl (by omega) ?_
              refine ziaload (k := 82) rfl ar_319 ⟨by omega, by omega⟩ ?_
              rw [h0.1 319 (6 * f + j) (by unfold inV; omega)]
              refine ziastore (k := 83) rfl ar_319 ⟨by omega, by omega⟩ (by omega) ?_
              refine zaload_n (k := 84) rfl rfl ?_
              refine zgF 50 (k := 85) rfl ob_289 fl_12_165 rfl fx_289_50 ?_
              refine zbipush (k := 86) rfl rfl ?_
              refine ziload_n (k := 87) rfl rfl ?_
              refine zimulB (k := 88) rfl (by omega) ?_
              refine ziload_n (k := 89) rfl rfl ?_
              refine ziaddB (k := 90) rfl (by omega) ?_
              refine zaload_n (k := 91) rfl rfl ?_
              refine zgF 50 (k := 92) rfl ob_289 fl_12_165 rfl fx_289_50 ?_
              refine zbipush (k := 93) rfl rfl ?_
              refine ziload_n (k := 94) rfl rfl ?_
              refine zimulB (k := 95) rfl (by omega) ?_
              refine ziload_n (k := 96) rfl rfl ?_
              refine ziaddB (k := 97) rfl (by omega) ?_
              refine ziaload (k := 98) rfl ar_320 ⟨by omega, by omega⟩ ?_
              rw [zup_n (by omega), h0.1 320 (6 * f + j) (by unfold inV; omega)]
              refine ziastore (k := 99) rfl ar_320 ⟨by omega, by omega⟩ (by omega) ?_
              refine zaload_n (k := 100) rfl rfl ?_
              refine zgF 51 (k := 101) rfl ob_289 fl_12_168 rfl fx_289_51 ?_
              refine zbipush (k := 102) rfl rfl ?_
              refine ziload_n (k := 103) rfl rfl ?_
              refine zimulB (k := 104) rfl (by omega) ?_
              refine ziload_n (k := 105) rfl rfl ?_
              refine ziaddB (k := 106) rfl (by omega) ?_
              refine zaload_n (k := 107) rfl rfl ?_
              refine zgF 51 (k := 108) rfl ob_289 fl_12_168 rfl fx_289_51 ?_
              refine zbipush (k := 109) rfl rfl ?_
              refine ziload_n (k := 110) rfl rfl ?_
              refine zimulB (k := 111) rfl (by omega) ?_
              refine ziload_n (k := 112) rfl rfl ?_
              refine ziaddB (k := 113) rfl (by omega) ?_
              refine ziaload (k := 114) rfl ar_321 ⟨by omega, by omega⟩ ?_
              rw [zup_n (by omega), zup_n (by omega), h0.1 321 (6 * f + j) (by unfold inV; omega)]
              refine ziastore (k := 115) rfl ar_321 ⟨by omega, by omega⟩ (by omega) ?_
              refine zaload_n (k := 116) rfl rfl ?_
              refine zgF 52 (k := 117) rfl ob_289 fl_12_171 rfl fx_289_52 ?_
              refine zbipush (k := 118) rfl rfl ?_
              refine ziload_n (k := 119) rfl rfl ?_
              refine zimulB (k := 120) rfl (by omega) ?_
              refine ziload_n (k := 121) rfl rfl ?_
              refine ziaddB (k := 122) rfl (by omega) ?_
              refine zaload_n (k := 123) rfl rfl ?_
              refine zgF 52 (k := 124) rfl ob_289 fl_12_171 rfl fx_289_52 ?_
              refine zbipush (k := 125) rfl rfl ?_
              refine ziload_n (k := 126) rfl rfl ?_
              refine zimulB (k := 127) rfl (by omega) ?_
              refine ziload_n (k := 128) rfl rfl ?_
              refine ziaddB (k := 129) rfl (by omega) ?_
              refine ziaload (k := 130) rfl ar_322 ⟨by omega, by omega⟩ ?_
              rw [zup_n (by omega), zup_n (by omega), zup_n (by omega), h0.1 322 (6 * f + j) (by unfold inV; omega)]
              refine ziastore (k := 131) rfl ar_322 ⟨by omega, by omega⟩ (by omega) ?_
              refine zaload_n (k := 132) rfl rfl ?_
              refine zgF 53 (k := 133) rfl ob_289 fl_12_174 rfl fx_289_53 ?_
              refine zbipush (k := 134) rfl rfl ?_
              refine ziload_n (k := 135) rfl rfl ?_
              refine zimulB (k := 136) rfl (by omega) ?_
              refine ziload_n (k := 137) rfl rfl ?_
              refine ziaddB (k := 138) rfl (by omega) ?_
              refine zaload_n (k := 139) rfl rfl ?_
              refine zgF 53 (k := 140) rfl ob_289 fl_12_174 rfl fx_289_53 ?_
              refine zbipush (k := 141) rfl rfl ?_
              refine ziload_n (k := 142) rfl rfl ?_
              refine zimulB (k := 143) rfl (by omega) ?_
              refine ziload_n (k := 144) rfl rfl ?_
              refine ziaddB (k := 145) rfl (by omega) ?_
              refine ziaload (k := 146) rfl ar_323 ⟨by omega, by omega⟩ ?_
              rw [zup_n (by omega), zup_n (by omega), zup_n (by omega), zup_n (by omega), h0.1 323 (6 * f + j) (by unfold inV; omega)]
              refine ziastore (k := 147) rfl ar_323 ⟨by omega, by omega⟩ (by omega) ?_
              refine ziincB (k := 148) (ls' := [_, _, _, _]) rfl rfl (by decide) (by omega) rfl ?_
              refine zgoto (k := 149) rfl rfl ?_
              exact ih94 (j + 1) _ (by omega) (by omega) (cpd_2 h0 ⟨by omega, by omega⟩)
        exact lp94 _ 0 _ (Nat.lt_succ_self _) (by omega) (by rw [show (j : Int) = 7 by omega] at h0; exact h0)
      · skip
        refine zaload_n (k := 13) rfl rfl ?_
        refine zgF 46 (k := 14) rfl ob_289 fl_12_153 rfl fx_289_46 ?_
        refine zbipush (k := 15) rfl rfl ?_
        refine ziload_n (k := 16) rfl rfl ?_
        refine zimulB (k := 17) rfl (by omega) ?_
        refine ziload_n (k := 18) rfl rfl ?_
        refine ziaddB (k := 19) rfl (by omega) ?_
        refine zaload_n (k := 20) rfl rfl ?_
        refine zgF 46 (k := 21) rfl ob_289 fl_12_153 rfl fx_289_46 ?_
        refine zbipush (k := 22) rfl rfl ?_
        refine ziload_n (k := 23) rfl rfl ?_
        refine zimulB (k := 24) rfl (by omega) ?_
        refine ziload_n (k := 25) rfl rfl ?_
        refine ziaddB (k := 26) rfl (by omega) ?_
        refine ziaload (k := 27) rfl ar_316 ⟨by omega, by omega⟩ ?_
        rw [h0.1 316 (7 * f + j) (by unfold inV; omega)]
        refine ziastore (k := 28) rfl ar_316 ⟨by omega, by omega⟩ (by omega) ?_
        refine zaload_n (k := 29) rfl rfl ?_
        refine zgF 47 (k := 30) rfl ob_289 fl_12_156 rfl fx_289_47 ?_
        refine zbipush (k := 31) rfl rfl ?_
        refine ziload_n (k := 32) rfl rfl ?_
        refine zimulB (k := 33) rfl (by omega) ?_
        refine ziload_n (k := 34) rfl rfl ?_
        refine ziaddB (k := 35) rfl (by omega) ?_
        refine zaload_n (k := 36) rfl rfl ?_
        refine zgF 47 (k := 37) rfl ob_289 fl_12_156 rfl fx_289_47 ?_
        refine zbipush (k := 38) rfl rfl ?_
        refine ziload_n (k := 39) rfl rfl ?_
        refine zimulB (k := 40) rfl (by omega) ?_
        refine ziload_n (k := 41) rfl rfl ?_
        refine ziaddB (k := 42) rfl (by omega) ?_
        refine ziaload (k := 43) rfl ar_317 ⟨by omega, by omega⟩ ?_
        rw [zup_n (by omega), h0.1 317 (7 * f + j) (by unfold inV; omega)]
        refine ziastore (k := 44) rfl ar_317 ⟨by omega, by omega⟩ (by omega) ?_
        refine zaload_n (k := 45) rfl rfl ?_
        refine zgF 48 (k := 46) rfl ob_289 fl_12_159 rfl fx_289_48 ?_
        refine zbipush (k := 47) rfl rfl ?_
        refine ziload_n (k := 48) rfl rfl ?_
        refine zimulB (k := 49) rfl (by omega) ?_
        refine ziload_n (k := 50) rfl rfl ?_
        refine ziaddB (k := 51) rfl (by omega) ?_
        refine zaload_n (k := 52) rfl rfl ?_
        refine zgF 48 (k := 53) rfl ob_289 fl_12_159 rfl fx_289_48 ?_
        refine zbipush (k := 54) rfl rfl ?_
        refine ziload_n (k := 55) rfl rfl ?_
        refine zimulB (k := 56) rfl (by omega) ?_
        refine ziload_n (k := 57) rfl rfl ?_
        refine ziaddB (k := 58) rfl (by omega) ?_
        refine ziaload (k := 59) rfl ar_318 ⟨by omega, by omega⟩ ?_
        rw [zup_n (by omega), zup_n (by omega), h0.1 318 (7 * f + j) (by unfold inV; omega)]
        refine ziastore (k := 60) rfl ar_318 ⟨by omega, by omega⟩ (by omega) ?_
        refine ziincB (k := 61) (ls' := [_, _, _, _]) rfl rfl (by decide) (by omega) rfl ?_
        refine zgoto (k := 62) rfl rfl ?_
        exact ih14 (j + 1) _ (by omega) (by omega) (cpd_1 h0 ⟨by omega, by omega⟩)
  exact lp14 _ 0 _ (Nat.lt_succ_self _) (by omega) ⟨fun x k q => zup_n (fun e => q (by unfold inV; omega)), zup_s _ _ _ _, fun g c q1 q2 q3 q4 => by omega, fun g c q1 q2 q3 q4 => by omega, fun k q1 q2 => by omega⟩
