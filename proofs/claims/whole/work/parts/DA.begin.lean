/-! the game begins: the model -/
def bg1 (σ : zv_H) (b j : Int) : zv_H := fun x k => if (316 ≤ x ∧ x ≤ 318) ∧ 0 ≤ k ∧ k < j then σ (x - 24) (7 * b + k) else if x = 315 ∧ k = 0 then 0 else σ x k
def bg2 (σ : zv_H) (b j : Int) : zv_H := fun x k => if (319 ≤ x ∧ x ≤ 323) ∧ 0 ≤ k ∧ k < j then (if x = 319 then σ 299 (6 * b + k) else 0) else σ x k
def bg3 (σ : zv_H) (j : Int) : zv_H := fun x k => if x = 324 ∧ 0 ≤ k ∧ k < j then -1 else σ x k
theorem bg1_0 (σ : zv_H) (b : Int) : zup σ 315 0 0 = bg1 σ b ((0 : Nat) : Int) := by
  funext x k
  unfold bg1 zup
  rw [if_neg (c := (316 ≤ x ∧ x ≤ 318) ∧ 0 ≤ k ∧ k < ((0 : Nat) : Int)) (by omega)]
theorem bg1_n {σ : zv_H} {b j x : Int} (h : ¬ (315 ≤ x ∧ x ≤ 318)) (k : Int) : bg1 σ b j x k = σ x k := by
  unfold bg1
  rw [if_neg (by omega), if_neg (by omega)]
theorem bg2_n {σ : zv_H} {b j x : Int} (h : ¬ (319 ≤ x ∧ x ≤ 323)) (k : Int) : bg2 σ b j x k = σ x k := if_neg (by omega)
theorem bg3_n {σ : zv_H} {j x : Int} (h : x ≠ 324) (k : Int) : bg3 σ j x k = σ x k := if_neg (by omega)
theorem bg2_0 (σ : zv_H) (b : Int) : σ = bg2 σ b ((0 : Nat) : Int) := by
  funext x k
  exact (if_neg (by omega)).symm
theorem bg3_0 (σ : zv_H) : σ = bg3 σ ((0 : Nat) : Int) := by
  funext x k
  exact (if_neg (by omega)).symm
theorem bg1_s {σ : zv_H} {b j : Int} (hj : 0 ≤ j) : zup (zup (zup (bg1 σ b j) 316 j (σ 292 (7 * b + j))) 317 j (σ 293 (7 * b + j))) 318 j (σ 294 (7 * b + j)) = bg1 σ b (j + 1) := by
  funext x k
  by_cases e3_q : x = 318 ∧ k = j
  · rw [e3_q.1, e3_q.2, zup_s]
    unfold bg1
    rw [if_pos (by omega)]; rfl
  · rw [zup_n e3_q]
    by_cases e2_q : x = 317 ∧ k = j
    · rw [e2_q.1, e2_q.2, zup_s]
      unfold bg1
      rw [if_pos (by omega)]; rfl
    · rw [zup_n e2_q]
      by_cases e1_q : x = 316 ∧ k = j
      · rw [e1_q.1, e1_q.2, zup_s]
        unfold bg1
        rw [if_pos (by omega)]; rfl
      · rw [zup_n e1_q]
        unfold bg1
        by_cases e : (316 ≤ x ∧ x ≤ 318) ∧ 0 ≤ k ∧ k < j
        · rw [if_pos e, if_pos (by omega)]
        · rw [if_neg e, if_neg (c := (316 ≤ x ∧ x ≤ 318) ∧ 0 ≤ k ∧ k < j + 1) (by omega)]
theorem bg2_s {σ : zv_H} {b j : Int} (hj : 0 ≤ j) : zup (zup (zup (zup (zup (bg2 σ b j) 319 j (σ 299 (6 * b + j))) 320 j 0) 321 j 0) 322 j 0) 323 j 0 = bg2 σ b (j + 1) := by
  funext x k
  by_cases e : (320 ≤ x ∧ x ≤ 323) ∧ k = j
  · have r : bg2 σ b (j + 1) x k = 0 := by
      unfold bg2
      rw [if_pos (by omega), if_neg (by omega)]
    rw [r, e.2]
    by_cases e5_q : x = 323
    · rw [e5_q, zup_s]
    · rw [zup_n (by omega)]
      by_cases e4_q : x = 322
      · rw [e4_q, zup_s]
      · rw [zup_n (by omega)]
        by_cases e3_q : x = 321
        · rw [e3_q, zup_s]
        · rw [zup_n (by omega), show x = 320 by omega, zup_s]
  · rw [zup_n (by omega), zup_n (by omega), zup_n (by omega), zup_n (by omega)]
    by_cases e1_q : x = 319 ∧ k = j
    · rw [e1_q.1, e1_q.2, zup_s]
      unfold bg2
      rw [if_pos (by omega), if_pos rfl]
    · rw [zup_n e1_q]
      unfold bg2
      by_cases e : (319 ≤ x ∧ x ≤ 323) ∧ 0 ≤ k ∧ k < j
      · rw [if_pos e, if_pos (c := (319 ≤ x ∧ x ≤ 323) ∧ 0 ≤ k ∧ k < j + 1) (by omega)]
      · rw [if_neg e, if_neg (c := (319 ≤ x ∧ x ≤ 323) ∧ 0 ≤ k ∧ k < j + 1) (by omega)]
theorem bg3_s {σ : zv_H} {j : Int} (hj : 0 ≤ j) : zup (bg3 σ j) 324 j (-1) = bg3 σ (j + 1) := by
  funext x k
  by_cases e1_q : x = 324 ∧ k = j
  · rw [e1_q.1, e1_q.2, zup_s]
    unfold bg3
    rw [if_pos (by omega)]
  · rw [zup_n e1_q]
    unfold bg3
    by_cases e : x = 324 ∧ 0 ≤ k ∧ k < j
    · rw [if_pos e, if_pos (c := x = 324 ∧ 0 ≤ k ∧ k < j + 1) (by omega)]
    · rw [if_neg e, if_neg (c := x = 324 ∧ 0 ≤ k ∧ k < j + 1) (by omega)]
set_option maxHeartbeats 4000000 in
set_option maxRecDepth 20000 in
theorem c_M_begin {Γ : zv_M} {L : Int} {σ : zv_H} {b : Int} (hb : σ 289 13 = b) (hb1_q : b = 0 ∨ b = 1)  : zC Γ m_M_begin 0 0 0 (GM L) [zR 289] σ (zFn none (GM L) (zup (zup (zup (bg3 (bg2 (bg1 σ b 7) b 6) 42) 325 0 0) 289 58 0) 289 67 0)) := by
  refine zC_of (ls0 := [_, _]) zm_M_begin (by decide) rfl (Nat.le_of_ble_eq_true rfl) ?_
  generalize hQ : (zFn none (GM L) (zup (zup (zup (bg3 (bg2 (bg1 σ b 7) b 6) 42) 325 0 0) 289 58 0) 289 67 0)) = Q
  refine zaload_n (k := 0) rfl rfl ?_
  refine zgF 45 (k := 1) rfl ob_289 fl_12_150 rfl fx_289_45 ?_
  refine ziconst (k := 2) rfl (by decide) ?_
  refine ziconst (k := 3) rfl (by decide) ?_
  refine ziastore (k := 4) rfl ar_315 ⟨by omega, by omega⟩ (by omega) ?_
  refine ziconst (k := 5) rfl (by decide) ?_
  refine zistore_n (k := 6) (ls' := [_, _]) rfl (Nat.le_of_ble_eq_true rfl) rfl ?_
  have lp9_q : ∀ (g : Nat) (j : Nat), (7 - j) < g → (j ≤ 7) → zV Γ m_M_begin 0 0 0 Q (GM L) (0, 0) 9 [some (zR 289), some (zI j)] [] (bg1 σ b j) := by
    intro g
    induction g with
    | zero => intro j hg; exact absurd hg (Nat.not_lt_zero _)
    | succ g ih9_q =>
      intro j hg hj
      refine ziload_n (k := 7) rfl rfl ?_
      refine zbipush (k := 8) rfl rfl ?_
      refine zicmp_ge (k := 9) rfl rfl (fun c1_q => ?_) (fun c1_q => ?_)
      · skip
        rw [show (j : Int) = 7 by omega]
        refine ziconst (k := 51) rfl (by decide) ?_
        refine zistore_n (k := 52) (ls' := [_, _]) rfl (Nat.le_of_ble_eq_true rfl) rfl ?_
        have lp83_q : ∀ (g : Nat) (j : Nat), (6 - j) < g → (j ≤ 6) → zV Γ m_M_begin 0 0 0 Q (GM L) (0, 0) 83 [some (zR 289), some (zI j)] [] (bg2 (bg1 σ b 7) b j) := by
          intro g
          induction g with
          | zero => intro j hg; exact absurd hg (Nat.not_lt_zero _)
          | succ g ih83_q =>
            intro j hg hj
            refine ziload_n (k := 53) rfl rfl ?_
            refine zbipush (k := 54) rfl rfl ?_
            refine zicmp_ge (k := 55) rfl rfl (fun c2_q => ?_) (fun c2_q => ?_)
            · skip
              rw [show (j : Int) = 6 by omega]
              refine ziconst (k := 91) rfl (by decide) ?_
              refine zistore_n (k := 92) (ls' := [_, _]) rfl (Nat.le_of_ble_eq_true rfl) rfl ?_
              have lp145_q : ∀ (g : Nat) (j : Nat), (42 - j) < g → (j ≤ 42) → zV Γ m_M_begin 0 0 0 Q (GM L) (0, 0) 145 [some (zR 289), some (zI j)] [] (bg3 (bg2 (bg1 σ b 7) b 6) j) := by
                intro g
                induction g with
                | zero => intro j hg; exact absurd hg (Nat.not_lt_zero _)
                | succ g ih145_q =>
                  intro j hg hj
                  refine ziload_n (k := 93) rfl rfl ?_
                  refine zbipush (k := 94) rfl rfl ?_
                  refine zicmp_ge (k := 95) rfl rfl (fun c3_q => ?_) (fun c3_q => ?_)
                  · skip
                    rw [show (j : Int) = 42 by omega]
                    refine zaload_n (k := 103) rfl rfl ?_
                    refine zgF 55 (k := 104) rfl ob_289 fl_12_180 rfl fx_289_55 ?_
                    refine ziconst (k := 105) rfl (by decide) ?_
                    refine ziconst (k := 106) rfl (by decide) ?_
                    refine ziastore (k := 107) rfl ar_325 ⟨by omega, by omega⟩ (by omega) ?_
                    refine zaload_n (k := 108) rfl rfl ?_
                    refine ziconst (k := 109) rfl (by decide) ?_
                    refine zpI 58 (k := 110) rfl ob_289 fl_12_189 ⟨_, rfl, rfl⟩ rfl (by omega) rfl fx_289_58 ?_
                    refine zaload_n (k := 111) rfl rfl ?_
                    refine ziconst (k := 112) rfl (by decide) ?_
                    refine zpI 67 (k := 113) rfl ob_289 fl_12_216 ⟨_, rfl, rfl⟩ rfl (by omega) rfl fx_289_67 ?_
                    refine zreturn (k := 114) rfl rfl rfl ?_
                    rw [← hQ]
                    exact ⟨rfl, rfl, rfl⟩
                  · skip
                    refine zaload_n (k := 96) rfl rfl ?_
                    refine zgF 54 (k := 97) rfl ob_289 fl_12_177 rfl fx_289_54 ?_
                    refine ziload_n (k := 98) rfl rfl ?_
                    refine ziconst (k := 99) rfl (by decide) ?_
                    refine ziastore (k := 100) rfl ar_324 ⟨by omega, by omega⟩ (by omega) ?_
                    refine ziincB (k := 101) (ls' := [_, _]) rfl rfl (by decide) (by omega) rfl ?_
                    refine zgoto (k := 102) rfl rfl ?_
                    have rr := ih145_q (j + 1) (by omega) (by omega)
                    rw [bg3_s (by omega)]
                    exact rr
              rw [bg3_0 (bg2 (bg1 σ b 7) b 6)]
              exact lp145_q _ 0 (Nat.lt_succ_self _) (by omega)
            · skip
              refine zaload_n (k := 56) rfl rfl ?_
              refine zgF 49 (k := 57) rfl ob_289 fl_12_162 rfl fx_289_49 ?_
              refine ziload_n (k := 58) rfl rfl ?_
              refine zaload_n (k := 59) rfl rfl ?_
              refine zgF 22 (k := 60) rfl ob_289 fl_12_78 rfl fx_289_22 ?_
              refine zbipush (k := 61) rfl rfl ?_
              refine zaload_n (k := 62) rfl rfl ?_
              refine zgI 13 (k := 63) rfl ob_289 fl_12_51 rfl fx_289_13 ?_
              rw [bg2_n (by omega), bg1_n (by omega), hb]
              refine zimulB (k := 64) rfl (by omega) ?_
              refine ziload_n (k := 65) rfl rfl ?_
              refine ziaddB (k := 66) rfl (by omega) ?_
              refine ziaload (k := 67) rfl ar_299 ⟨by omega, by omega⟩ ?_
              rw [bg2_n (by omega)]
              refine ziastore (k := 68) rfl ar_319 ⟨by omega, by omega⟩ (by omega) ?_
              refine zaload_n (k := 69) rfl rfl ?_
              refine zgF 50 (k := 70) rfl ob_289 fl_12_165 rfl fx_289_50 ?_
              refine ziload_n (k := 71) rfl rfl ?_
              refine ziconst (k := 72) rfl (by decide) ?_
              refine ziastore (k := 73) rfl ar_320 ⟨by omega, by omega⟩ (by omega) ?_
              refine zaload_n (k := 74) rfl rfl ?_
              refine zgF 51 (k := 75) rfl ob_289 fl_12_168 rfl fx_289_51 ?_
              refine ziload_n (k := 76) rfl rfl ?_
              refine ziconst (k := 77) rfl (by decide) ?_
              refine ziastore (k := 78) rfl ar_321 ⟨by omega, by omega⟩ (by omega) ?_
              refine zaload_n (k := 79) rfl rfl ?_
              refine zgF 52 (k := 80) rfl ob_289 fl_12_171 rfl fx_289_52 ?_
              refine ziload_n (k := 81) rfl rfl ?_
              refine ziconst (k := 82) rfl (by decide) ?_
              refine ziastore (k := 83) rfl ar_322 ⟨by omega, by omega⟩ (by omega) ?_
              refine zaload_n (k := 84) rfl rfl ?_
              refine zgF 53 (k := 85) rfl ob_289 fl_12_174 rfl fx_289_53 ?_
              refine ziload_n (k := 86) rfl rfl ?_
              refine ziconst (k := 87) rfl (by decide) ?_
              refine ziastore (k := 88) rfl ar_323 ⟨by omega, by omega⟩ (by omega) ?_
              refine ziincB (k := 89) (ls' := [_, _]) rfl rfl (by decide) (by omega) rfl ?_
              refine zgoto (k := 90) rfl rfl ?_
              have rr := ih83_q (j + 1) (by omega) (by omega)
              rw [bg2_s (by omega)]
              exact rr
        rw [bg2_0 (bg1 σ b 7) b]
        exact lp83_q _ 0 (Nat.lt_succ_self _) (by omega)
      · skip
        refine zaload_n (k := 10) rfl rfl ?_
        refine zgF 46 (k := 11) rfl ob_289 fl_12_153 rfl fx_289_46 ?_
        refine ziload_n (k := 12) rfl rfl ?_
        refine zaload_n (k := 13) rfl rfl ?_
        refine zgF 15 (k := 14) rfl ob_289 fl_12_57 rfl fx_289_15 ?_
        refine zbipush (k := 15) rfl rfl ?_
        refine zaload_n (k := 16) rfl rfl ?_
        refine zgI 13 (k := 17) rfl ob_289 fl_12_51 rfl fx_289_13 ?_
        rw [bg1_n (by omega), hb]
        refine zimulB (k := 18) rfl (by omega) ?_
        refine ziload_n (k := 19) rfl rfl ?_
        refine ziaddB (k := 20) rfl (by omega) ?_
        refine ziaload (k := 21) rfl ar_292 ⟨by omega, by omega⟩ ?_
        rw [bg1_n (by omega)]
        refine ziastore (k := 22) rfl ar_316 ⟨by omega, by omega⟩ (by omega) ?_
        refine zaload_n (k := 23) rfl rfl ?_
        refine zgF 47 (k := 24) rfl ob_289 fl_12_156 rfl fx_289_47 ?_
        refine ziload_n (k := 25) rfl rfl ?_
        refine zaload_n (k := 26) rfl rfl ?_
        refine zgF 16 (k := 27) rfl ob_289 fl_12_60 rfl fx_289_16 ?_
        refine zbipush (k := 28) rfl rfl ?_
        refine zaload_n (k := 29) rfl rfl ?_
        refine zgI 13 (k := 30) rfl ob_289 fl_12_51 rfl fx_289_13 ?_
        rw [zup_n (by omega), bg1_n (by omega), hb]
        refine zimulB (k := 31) rfl (by omega) ?_
        refine ziload_n (k := 32) rfl rfl ?_
        refine ziaddB (k := 33) rfl (by omega) ?_
        refine ziaload (k := 34) rfl ar_293 ⟨by omega, by omega⟩ ?_
        rw [zup_n (by omega), bg1_n (by omega)]
        refine ziastore (k := 35) rfl ar_317 ⟨by omega, by omega⟩ (by omega) ?_
        refine zaload_n (k := 36) rfl rfl ?_
        refine zgF 48 (k := 37) rfl ob_289 fl_12_159 rfl fx_289_48 ?_
        refine ziload_n (k := 38) rfl rfl ?_
        refine zaload_n (k := 39) rfl rfl ?_
        refine zgF 17 (k := 40) rfl ob_289 fl_12_63 rfl fx_289_17 ?_
        refine zbipush (k := 41) rfl rfl ?_
        refine zaload_n (k := 42) rfl rfl ?_
        refine zgI 13 (k := 43) rfl ob_289 fl_12_51 rfl fx_289_13 ?_
        rw [zup_n (by omega), zup_n (by omega), bg1_n (by omega), hb]
        refine zimulB (k := 44) rfl (by omega) ?_
        refine ziload_n (k := 45) rfl rfl ?_
        refine ziaddB (k := 46) rfl (by omega) ?_
        refine ziaload (k := 47) rfl ar_294 ⟨by omega, by omega⟩ ?_
        rw [zup_n (by omega), zup_n (by omega), bg1_n (by omega)]
        refine ziastore (k := 48) rfl ar_318 ⟨by omega, by omega⟩ (by omega) ?_
        refine ziincB (k := 49) (ls' := [_, _]) rfl rfl (by decide) (by omega) rfl ?_
        refine zgoto (k := 50) rfl rfl ?_
        have rr := ih9_q (j + 1) (by omega) (by omega)
        rw [bg1_s (by omega)]
        exact rr
  rw [bg1_0 σ b]
  exact lp9_q _ 0 (Nat.lt_succ_self _) (by omega)
