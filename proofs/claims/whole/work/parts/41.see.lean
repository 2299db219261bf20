/-! see -/
def seeB (t : Int → Int) : Nat → Bool
  | 0 => true
  | r + 1 => seeB t r && (decide (t (2 * r) < 6) && decide (t (2 * r + 1) ≤ 1))
theorem seeB_s (t : Int → Int) (r : Nat) : seeB t (r + 1) = (seeB t r && (decide (t (2 * r) < 6) && decide (t (2 * r + 1) ≤ 1))) := rfl
theorem seeB_le (t : Int → Int) {r : Nat} (h : seeB t r = false) : ∀ d : Nat, seeB t (r + d) = false
  | 0 => h
  | d + 1 => by rw [show r + (d + 1) = r + d + 1 by omega, seeB_s, seeB_le t h d]; rfl
def see2 (σ : zv_H) (r : Int) : zv_H := fun x k => if x = 286 ∧ 0 ≤ k ∧ k < r then σ 3 (2 * k) else if x = 287 ∧ 0 ≤ k ∧ k < r then σ 3 (2 * k + 1) else σ x k
theorem see2_n {σ : zv_H} {r x : Int} (h1 : x ≠ 286) (h2 : x ≠ 287) (k : Int) : see2 σ r x k = σ x k := by
  unfold see2
  rw [if_neg (by omega), if_neg (by omega)]
theorem see2_0 (σ : zv_H) : see2 σ ((0 : Nat) : Int) = σ := by
  funext x k
  unfold see2
  rw [if_neg (by omega), if_neg (by omega)]
theorem see2_s {σ : zv_H} {r : Int} (h : 0 ≤ r) : zup (zup (see2 σ r) 286 r (σ 3 (2 * r))) 287 r (σ 3 (2 * r + 1)) = see2 σ (r + 1) := by
  funext x k
  unfold see2 zup
  dsimp only
  (repeat' split) <;> first | rfl | (exfalso; omega) | (congr 1; omega)
def seeP (σ : zv_H) : Prop := σ 2 1 % 2 = 0 ∧ 1 ≤ σ 2 1 / 2 ∧ σ 2 1 / 2 ≤ 16 ∧ seeB (σ 3) (σ 2 1 / 2).toNat = true
def seeF (σ : zv_H) : zv_H := zup (zup (see2 σ (σ 2 1 / 2)) 2 1 0) 1 15 (σ 2 1 / 2)
set_option maxHeartbeats 4000000 in
set_option maxRecDepth 20000 in
theorem c_NT_see {Γ : zv_M} {L : Int} {σ : zv_H} (h : 0 ≤ σ 2 1 ∧ σ 2 1 ≤ 1600) : zC Γ m_NT_see 2 0 0 (GM L) [zR 1] σ (zPI (GM L) (fun z σ' => (seeP σ ∧ z = σ 2 1 / 2 ∧ σ' = seeF σ) ∨ (¬ seeP σ ∧ z = -1 ∧ σ' = rfu (zup σ 2 1 0) 5))) := by
  refine zC_of (ls0 := [_, _, _, _]) zm_NT_see (by decide) rfl (Nat.le_of_ble_eq_true rfl) ?_
  generalize hQ : (zPI (GM L) (fun z σ' => (seeP σ ∧ z = σ 2 1 / 2 ∧ σ' = seeF σ) ∨ (¬ seeP σ ∧ z = -1 ∧ σ' = rfu (zup σ 2 1 0) 5))) = Q
  generalize hN : σ 2 1 / 2 = N
  have hN2 : 0 ≤ N ∧ N ≤ 800 := by omega
  have cut112 : (seeP σ) → zV Γ m_NT_see 2 0 0 Q (GM L) (0, 0) 112 [some (zR 1), some (zI N), none, none] [] σ := by
    intro  hp
    have hpp := hp
    obtain ⟨p1, p2, p3, p4⟩ := hpp
    rw [hN] at p2 p3 p4
    refine ziconst (k := 64) rfl (by decide) ?_
    refine zistore_n (k := 65) (ls' := [_, _, _, _]) rfl (Nat.le_of_ble_eq_true rfl) rfl ?_
    have lp114 : ∀ (g : Nat) (r : Nat), (N.toNat - r) < g → ((r : Int) ≤ N) → zV Γ m_NT_see 2 0 0 Q (GM L) (0, 0) 114 [some (zR 1), some (zI N), none, some (zI r)] [] (see2 σ r) := by
      intro g
      induction g with
      | zero => intro r hg; exact absurd hg (Nat.not_lt_zero _)
      | succ g ih114 =>
        intro r hg hr
        have e3 : see2 σ r 3 = σ 3 := funext (fun k => see2_n (by omega) (by omega) k)
        have e2 : see2 σ r 2 1 = σ 2 1 := see2_n (by omega) (by omega) 1
        refine ziload_n (k := 66) rfl rfl ?_
        refine ziload_n (k := 67) rfl rfl ?_
        refine zicmp_ge (k := 68) rfl rfl (fun c1 => ?_) (fun c1 => ?_)
        · skip
          rw [show (r : Int) = N by omega]
          refine zaload_n (k := 93) rfl rfl ?_
          refine zgF 0 (k := 94) rfl ob_1 fl_11_10 rfl fx_1_0 ?_
          refine ziconst (k := 95) rfl (by decide) ?_
          refine zpI 1 (k := 96) rfl ob_2 fl_11_111 ⟨_, rfl, rfl⟩ rfl (by omega) rfl fx_2_1 ?_
          skip
          refine zaload_n (k := 97) rfl rfl ?_
          refine ziload_n (k := 98) rfl rfl ?_
          refine zpI 15 (k := 99) rfl ob_1 fl_11_94 ⟨_, rfl, rfl⟩ rfl (by omega) rfl fx_1_15 ?_
          refine zaload_n (k := 100) rfl rfl ?_
          refine zgI 15 (k := 101) rfl ob_1 fl_11_94 rfl fx_1_15 ?_
          rw [zup_s]
          refine zireturn (k := 102) rfl rfl rfl ?_
          rw [← hQ]
          exact ⟨rfl, _, rfl, Or.inl ⟨hp, hN.symm, by unfold seeF; rw [hN]⟩⟩
        · skip
          refine zaload_n (k := 69) rfl rfl ?_
          refine zgF 13 (k := 70) rfl ob_1 fl_11_87 rfl fx_1_13 ?_
          refine ziload_n (k := 71) rfl rfl ?_
          refine zaload_n (k := 72) rfl rfl ?_
          refine zgF 0 (k := 73) rfl ob_1 fl_11_10 rfl fx_1_0 ?_
          refine ziconst (k := 74) rfl (by decide) ?_
          refine ziload_n (k := 75) rfl rfl ?_
          refine zimulB (k := 76) rfl (by omega) ?_
          refine zfV1 (k := 77) rfl (c_Tape_octetAt (by omega)) fm_Tape_octetAt lk_11_260 rfl rfl ob_2 ⟨_, rfl, rfl⟩ (Nat.le_of_ble_eq_true rfl) (by decide) ⟨by decide, by decide⟩ ?_
          rw [if_pos (by omega), e3]
          refine zfS0 (k := 78) rfl (c_NT_put ar_286 (by omega)) fm_NT_put lk_11_244 rfl rfl (Nat.le_of_ble_eq_true rfl) (by decide) ⟨by decide, by decide⟩ ?_
          rw [zpt_in (by omega)]
          refine zaload_n (k := 79) rfl rfl ?_
          refine zgF 14 (k := 80) rfl ob_1 fl_11_91 rfl fx_1_14 ?_
          refine ziload_n (k := 81) rfl rfl ?_
          refine zaload_n (k := 82) rfl rfl ?_
          refine zgF 0 (k := 83) rfl ob_1 fl_11_10 rfl fx_1_0 ?_
          refine ziconst (k := 84) rfl (by decide) ?_
          refine ziload_n (k := 85) rfl rfl ?_
          refine zimulB (k := 86) rfl (by omega) ?_
          refine ziconst (k := 87) rfl (by decide) ?_
          refine ziaddB (k := 88) rfl (by omega) ?_
          refine zfV1 (k := 89) rfl (c_Tape_octetAt (by rw [zup_n (by omega)]; omega)) fm_Tape_octetAt lk_11_260 rfl rfl ob_2 ⟨_, rfl, rfl⟩ (Nat.le_of_ble_eq_true rfl) (by decide) ⟨by decide, by decide⟩ ?_
          rw [zup_n (by omega), zup_n (by omega), if_pos (by omega), e3]
          refine zfS0 (k := 90) rfl (c_NT_put ar_287 (by omega)) fm_NT_put lk_11_244 rfl rfl (Nat.le_of_ble_eq_true rfl) (by decide) ⟨by decide, by decide⟩ ?_
          rw [zpt_in (by omega), see2_s (by omega)]
          refine ziincB (k := 91) (ls' := [_, _, _, _]) rfl rfl (by decide) (by omega) rfl ?_
          refine zgoto (k := 92) rfl rfl ?_
          rw [show (r : Int) + 1 = ((r + 1 : Nat) : Int) from rfl] at *
          exact ih114 (r + 1) (by omega) (by omega)
    rw [show σ = see2 σ ((0 : Nat) : Int) from (see2_0 σ).symm]
    exact lp114 _ 0 (Nat.lt_succ_self _) (by omega)
  have cut97 : (¬ seeP σ) → zV Γ m_NT_see 2 0 0 Q (GM L) (0, 0) 97 [some (zR 1), some (zI N), none, none] [] σ := by
    intro  hp
    refine zaload_n (k := 55) rfl rfl ?_
    refine zgF 0 (k := 56) rfl ob_1 fl_11_10 rfl fx_1_0 ?_
    refine ziconst (k := 57) rfl (by decide) ?_
    refine zpI 1 (k := 58) rfl ob_2 fl_11_111 ⟨_, rfl, rfl⟩ rfl (by omega) rfl fx_2_1 ?_
    refine zaload_n (k := 59) rfl rfl ?_
    refine ziconst (k := 60) rfl (by decide) ?_
    refine zfV0 (k := 61) rfl (c_NT_refuse (by omega)) fm_NT_refuse lk_11_104 rfl rfl ob_1 ⟨_, rfl, rfl⟩ (Nat.le_of_ble_eq_true rfl) (by decide) ⟨by decide, by decide⟩ ?_
    refine ziconst (k := 62) rfl (by decide) ?_
    refine zireturn (k := 63) rfl rfl rfl ?_
    rw [← hQ]
    exact ⟨rfl, _, rfl, Or.inr ⟨hp, rfl, rfl⟩⟩
  have cut38 : ∀ (v : Int), ((v = 1 ∧ (σ 2 1 % 2 = 0 ∧ 1 ≤ N ∧ N ≤ 16)) ∨ (v = 0 ∧ ¬ seeP σ)) → zV Γ m_NT_see 2 0 0 Q (GM L) (0, 0) 38 [some (zR 1), some (zI N), none, none] [zI v] σ := by
    intro v hb0
    refine zistore_n (k := 21) (ls' := [_, _, _, _]) rfl (Nat.le_of_ble_eq_true rfl) rfl ?_
    refine ziconst (k := 22) rfl (by decide) ?_
    refine zistore_n (k := 23) (ls' := [_, _, _, _]) rfl (Nat.le_of_ble_eq_true rfl) rfl ?_
    have lp41 : ∀ (g : Nat) (j : Nat) (v : Int), (N.toNat - j) < g → ((j : Int) ≤ N ∨ j = 0) → ((v = 1 ∧ (σ 2 1 % 2 = 0 ∧ 1 ≤ N ∧ N ≤ 16) ∧ seeB (σ 3) j = true) ∨ (v = 0 ∧ ¬ seeP σ)) → zV Γ m_NT_see 2 0 0 Q (GM L) (0, 0) 41 [some (zR 1), some (zI N), some (zI v), some (zI j)] [] σ := by
      intro g
      induction g with
      | zero => intro j v hg; exact absurd hg (Nat.not_lt_zero _)
      | succ g ih41 =>
        intro j v hg hj hb
        refine ziload_n (k := 24) rfl rfl ?_
        refine zif_eq (k := 25) rfl rfl (fun c2 => ?_) (fun c2 => ?_)
        · skip
          refine ziload_n (k := 53) rfl rfl ?_
          refine zif_ne (k := 54) rfl rfl (fun c3 => ?_) (fun c3 => ?_)
          · skip
            refine zforget (ls' := [_, _, _, _]) 2 rfl ?_
            refine zforget (ls' := [_, _, _, _]) 3 rfl ?_
            exact cut112 ⟨by omega, by omega, by omega, by rw [hN]; rcases hb with ⟨g1, g2⟩ | ⟨g1, g2⟩; rw [show N.toNat = j by omega]; exact g2.2; omega⟩
          · skip
            refine zforget (ls' := [_, _, _, _]) 2 rfl ?_
            refine zforget (ls' := [_, _, _, _]) 3 rfl ?_
            exact cut97 (fun q => by rcases hb with ⟨g1, g2⟩ | ⟨g1, g2⟩; omega; exact g2 q)
        · skip
          refine ziload_n (k := 26) rfl rfl ?_
          refine ziload_n (k := 27) rfl rfl ?_
          refine zicmp_ge (k := 28) rfl rfl (fun c4 => ?_) (fun c4 => ?_)
          · skip
            refine ziload_n (k := 53) rfl rfl ?_
            refine zif_ne (k := 54) rfl rfl (fun c5 => ?_) (fun c5 => ?_)
            · skip
              refine zforget (ls' := [_, _, _, _]) 2 rfl ?_
              refine zforget (ls' := [_, _, _, _]) 3 rfl ?_
              exact cut112 ⟨by omega, by omega, by omega, by rw [hN]; rcases hb with ⟨g1, g2⟩ | ⟨g1, g2⟩; rw [show N.toNat = j by omega]; exact g2.2; omega⟩
            · skip
              refine zforget (ls' := [_, _, _, _]) 2 rfl ?_
              refine zforget (ls' := [_, _, _, _]) 3 rfl ?_
              exact cut97 (fun q => by rcases hb with ⟨g1, g2⟩ | ⟨g1, g2⟩; omega; exact g2 q)
          · skip
            refine zaload_n (k := 29) rfl rfl ?_
            refine zgF 0 (k := 30) rfl ob_1 fl_11_10 rfl fx_1_0 ?_
            refine ziconst (k := 31) rfl (by decide) ?_
            refine ziload_n (k := 32) rfl rfl ?_
            refine zimulB (k := 33) rfl (by omega) ?_
            refine zfV1 (k := 34) rfl (c_Tape_octetAt (by first | omega | (rw [see2_n (by omega) (by omega)]; omega) | (rw [zup_n (by omega), see2_n (by omega) (by omega)]; omega))) fm_Tape_octetAt lk_11_260 rfl rfl ob_2 ⟨_, rfl, rfl⟩ (Nat.le_of_ble_eq_true rfl) (by decide) ⟨by decide, by decide⟩ ?_
            rw [if_pos (by first | omega | (simp only [zup_n, see2_n, ne_eq]; omega))]
            refine zbipush (k := 35) rfl rfl ?_
            refine zicmp_ge (k := 36) rfl rfl (fun c6 => ?_) (fun c6 => ?_)
            · skip
              refine ziconst (k := 49) rfl (by decide) ?_
              refine zistore_n (k := 50) (ls' := [_, _, _, _]) rfl (Nat.le_of_ble_eq_true rfl) rfl ?_
              refine ziincB (k := 51) (ls' := [_, _, _, _]) rfl rfl (by decide) (by omega) rfl ?_
              refine zgoto (k := 52) rfl rfl ?_
              refine ih41 (j + 1) _ (by omega) (by omega) ?_
              rcases hb with ⟨g1, g2, g3⟩ | ⟨g1, g2⟩
              · first
                | exact Or.inl ⟨rfl, g2, by rw [seeB_s, g3, decide_eq_true (by omega), decide_eq_true (by omega)]; rfl⟩
                | refine Or.inr ⟨rfl, fun q => ?_⟩
                  have q4 := q.2.2.2
                  rw [hN] at q4
                  have q5 := seeB_le (σ 3) (r := j + 1) (by rw [seeB_s, g3]; first | (rw [decide_eq_false (by omega)]; rfl) | (rw [decide_eq_false (p := σ 3 (2 * (j : Int) + 1) ≤ 1) (by omega), Bool.and_false]; rfl)) (N.toNat - (j + 1))
                  rw [show j + 1 + (N.toNat - (j + 1)) = N.toNat by omega, q4] at q5
                  exact absurd q5 (by decide)
              · omega
            · skip
              refine zaload_n (k := 37) rfl rfl ?_
              refine zgF 0 (k := 38) rfl ob_1 fl_11_10 rfl fx_1_0 ?_
              refine ziconst (k := 39) rfl (by decide) ?_
              refine ziload_n (k := 40) rfl rfl ?_
              refine zimulB (k := 41) rfl (by omega) ?_
              refine ziconst (k := 42) rfl (by decide) ?_
              refine ziaddB (k := 43) rfl (by omega) ?_
              refine zfV1 (k := 44) rfl (c_Tape_octetAt (by first | omega | (rw [see2_n (by omega) (by omega)]; omega) | (rw [zup_n (by omega), see2_n (by omega) (by omega)]; omega))) fm_Tape_octetAt lk_11_260 rfl rfl ob_2 ⟨_, rfl, rfl⟩ (Nat.le_of_ble_eq_true rfl) (by decide) ⟨by decide, by decide⟩ ?_
              rw [if_pos (by first | omega | (simp only [zup_n, see2_n, ne_eq]; omega))]
              refine ziconst (k := 45) rfl (by decide) ?_
              refine zicmp_gt (k := 46) rfl rfl (fun c7 => ?_) (fun c7 => ?_)
              · skip
                refine ziconst (k := 49) rfl (by decide) ?_
                refine zistore_n (k := 50) (ls' := [_, _, _, _]) rfl (Nat.le_of_ble_eq_true rfl) rfl ?_
                refine ziincB (k := 51) (ls' := [_, _, _, _]) rfl rfl (by decide) (by omega) rfl ?_
                refine zgoto (k := 52) rfl rfl ?_
                refine ih41 (j + 1) _ (by omega) (by omega) ?_
                rcases hb with ⟨g1, g2, g3⟩ | ⟨g1, g2⟩
                · first
                  | exact Or.inl ⟨rfl, g2, by rw [seeB_s, g3, decide_eq_true (by omega), decide_eq_true (by omega)]; rfl⟩
                  | refine Or.inr ⟨rfl, fun q => ?_⟩
                    have q4 := q.2.2.2
                    rw [hN] at q4
                    have q5 := seeB_le (σ 3) (r := j + 1) (by rw [seeB_s, g3]; first | (rw [decide_eq_false (by omega)]; rfl) | (rw [decide_eq_false (p := σ 3 (2 * (j : Int) + 1) ≤ 1) (by omega), Bool.and_false]; rfl)) (N.toNat - (j + 1))
                    rw [show j + 1 + (N.toNat - (j + 1)) = N.toNat by omega, q4] at q5
                    exact absurd q5 (by decide)
                · omega
              · skip
                refine ziconst (k := 47) rfl (by decide) ?_
                refine zgoto (k := 48) rfl rfl ?_
                refine zistore_n (k := 50) (ls' := [_, _, _, _]) rfl (Nat.le_of_ble_eq_true rfl) rfl ?_
                refine ziincB (k := 51) (ls' := [_, _, _, _]) rfl rfl (by decide) (by omega) rfl ?_
                refine zgoto (k := 52) rfl rfl ?_
                refine ih41 (j + 1) _ (by omega) (by omega) ?_
                rcases hb with ⟨g1, g2, g3⟩ | ⟨g1, g2⟩
                · first
                  | exact Or.inl ⟨rfl, g2, by rw [seeB_s, g3, decide_eq_true (by omega), decide_eq_true (by omega)]; rfl⟩
                  | refine Or.inr ⟨rfl, fun q => ?_⟩
                    have q4 := q.2.2.2
                    rw [hN] at q4
                    have q5 := seeB_le (σ 3) (r := j + 1) (by rw [seeB_s, g3]; first | (rw [decide_eq_false (by omega)]; rfl) | (rw [decide_eq_false (p := σ 3 (2 * (j : Int) + 1) ≤ 1) (by omega), Bool.and_false]; rfl)) (N.toNat - (j + 1))
                    rw [show j + 1 + (N.toNat - (j + 1)) = N.toNat by omega, q4] at q5
                    exact absurd q5 (by decide)
                · omega
    exact lp41 _ 0 _ (Nat.lt_succ_self _) (by omega) (by rcases hb0 with g | g; exact Or.inl ⟨g.1, g.2, rfl⟩; exact Or.inr g)
  refine zaload_n (k := 0) rfl rfl ?_
  refine zgF 0 (k := 1) rfl ob_1 fl_11_10 rfl fx_1_0 ?_
  refine zgI 1 (k := 2) rfl ob_2 fl_11_111 rfl fx_2_1 ?_
  refine ziconst (k := 3) rfl (by decide) ?_
  refine zidivP (k := 4) rfl (by omega) ?_
  rw [hN]
  refine zistore_n (k := 5) (ls' := [_, _, _, _]) rfl (Nat.le_of_ble_eq_true rfl) rfl ?_
  refine zaload_n (k := 6) rfl rfl ?_
  refine zgF 0 (k := 7) rfl ob_1 fl_11_10 rfl fx_1_0 ?_
  refine zgI 1 (k := 8) rfl ob_2 fl_11_111 rfl fx_2_1 ?_
  refine ziconst (k := 9) rfl (by decide) ?_
  refine ziremP (k := 10) rfl (by omega) ?_
  refine zif_ne (k := 11) rfl rfl (fun c8 => ?_) (fun c8 => ?_)
  · skip
    refine ziconst (k := 20) rfl (by decide) ?_
    exact cut38 _ (by first | exact Or.inl ⟨rfl, by omega, by omega, by omega⟩ | exact Or.inr ⟨rfl, fun q => by have q1 := q.1; have q2 := q.2.1; have q3 := q.2.2.1; omega⟩)
  · skip
    refine ziload_n (k := 12) rfl rfl ?_
    refine ziconst (k := 13) rfl (by decide) ?_
    refine zicmp_lt (k := 14) rfl rfl (fun c9 => ?_) (fun c9 => ?_)
    · skip
      refine ziconst (k := 20) rfl (by decide) ?_
      exact cut38 _ (by first | exact Or.inl ⟨rfl, by omega, by omega, by omega⟩ | exact Or.inr ⟨rfl, fun q => by have q1 := q.1; have q2 := q.2.1; have q3 := q.2.2.1; omega⟩)
    · skip
      refine ziload_n (k := 15) rfl rfl ?_
      refine zbipush (k := 16) rfl rfl ?_
      refine zicmp_gt (k := 17) rfl rfl (fun c10 => ?_) (fun c10 => ?_)
      · skip
        refine ziconst (k := 20) rfl (by decide) ?_
        exact cut38 _ (by first | exact Or.inl ⟨rfl, by omega, by omega, by omega⟩ | exact Or.inr ⟨rfl, fun q => by have q1 := q.1; have q2 := q.2.1; have q3 := q.2.2.1; omega⟩)
      · skip
        refine ziconst (k := 18) rfl (by decide) ?_
        refine zgoto (k := 19) rfl rfl ?_
        exact cut38 _ (by first | exact Or.inl ⟨rfl, by omega, by omega, by omega⟩ | exact Or.inr ⟨rfl, fun q => by have q1 := q.1; have q2 := q.2.1; have q3 := q.2.2.1; omega⟩)
