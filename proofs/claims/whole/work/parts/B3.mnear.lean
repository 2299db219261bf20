set_option maxHeartbeats 4000000 in
set_option maxRecDepth 20000 in
theorem c_M_has2 {Γ : zv_M} {L : Int} {σ : zv_H} {v k : Int} (hv : -2147483648 ≤ v ∧ v ≤ 2147483647) : zC Γ m_M_has2 0 0 0 (GM L) [zI v, zI k] σ (zFn (some (zI (if zshr v k % 2 = 1 then 1 else 0))) (GM L) σ) := by
  refine zC_of (ls0 := [_, _]) zm_M_has2 (by decide) rfl (Nat.le_of_ble_eq_true rfl) ?_
  generalize hQ : (zFn (some (zI (if zshr v k % 2 = 1 then 1 else 0))) (GM L) σ) = Q
  refine ziload_n (k := 0) rfl rfl ?_
  refine ziload_n (k := 1) rfl rfl ?_
  refine zishr (k := 2) rfl ?_
  refine ziconst (k := 3) rfl (by decide) ?_
  refine ziandM (k := 4) 1 rfl (by decide) rfl 2 rfl ?_
  refine ziconst (k := 5) rfl (by decide) ?_
  refine zicmp_ne (k := 6) rfl rfl (fun c1_q => ?_) (fun c1_q => ?_)
  · skip
    refine ziconst (k := 9) rfl (by decide) ?_
    refine zzreturn (k := 10) rfl rfl (by first | exact Or.inl rfl | exact Or.inr rfl | omega) rfl ?_
    rw [← hQ]
    exact ⟨by first | (rw [if_pos (by omega)]; done) | (rw [if_neg (by omega)]; done) | (exfalso; omega), rfl, rfl⟩
  · skip
    refine ziconst (k := 7) rfl (by decide) ?_
    refine zgoto (k := 8) rfl rfl ?_
    refine zzreturn (k := 10) rfl rfl (by first | exact Or.inl rfl | exact Or.inr rfl | omega) rfl ?_
    rw [← hQ]
    exact ⟨by first | (rw [if_pos (by omega)]; done) | (rw [if_neg (by omega)]; done) | (exfalso; omega), rfl, rfl⟩
set_option maxHeartbeats 4000000 in
set_option maxRecDepth 20000 in
theorem c_M_isStaffed {Γ : zv_M} {L : Int} {σ Wm S : zv_H} {b : Int} (hb1_q : b = 0 ∨ b = 1) (h0_q : stM σ σ b 0 Wm S) (hSI : SI (Wm 0 1) (Wm 0 3) S) (hWI : WI Wm) {v n : Int} (hv : 0 ≤ v ∧ v ≤ 127) (hn : 0 ≤ n ∧ n ≤ 99)  : zC Γ m_M_isStaffed 2 0 0 (GM L) [zR 289, zI v, zI n] σ (zPI (GM L) (fun z σ' => σ' = σ ∧ ((z = 1 ∧ nerP Wm v n) ∨ (z = 0 ∧ ¬ nerP Wm v n)))) := by
  refine zC_of (ls0 := [_, _, _, _, _, _]) zm_M_isStaffed (by decide) rfl (Nat.le_of_ble_eq_true rfl) ?_
  generalize hQ : (zPI (GM L) (fun z σ' => σ' = σ ∧ ((z = 1 ∧ nerP Wm v n) ∨ (z = 0 ∧ ¬ nerP Wm v n)))) = Q
  have hb := h0_q.2.2.1
  have w1_q := hWI.1
  have w3_q := hWI.2.2.1
  have r0_q := rM_0 h0_q.1
  have b00_q := hSI.1
  have b12_q := hSI.2.2.1
  have bc := hSI.2.2.2.1
  have bm := hSI.2.2.2.2.1
  have bl := hSI.2.2.2.2.2.1
  refine ziconst (k := 0) rfl (by decide) ?_
  refine zistore_n (k := 1) (ls' := [_, _, _, _, _, _]) rfl (Nat.le_of_ble_eq_true rfl) rfl ?_
  have lp2_q : ∀ (g : Nat) (i : Nat), ((Wm 0 1).toNat - i) < g → ((i : Int) ≤ Wm 0 1) → (∀ c : Int, 0 ≤ c → c < i → nerC Wm v n c (Wm 0 1)) → zV Γ m_M_isStaffed 2 0 0 Q (GM L) (0, 0) 2 [some (zR 289), some (zI v), some (zI n), some (zI i), none, none] [] σ := by
    intro g
    induction g with
    | zero => intro i hg; exact absurd hg (Nat.not_lt_zero _)
    | succ g ih2_q =>
      intro i hg hi hp
      refine ziload_n (k := 2) rfl rfl ?_
      refine zaload_n (k := 3) rfl rfl ?_
      refine zgF 14 (k := 4) rfl ob_289 fl_12_54 rfl fx_289_14 ?_
      refine zaload_n (k := 5) rfl rfl ?_
      refine zgI 13 (k := 6) rfl ob_289 fl_12_51 rfl fx_289_13 ?_
      rw [hb]
      refine ziaload (k := 7) rfl ar_291 ⟨by omega, by omega⟩ ?_
      rw [h0_q.2.1.1.1]
      refine zicmp_ge (k := 8) rfl rfl (fun c1_q => ?_) (fun c1_q => ?_)
      · skip
        refine ziconst (k := 44) rfl (by decide) ?_
        refine zzreturn (k := 45) rfl rfl (by first | exact Or.inl rfl | exact Or.inr rfl | omega) rfl ?_
        rw [← hQ]
        exact ⟨rfl, _, rfl, rfl, Or.inl ⟨rfl, fun c h1_q h2_q => hp c h1_q (by omega)⟩⟩
      · skip
        refine ziconst (k := 9) rfl (by decide) ?_
        refine zistore (k := 10) (ls' := [_, _, _, _, _, _]) rfl (Nat.le_of_ble_eq_true rfl) rfl ?_
        refine ziconst (k := 11) rfl (by decide) ?_
        refine zistore (k := 12) (ls' := [_, _, _, _, _, _]) rfl (Nat.le_of_ble_eq_true rfl) rfl ?_
        have lp21_q : ∀ (g : Nat) (j : Nat) (y : Int), ((Wm 0 1).toNat - j) < g → ((j : Int) ≤ Wm 0 1) → ((y = 0 ∨ y = 1) ∧ ((y = 1 ∧ nerC Wm v n i j) ∨ (y = 0 ∧ ¬ nerC Wm v n i j))) → zV Γ m_M_isStaffed 2 0 0 Q (GM L) (0, 0) 21 [some (zR 289), some (zI v), some (zI n), some (zI i), some (zI y), some (zI j)] [] σ := by
          intro g
          induction g with
          | zero => intro j y hg; exact absurd hg (Nat.not_lt_zero _)
          | succ g ih21_q =>
            intro j y hg hj hq
            refine ziload (k := 13) rfl rfl ?_
            refine zaload_n (k := 14) rfl rfl ?_
            refine zgF 14 (k := 15) rfl ob_289 fl_12_54 rfl fx_289_14 ?_
            refine zaload_n (k := 16) rfl rfl ?_
            refine zgI 13 (k := 17) rfl ob_289 fl_12_51 rfl fx_289_13 ?_
            rw [hb]
            refine ziaload (k := 18) rfl ar_291 ⟨by omega, by omega⟩ ?_
            rw [h0_q.2.1.1.1]
            refine zicmp_ge (k := 19) rfl rfl (fun c2_q => ?_) (fun c2_q => ?_)
            · skip
              refine ziload (k := 38) rfl rfl ?_
              refine zif_ne (k := 39) rfl rfl (fun c3_q => ?_) (fun c3_q => ?_)
              · skip
                refine ziincB (k := 42) (ls' := [_, _, _, _, _, _]) rfl rfl (by decide) (by omega) rfl ?_
                refine zgoto (k := 43) rfl rfl ?_
                refine zforget (ls' := [_, _, _, _, _, _]) 4 rfl ?_
                refine zforget (ls' := [_, _, _, _, _, _]) 5 rfl ?_
                refine ih2_q (i + 1) (by omega) (by omega) (fun x h1_q h2_q => ?_)
                by_cases e : x = i
                · rw [e]
                  rcases hq.2 with q | q
                  · rw [show Wm 0 1 = (j : Int) by omega]; exact q.2
                  · exact absurd q.1 (by assumption)
                · exact hp x h1_q (by omega)
              · skip
                refine ziconst (k := 40) rfl (by decide) ?_
                refine zzreturn (k := 41) rfl rfl (by first | exact Or.inl rfl | exact Or.inr rfl | omega) rfl ?_
                rw [← hQ]
                refine ⟨rfl, _, rfl, rfl, Or.inr ⟨rfl, fun q => ?_⟩⟩
                rcases hq.2 with r | r
                · omega
                · exact r.2 (by rw [show (j : Int) = Wm 0 1 by omega]; exact q i (by omega) (by omega))
            · skip
              refine ziload (k := 20) rfl rfl ?_
              refine zif_ne (k := 21) rfl rfl (fun c4_q => ?_) (fun c4_q => ?_)
              · skip
                refine ziconst (k := 32) rfl (by decide) ?_
                refine zgoto (k := 33) rfl rfl ?_
                refine zistore (k := 35) (ls' := [_, _, _, _, _, _]) rfl (Nat.le_of_ble_eq_true rfl) rfl ?_
                refine ziincB (k := 36) (ls' := [_, _, _, _, _, _]) rfl rfl (by decide) (by omega) rfl ?_
                refine zgoto (k := 37) rfl rfl ?_
                refine ih21_q (j + 1) _ (by omega) (by omega) ⟨by first | exact Or.inl rfl | exact Or.inr rfl, ?_⟩
                rw [show ((j + 1 : Nat) : Int) = (j : Int) + 1 from rfl, ner_s (by omega)]
                rcases hq.2 with q | q
                · first
                  | exact Or.inl ⟨rfl, Or.inl q.2⟩
                  | (exfalso; omega)
                · first
                  | exact Or.inl ⟨rfl, Or.inr ⟨hbit, by omega, by omega⟩⟩
                  | exact Or.inr ⟨rfl, fun r => by
                      rcases r with r | r
                      · exact q.2 r
                      · first
                        | (have r1_q := r.1; omega)
                        | (have r1_q := r.2; omega)⟩
                  | (exfalso; omega)
              · skip
                refine ziload_n (k := 22) rfl rfl ?_
                refine ziload (k := 23) rfl rfl ?_
                refine zfS1 (k := 24) rfl (c_M_has2 (by omega)) fm_M_has2 lk_12_357 rfl rfl (Nat.le_of_ble_eq_true rfl) (by decide) ⟨by decide, by decide⟩ ?_
                refine zif_eq (k := 25) rfl rfl (fun c5_q => ?_) (fun c5_q => ?_)
                · skip
                  refine ziconst (k := 34) rfl (by decide) ?_
                  refine zistore (k := 35) (ls' := [_, _, _, _, _, _]) rfl (Nat.le_of_ble_eq_true rfl) rfl ?_
                  refine ziincB (k := 36) (ls' := [_, _, _, _, _, _]) rfl rfl (by decide) (by omega) rfl ?_
                  refine zgoto (k := 37) rfl rfl ?_
                  refine ih21_q (j + 1) _ (by omega) (by omega) ⟨by first | exact Or.inl rfl | exact Or.inr rfl, ?_⟩
                  rw [show ((j + 1 : Nat) : Int) = (j : Int) + 1 from rfl, ner_s (by omega)]
                  rcases hq.2 with q | q
                  · first
                    | exact Or.inl ⟨rfl, Or.inl q.2⟩
                    | (exfalso; omega)
                  · first
                    | exact Or.inl ⟨rfl, Or.inr ⟨hbit, by omega, by omega⟩⟩
                    | exact Or.inr ⟨rfl, fun r => by
                        rcases r with r | r
                        · exact q.2 r
                        · first
                          | (have r1_q := r.1; omega)
                          | (have r1_q := r.2; omega)⟩
                    | (exfalso; omega)
                · skip
                  have hbit : zshr v j % 2 = 1 := by omega
                  refine zaload_n (k := 26) rfl rfl ?_
                  refine ziload (k := 27) rfl rfl ?_
                  refine ziload_n (k := 28) rfl rfl ?_
                  refine zfV1 (k := 29) rfl (c_M_wayBy hb hb1_q (by omega) (by omega)) fm_M_wayBy lk_12_439 rfl rfl ob_289 ⟨_, rfl, rfl⟩ (Nat.le_of_ble_eq_true rfl) (by decide) ⟨by decide, by decide⟩ ?_
                  rw [way_r h0_q hWI ⟨by omega, by omega⟩ ⟨by omega, by omega⟩]
                  have db := dst_b hWI j i
                  refine ziload_n (k := 30) rfl rfl ?_
                  refine zicmp_gt (k := 31) rfl rfl (fun c6_q => ?_) (fun c6_q => ?_)
                  · skip
                    refine ziconst (k := 34) rfl (by decide) ?_
                    refine zistore (k := 35) (ls' := [_, _, _, _, _, _]) rfl (Nat.le_of_ble_eq_true rfl) rfl ?_
                    refine ziincB (k := 36) (ls' := [_, _, _, _, _, _]) rfl rfl (by decide) (by omega) rfl ?_
                    refine zgoto (k := 37) rfl rfl ?_
                    refine ih21_q (j + 1) _ (by omega) (by omega) ⟨by first | exact Or.inl rfl | exact Or.inr rfl, ?_⟩
                    rw [show ((j + 1 : Nat) : Int) = (j : Int) + 1 from rfl, ner_s (by omega)]
                    rcases hq.2 with q | q
                    · first
                      | exact Or.inl ⟨rfl, Or.inl q.2⟩
                      | (exfalso; omega)
                    · first
                      | exact Or.inl ⟨rfl, Or.inr ⟨hbit, by omega, by omega⟩⟩
                      | exact Or.inr ⟨rfl, fun r => by
                          rcases r with r | r
                          · exact q.2 r
                          · first
                            | (have r1_q := r.1; omega)
                            | (have r1_q := r.2; omega)⟩
                      | (exfalso; omega)
                  · skip
                    refine ziconst (k := 32) rfl (by decide) ?_
                    refine zgoto (k := 33) rfl rfl ?_
                    refine zistore (k := 35) (ls' := [_, _, _, _, _, _]) rfl (Nat.le_of_ble_eq_true rfl) rfl ?_
                    refine ziincB (k := 36) (ls' := [_, _, _, _, _, _]) rfl rfl (by decide) (by omega) rfl ?_
                    refine zgoto (k := 37) rfl rfl ?_
                    refine ih21_q (j + 1) _ (by omega) (by omega) ⟨by first | exact Or.inl rfl | exact Or.inr rfl, ?_⟩
                    rw [show ((j + 1 : Nat) : Int) = (j : Int) + 1 from rfl, ner_s (by omega)]
                    rcases hq.2 with q | q
                    · first
                      | exact Or.inl ⟨rfl, Or.inl q.2⟩
                      | (exfalso; omega)
                    · first
                      | exact Or.inl ⟨rfl, Or.inr ⟨hbit, by omega, by omega⟩⟩
                      | exact Or.inr ⟨rfl, fun r => by
                          rcases r with r | r
                          · exact q.2 r
                          · first
                            | (have r1_q := r.1; omega)
                            | (have r1_q := r.2; omega)⟩
                      | (exfalso; omega)
        exact lp21_q _ 0 _ (Nat.lt_succ_self _) (by omega) ⟨Or.inl rfl, Or.inr ⟨rfl, fun ⟨p, h1_q, h2_q, _⟩ => by omega⟩⟩
  exact lp2_q _ 0 (Nat.lt_succ_self _) (by omega) (fun c h1_q h2_q => by omega)
