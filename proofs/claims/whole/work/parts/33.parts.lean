/-- MARKS part every two MEN of another look -/
def prtP (Wm : zv_H) (k : Int) : Prop := ∀ i j : Int, 0 ≤ i → i < j → j < Wm 0 3 → zxor (Wm 7 i) (Wm 7 j) = 0 ∨ zand (zxor (Wm 7 i) (Wm 7 j)) k ≠ 0
set_option maxHeartbeats 4000000 in
set_option maxRecDepth 20000 in
theorem c_War_parts {Γ : zv_M} {L : Int} {w k : Int} {σ Wm : zv_H} (hw : w ∈ wrL) (hW : vw 12 σ w = Wm) (w3 : 0 ≤ Wm 0 3 ∧ Wm 0 3 ≤ 6) : zC Γ m_War_parts 1 0 0 (GM L) [zR w, zI k] σ (zPI (GM L) (fun z σ' => σ' = σ ∧ ((z = 1 ∧ prtP Wm k) ∨ (z = 0 ∧ ¬ prtP Wm k)))) := by
  refine zC_of (ls0 := [_, _, _, _, _]) zm_War_parts (by decide) rfl (Nat.le_of_ble_eq_true rfl) ?_
  generalize hQ : (zPI (GM L) (fun z σ' => σ' = σ ∧ ((z = 1 ∧ prtP Wm k) ∨ (z = 0 ∧ ¬ prtP Wm k)))) = Q
  have ew0 : σ w = Wm 0 := st_e0 hW
  have ew7 : σ (w + 7) = Wm 7 := st_e (f := 7) hW (by omega)
  have ew12 : σ (w + 12) = Wm 12 := st_e (f := 12) hW (by omega)
  refine ziconst (k := 0) rfl (by decide) ?_
  refine zistore_n (k := 1) (ls' := [_, _, _, _, _]) rfl (Nat.le_of_ble_eq_true rfl) rfl ?_
  have lp2 : ∀ (g : Nat) (i : Nat), ((Wm 0 3).toNat - i) < g → ((i : Int) ≤ Wm 0 3) → (∀ x j : Int, 0 ≤ x → x < j → j < Wm 0 3 → x < i → zxor (Wm 7 x) (Wm 7 j) = 0 ∨ zand (zxor (Wm 7 x) (Wm 7 j)) k ≠ 0) → zV Γ m_War_parts 1 0 0 Q (GM L) (0, 0) 2 [some (zR w), some (zI k), some (zI i), none, none] [] σ := by
    intro g
    induction g with
    | zero => intro i hg; exact absurd hg (Nat.not_lt_zero _)
    | succ g ih2 =>
      intro i hg hi hp
      refine ziload_n (k := 2) rfl rfl ?_
      refine zaload_n (k := 3) rfl rfl ?_
      refine zgI 3 (k := 4) rfl (wr_ob hw) fl_10_59 rfl (wr_fx_3 hw) ?_
      try simp only [ew0, ew7, ew12]
      refine zicmp_ge (k := 5) rfl rfl (fun c1 => ?_) (fun c1 => ?_)
      · skip
        refine ziconst (k := 36) rfl (by decide) ?_
        refine zzreturn (k := 37) rfl rfl (by first | exact Or.inl rfl | exact Or.inr rfl | omega) rfl ?_
        rw [← hQ]
        exact ⟨rfl, _, rfl, rfl, Or.inl ⟨rfl, fun x j h1 h2 h3 => hp x j h1 h2 h3 (by omega)⟩⟩
      · skip
        refine ziload_n (k := 6) rfl rfl ?_
        refine ziconst (k := 7) rfl (by decide) ?_
        refine ziaddB (k := 8) rfl (by omega) ?_
        refine zistore_n (k := 9) (ls' := [_, _, _, _, _]) rfl (Nat.le_of_ble_eq_true rfl) rfl ?_
        have lp14 : ∀ (g : Nat) (j : Nat), ((Wm 0 3).toNat - j) < g → ((i : Int) + 1 + j ≤ Wm 0 3) → (∀ y : Int, (i : Int) < y → y < i + 1 + j → y < Wm 0 3 → zxor (Wm 7 i) (Wm 7 y) = 0 ∨ zand (zxor (Wm 7 i) (Wm 7 y)) k ≠ 0) → zV Γ m_War_parts 1 0 0 Q (GM L) (0, 0) 14 [some (zR w), some (zI k), some (zI i), some (zI (i + 1 + j)), none] [] σ := by
          intro g
          induction g with
          | zero => intro j hg; exact absurd hg (Nat.not_lt_zero _)
          | succ g ih14 =>
            intro j hg hj hq
            refine ziload_n (k := 10) rfl rfl ?_
            refine zaload_n (k := 11) rfl rfl ?_
            refine zgI 3 (k := 12) rfl (wr_ob hw) fl_10_59 rfl (wr_fx_3 hw) ?_
            try simp only [ew0, ew7, ew12]
            refine zicmp_ge (k := 13) rfl rfl (fun c2 => ?_) (fun c2 => ?_)
            · skip
              refine ziincB (k := 34) (ls' := [_, _, _, _, _]) rfl rfl (by decide) (by omega) rfl ?_
              refine zgoto (k := 35) rfl rfl ?_
              refine zforget (ls' := [_, _, _, _, _]) 3 rfl ?_
              refine ih2 (i + 1) (by omega) (by omega) (fun x y h1 h2 h3 h4 => ?_)
              by_cases e : x = i
              · rw [e]; exact hq y (by omega) (by omega) h3
              · exact hp x y h1 h2 h3 (by omega)
            · skip
              refine zaload_n (k := 14) rfl rfl ?_
              refine zgF 11 (k := 15) rfl (wr_ob hw) fl_10_34 rfl (wr_fx_11 hw) ?_
              refine ziload_n (k := 16) rfl rfl ?_
              refine zfS1 (k := 17) rfl (c_NT_at (wr_ar_7 hw)) fm_NT_at lk_10_74 rfl rfl (Nat.le_of_ble_eq_true rfl) (by decide) ⟨by decide, by decide⟩ ?_
              rw [zat_in (by omega)]
              try simp only [ew0, ew7, ew12]
              refine zaload_n (k := 18) rfl rfl ?_
              refine zgF 11 (k := 19) rfl (wr_ob hw) fl_10_34 rfl (wr_fx_11 hw) ?_
              refine ziload_n (k := 20) rfl rfl ?_
              refine zfS1 (k := 21) rfl (c_NT_at (wr_ar_7 hw)) fm_NT_at lk_10_74 rfl rfl (Nat.le_of_ble_eq_true rfl) (by decide) ⟨by decide, by decide⟩ ?_
              rw [zat_in (by omega)]
              try simp only [ew0, ew7, ew12]
              refine zixor (k := 22) rfl ?_
              refine zistore (k := 23) (ls' := [_, _, _, _, _]) rfl (Nat.le_of_ble_eq_true rfl) rfl ?_
              refine ziload (k := 24) rfl rfl ?_
              refine zif_eq (k := 25) rfl rfl (fun c3 => ?_) (fun c3 => ?_)
              · skip
                refine ziincB (k := 32) (ls' := [_, _, _, _, _]) rfl rfl (by decide) (by omega) rfl ?_
                refine zgoto (k := 33) rfl rfl ?_
                refine zforget (ls' := [_, _, _, _, _]) 4 rfl ?_
                have r := ih14 (j + 1) (by omega) (by omega) (fun y h1 h2 h3 => by
                  by_cases e : y = i + 1 + j
                  · rw [e]
                    first | exact Or.inl (by assumption) | exact Or.inr (by assumption)
                  · exact hq y h1 (by omega) h3)
                rw [show (i : Int) + 1 + ((j + 1 : Nat) : Int) = i + 1 + j + 1 by omega] at r
                exact r
              · skip
                refine ziload (k := 26) rfl rfl ?_
                refine ziload_n (k := 27) rfl rfl ?_
                refine ziand (k := 28) rfl ?_
                refine zif_ne (k := 29) rfl rfl (fun c4 => ?_) (fun c4 => ?_)
                · skip
                  refine ziincB (k := 32) (ls' := [_, _, _, _, _]) rfl rfl (by decide) (by omega) rfl ?_
                  refine zgoto (k := 33) rfl rfl ?_
                  refine zforget (ls' := [_, _, _, _, _]) 4 rfl ?_
                  have r := ih14 (j + 1) (by omega) (by omega) (fun y h1 h2 h3 => by
                    by_cases e : y = i + 1 + j
                    · rw [e]
                      first | exact Or.inl (by assumption) | exact Or.inr (by assumption)
                    · exact hq y h1 (by omega) h3)
                  rw [show (i : Int) + 1 + ((j + 1 : Nat) : Int) = i + 1 + j + 1 by omega] at r
                  exact r
                · skip
                  refine ziconst (k := 30) rfl (by decide) ?_
                  refine zzreturn (k := 31) rfl rfl (by first | exact Or.inl rfl | exact Or.inr rfl | omega) rfl ?_
                  rw [← hQ]
                  refine ⟨rfl, _, rfl, rfl, Or.inr ⟨rfl, fun q => ?_⟩⟩
                  rcases q i (i + 1 + j) (by omega) (by omega) (by omega) with h1 | h1
                  · exact absurd h1 (by assumption)
                  · exact absurd (by assumption) h1
        have r := lp14 ((Wm 0 3).toNat + 1) 0 (by omega) (by omega) (fun y h1 h2 h3 => by omega)
        rw [show (i : Int) + 1 + ((0 : Nat) : Int) = i + 1 by omega] at r
        exact r
  exact lp2 _ 0 (Nat.lt_succ_self _) (by omega) (fun x j h1 h2 h3 h4 => by omega)
