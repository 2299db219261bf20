/-- COUNTY c has a post of b no farther than n -/
def nerC (Wm : zv_H) (b n c : Int) (u : Int) : Prop := ∃ p : Int, 0 ≤ p ∧ p < u ∧ (zshr b p % 2 = 1 ∧ dstF Wm p c ≠ -1 ∧ dstF Wm p c ≤ n)
def nerP (Wm : zv_H) (b n : Int) : Prop := ∀ c : Int, 0 ≤ c → c < Wm 0 1 → nerC Wm b n c (Wm 0 1)
theorem ner_s {Wm : zv_H} {b n c u : Int} (h0 : 0 ≤ u) : nerC Wm b n c (u + 1) ↔ nerC Wm b n c u ∨ (zshr b u % 2 = 1 ∧ dstF Wm u c ≠ -1 ∧ dstF Wm u c ≤ n) := by
  constructor
  · rintro ⟨p, h1, h2, h3⟩
    by_cases e : p = u
    · rw [e] at h3; exact Or.inr h3
    · exact Or.inl ⟨p, h1, by omega, h3⟩
  · rintro (⟨p, h1, h2, h3⟩ | h)
    · exact ⟨p, h1, by omega, h3⟩
    · exact ⟨u, h0, by omega, h⟩
set_option maxHeartbeats 4000000 in
set_option maxRecDepth 20000 in
theorem c_War_isNear {Γ : zv_M} {L : Int} {w b n : Int} {σ Wm : zv_H} (hw : w ∈ wrL) (hW : vw 12 σ w = Wm) (w1 : 0 ≤ Wm 0 1 ∧ Wm 0 1 ≤ 7) : zC Γ m_War_isNear 2 0 0 (GM L) [zR w, zI b, zI n] σ (zPI (GM L) (fun z σ' => σ' = σ ∧ ((z = 1 ∧ nerP Wm b n) ∨ (z = 0 ∧ ¬ nerP Wm b n)))) := by
  refine zC_of (ls0 := [_, _, _, _, _, _, _]) zm_War_isNear (by decide) rfl (Nat.le_of_ble_eq_true rfl) ?_
  generalize hQ : (zPI (GM L) (fun z σ' => σ' = σ ∧ ((z = 1 ∧ nerP Wm b n) ∨ (z = 0 ∧ ¬ nerP Wm b n)))) = Q
  have ew0 : σ w = Wm 0 := st_e0 hW
  have ew7 : σ (w + 7) = Wm 7 := st_e (f := 7) hW (by omega)
  have ew12 : σ (w + 12) = Wm 12 := st_e (f := 12) hW (by omega)
  refine ziconst (k := 0) rfl (by decide) ?_
  refine zistore_n (k := 1) (ls' := [_, _, _, _, _, _, _]) rfl (Nat.le_of_ble_eq_true rfl) rfl ?_
  have lp2 : ∀ (g : Nat) (i : Nat), ((Wm 0 1).toNat - i) < g → ((i : Int) ≤ Wm 0 1) → (∀ c : Int, 0 ≤ c → c < i → nerC Wm b n c (Wm 0 1)) → zV Γ m_War_isNear 2 0 0 Q (GM L) (0, 0) 2 [some (zR w), some (zI b), some (zI n), some (zI i), none, none, none] [] σ := by
    intro g
    induction g with
    | zero => intro i hg; exact absurd hg (Nat.not_lt_zero _)
    | succ g ih2 =>
      intro i hg hi hp
      refine ziload_n (k := 2) rfl rfl ?_
      refine zaload_n (k := 3) rfl rfl ?_
      refine zgI 1 (k := 4) rfl (wr_ob hw) fl_10_53 rfl (wr_fx_1 hw) ?_
      try simp only [ew0, ew7, ew12]
      refine zicmp_ge (k := 5) rfl rfl (fun c1 => ?_) (fun c1 => ?_)
      · skip
        refine ziconst (k := 46) rfl (by decide) ?_
        refine zzreturn (k := 47) rfl rfl (by first | exact Or.inl rfl | exact Or.inr rfl | omega) rfl ?_
        rw [← hQ]
        exact ⟨rfl, _, rfl, rfl, Or.inl ⟨rfl, fun c h1 h2 => hp c h1 (by omega)⟩⟩
      · skip
        refine ziconst (k := 6) rfl (by decide) ?_
        refine zistore (k := 7) (ls' := [_, _, _, _, _, _, _]) rfl (Nat.le_of_ble_eq_true rfl) rfl ?_
        refine ziconst (k := 8) rfl (by decide) ?_
        refine zistore (k := 9) (ls' := [_, _, _, _, _, _, _]) rfl (Nat.le_of_ble_eq_true rfl) rfl ?_
        have lp16 : ∀ (g : Nat) (j : Nat) (v : Int), ((Wm 0 1).toNat - j) < g → ((j : Int) ≤ Wm 0 1) → ((v = 0 ∨ v = 1) ∧ ((v = 1 ∧ nerC Wm b n i j) ∨ (v = 0 ∧ ¬ nerC Wm b n i j))) → zV Γ m_War_isNear 2 0 0 Q (GM L) (0, 0) 16 [some (zR w), some (zI b), some (zI n), some (zI i), some (zI v), some (zI j), none] [] σ := by
          intro g
          induction g with
          | zero => intro j v hg; exact absurd hg (Nat.not_lt_zero _)
          | succ g ih16 =>
            intro j v hg hj hq
            refine ziload (k := 10) rfl rfl ?_
            refine zaload_n (k := 11) rfl rfl ?_
            refine zgI 1 (k := 12) rfl (wr_ob hw) fl_10_53 rfl (wr_fx_1 hw) ?_
            try simp only [ew0, ew7, ew12]
            refine zicmp_ge (k := 13) rfl rfl (fun c2 => ?_) (fun c2 => ?_)
            · skip
              refine ziload (k := 40) rfl rfl ?_
              refine zif_ne (k := 41) rfl rfl (fun c3 => ?_) (fun c3 => ?_)
              · skip
                refine ziincB (k := 44) (ls' := [_, _, _, _, _, _, _]) rfl rfl (by decide) (by omega) rfl ?_
                refine zgoto (k := 45) rfl rfl ?_
                refine zforget (ls' := [_, _, _, _, _, _, _]) 4 rfl ?_
                refine zforget (ls' := [_, _, _, _, _, _, _]) 5 rfl ?_
                refine ih2 (i + 1) (by omega) (by omega) (fun x h1 h2 => ?_)
                by_cases e : x = i
                · rw [e]
                  rcases hq.2 with q | q
                  · rw [show Wm 0 1 = (j : Int) by omega]; exact q.2
                  · exact absurd q.1 (by assumption)
                · exact hp x h1 (by omega)
              · skip
                refine ziconst (k := 42) rfl (by decide) ?_
                refine zzreturn (k := 43) rfl rfl (by first | exact Or.inl rfl | exact Or.inr rfl | omega) rfl ?_
                rw [← hQ]
                refine ⟨rfl, _, rfl, rfl, Or.inr ⟨rfl, fun q => ?_⟩⟩
                rcases hq.2 with r | r
                · omega
                · exact r.2 (by rw [show (j : Int) = Wm 0 1 by omega]; exact q i (by omega) (by omega))
            · skip
              refine zaload_n (k := 14) rfl rfl ?_
              refine ziload (k := 15) rfl rfl ?_
              refine ziload_n (k := 16) rfl rfl ?_
              refine zfV1 (k := 17) rfl (k_dist hw hW w1) fm_War_distance lk_10_86 rfl rfl (wr_ob hw) ⟨_, rfl, rfl⟩ (Nat.le_of_ble_eq_true rfl) (by decide) ⟨by decide, by decide⟩ ?_
              refine zistore (k := 18) (ls' := [_, _, _, _, _, _, _]) rfl (Nat.le_of_ble_eq_true rfl) rfl ?_
              refine ziload (k := 19) rfl rfl ?_
              refine zif_ne (k := 20) rfl rfl (fun c4 => ?_) (fun c4 => ?_)
              · skip
                refine ziconst (k := 34) rfl (by decide) ?_
                refine zgoto (k := 35) rfl rfl ?_
                refine zistore (k := 37) (ls' := [_, _, _, _, _, _, _]) rfl (Nat.le_of_ble_eq_true rfl) rfl ?_
                refine ziincB (k := 38) (ls' := [_, _, _, _, _, _, _]) rfl rfl (by decide) (by omega) rfl ?_
                refine zgoto (k := 39) rfl rfl ?_
                refine zforget (ls' := [_, _, _, _, _, _, _]) 6 rfl ?_
                refine ih16 (j + 1) _ (by omega) (by omega) ⟨by first | exact Or.inl rfl | exact Or.inr rfl, ?_⟩
                rw [show ((j + 1 : Nat) : Int) = (j : Int) + 1 from rfl, ner_s (by omega)]
                rcases hq.2 with q | q
                · first
                  | exact Or.inl ⟨rfl, Or.inl q.2⟩
                  | (exfalso; omega)
                · first
                  | exact Or.inl ⟨rfl, Or.inr ⟨by omega, by omega, by omega⟩⟩
                  | exact Or.inr ⟨rfl, fun r => by rcases r with r | r; exact q.2 r; omega⟩
                  | (exfalso; omega)
              · skip
                refine ziload_n (k := 21) rfl rfl ?_
                refine ziload (k := 22) rfl rfl ?_
                refine zishr (k := 23) rfl ?_
                refine ziconst (k := 24) rfl (by decide) ?_
                refine ziandM (k := 25) 1 rfl (by decide) rfl 2 rfl ?_
                refine ziconst (k := 26) rfl (by decide) ?_
                refine zicmp_ne (k := 27) rfl rfl (fun c5 => ?_) (fun c5 => ?_)
                · skip
                  refine ziconst (k := 36) rfl (by decide) ?_
                  refine zistore (k := 37) (ls' := [_, _, _, _, _, _, _]) rfl (Nat.le_of_ble_eq_true rfl) rfl ?_
                  refine ziincB (k := 38) (ls' := [_, _, _, _, _, _, _]) rfl rfl (by decide) (by omega) rfl ?_
                  refine zgoto (k := 39) rfl rfl ?_
                  refine zforget (ls' := [_, _, _, _, _, _, _]) 6 rfl ?_
                  refine ih16 (j + 1) _ (by omega) (by omega) ⟨by first | exact Or.inl rfl | exact Or.inr rfl, ?_⟩
                  rw [show ((j + 1 : Nat) : Int) = (j : Int) + 1 from rfl, ner_s (by omega)]
                  rcases hq.2 with q | q
                  · first
                    | exact Or.inl ⟨rfl, Or.inl q.2⟩
                    | (exfalso; omega)
                  · first
                    | exact Or.inl ⟨rfl, Or.inr ⟨by omega, by omega, by omega⟩⟩
                    | exact Or.inr ⟨rfl, fun r => by rcases r with r | r; exact q.2 r; omega⟩
                    | (exfalso; omega)
                · skip
                  refine ziload (k := 28) rfl rfl ?_
                  refine ziconst (k := 29) rfl (by decide) ?_
                  refine zicmp_eq (k := 30) rfl rfl (fun c6 => ?_) (fun c6 => ?_)
                  · skip
                    refine ziconst (k := 36) rfl (by decide) ?_
                    refine zistore (k := 37) (ls' := [_, _, _, _, _, _, _]) rfl (Nat.le_of_ble_eq_true rfl) rfl ?_
                    refine ziincB (k := 38) (ls' := [_, _, _, _, _, _, _]) rfl rfl (by decide) (by omega) rfl ?_
                    refine zgoto (k := 39) rfl rfl ?_
                    refine zforget (ls' := [_, _, _, _, _, _, _]) 6 rfl ?_
                    refine ih16 (j + 1) _ (by omega) (by omega) ⟨by first | exact Or.inl rfl | exact Or.inr rfl, ?_⟩
                    rw [show ((j + 1 : Nat) : Int) = (j : Int) + 1 from rfl, ner_s (by omega)]
                    rcases hq.2 with q | q
                    · first
                      | exact Or.inl ⟨rfl, Or.inl q.2⟩
                      | (exfalso; omega)
                    · first
                      | exact Or.inl ⟨rfl, Or.inr ⟨by omega, by omega, by omega⟩⟩
                      | exact Or.inr ⟨rfl, fun r => by rcases r with r | r; exact q.2 r; omega⟩
                      | (exfalso; omega)
                  · skip
                    refine ziload (k := 31) rfl rfl ?_
                    refine ziload_n (k := 32) rfl rfl ?_
                    refine zicmp_gt (k := 33) rfl rfl (fun c7 => ?_) (fun c7 => ?_)
                    · skip
                      refine ziconst (k := 36) rfl (by decide) ?_
                      refine zistore (k := 37) (ls' := [_, _, _, _, _, _, _]) rfl (Nat.le_of_ble_eq_true rfl) rfl ?_
                      refine ziincB (k := 38) (ls' := [_, _, _, _, _, _, _]) rfl rfl (by decide) (by omega) rfl ?_
                      refine zgoto (k := 39) rfl rfl ?_
                      refine zforget (ls' := [_, _, _, _, _, _, _]) 6 rfl ?_
                      refine ih16 (j + 1) _ (by omega) (by omega) ⟨by first | exact Or.inl rfl | exact Or.inr rfl, ?_⟩
                      rw [show ((j + 1 : Nat) : Int) = (j : Int) + 1 from rfl, ner_s (by omega)]
                      rcases hq.2 with q | q
                      · first
                        | exact Or.inl ⟨rfl, Or.inl q.2⟩
                        | (exfalso; omega)
                      · first
                        | exact Or.inl ⟨rfl, Or.inr ⟨by omega, by omega, by omega⟩⟩
                        | exact Or.inr ⟨rfl, fun r => by rcases r with r | r; exact q.2 r; omega⟩
                        | (exfalso; omega)
                    · skip
                      refine ziconst (k := 34) rfl (by decide) ?_
                      refine zgoto (k := 35) rfl rfl ?_
                      refine zistore (k := 37) (ls' := [_, _, _, _, _, _, _]) rfl (Nat.le_of_ble_eq_true rfl) rfl ?_
                      refine ziincB (k := 38) (ls' := [_, _, _, _, _, _, _]) rfl rfl (by decide) (by omega) rfl ?_
                      refine zgoto (k := 39) rfl rfl ?_
                      refine zforget (ls' := [_, _, _, _, _, _, _]) 6 rfl ?_
                      refine ih16 (j + 1) _ (by omega) (by omega) ⟨by first | exact Or.inl rfl | exact Or.inr rfl, ?_⟩
                      rw [show ((j + 1 : Nat) : Int) = (j : Int) + 1 from rfl, ner_s (by omega)]
                      rcases hq.2 with q | q
                      · first
                        | exact Or.inl ⟨rfl, Or.inl q.2⟩
                        | (exfalso; omega)
                      · first
                        | exact Or.inl ⟨rfl, Or.inr ⟨by omega, by omega, by omega⟩⟩
                        | exact Or.inr ⟨rfl, fun r => by rcases r with r | r; exact q.2 r; omega⟩
                        | (exfalso; omega)
        exact lp16 _ 0 _ (Nat.lt_succ_self _) (by omega) ⟨Or.inl rfl, Or.inr ⟨rfl, fun ⟨p, h1, h2, _⟩ => by omega⟩⟩
  exact lp2 _ 0 (Nat.lt_succ_self _) (by omega) (fun c h1 h2 => by omega)
