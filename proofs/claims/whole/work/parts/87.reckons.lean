theorem ned_1 {st : List Int} (h : 1 ≤ st.length) : ∃ v r, st = v :: r := by
  cases st with
  | nil => exact absurd h (by decide)
  | cons v r => exact ⟨v, r, rfl⟩
theorem ned_2 {st : List Int} (h : 2 ≤ st.length) : ∃ y x r, st = y :: x :: r := by
  obtain ⟨v, r, rfl⟩ := ned_1 (st := st) (by omega)
  obtain ⟨x, r2, rfl⟩ := ned_1 (st := r) (by have : r.length + 1 ≥ 2 := h; omega)
  exact ⟨v, x, r2, rfl⟩
theorem en_q {q v : Int} (h : okC1 (q, v)) : (q = 0 ∧ 0 ≤ v ∧ v ≤ 9999 ∧ enS (q, v) = v) ∨ (q = 30 ∧ enS (q, v) = 1) ∨ ((1 ≤ q ∧ q ≤ 7) ∧ enS (q, v) = -q) ∨ (q = 43 ∧ enS (q, v) = -8) ∨ (q = 44 ∧ enS (q, v) = -9) ∨ ((31 ≤ q ∧ q ≤ 42) ∧ enS (q, v) = 21 - q) := by
  unfold okC1 at h
  unfold enS
  dsimp only at h ⊢
  rcases h with h | h | h | h
  · exact Or.inl ⟨h.1, h.2.1, h.2.2, if_pos h.1⟩
  · exact Or.inr (Or.inr (Or.inl ⟨h, by rw [if_neg (by omega), if_neg (by omega), if_pos (by omega)]⟩))
  · exact Or.inr (Or.inl ⟨h, by rw [if_neg (by omega), if_pos h]⟩)
  · by_cases h1 : q = 43
    · exact Or.inr (Or.inr (Or.inr (Or.inl ⟨h1, by rw [if_neg (by omega), if_neg (by omega), if_neg (by omega), if_pos h1]⟩)))
    · by_cases h2 : q = 44
      · exact Or.inr (Or.inr (Or.inr (Or.inr (Or.inl ⟨h2, by rw [if_neg (by omega), if_neg (by omega), if_neg (by omega), if_neg h1, if_pos h2]⟩))))
      · exact Or.inr (Or.inr (Or.inr (Or.inr (Or.inr ⟨by omega, by rw [if_neg (by omega), if_neg (by omega), if_neg (by omega), if_neg h1, if_neg h2]⟩))))
set_option maxHeartbeats 4000000 in
set_option maxRecDepth 20000 in
theorem c_M_reckons {Γ : zv_M} {L : Int} {σ : zv_H} {b w i0 len : Int} {s E : Int → Int} (hb : σ 289 13 = b) (hb1 : b = 0 ∨ b = 1) (hw : w = 0 ∨ w = 1) (hi0 : 0 ≤ i0 ∧ i0 + len ≤ 1600) (hlen : 0 < len) (hf1 : σ 302 (2 * b + w) = i0) (hf2 : σ 303 (2 * b + w) = i0 + len) (hf3 : ∀ i, 0 ≤ i → i < len → okC1 (σ 304 (1600 * b + i0 + i), σ 305 (1600 * b + i0 + i)) ∧ enS (σ 304 (1600 * b + i0 + i), σ 305 (1600 * b + i0 + i)) = s i) (hok : ∀ j : Nat, (j : Int) < len → okS (s j) (crun E s j)) (hc1 : (crun E s len.toNat).length = 1) (hcr : crok E s len.toNat) (hE : ∀ q, 1 ≤ q → q ≤ 7 → σ 328 q = E (-q))  : zC Γ m_M_reckons 2 0 0 (GM L) [zR 289, zI w] σ (zPL (GM L) (fun z σ' => z = (crun E s len.toNat).headD 0 ∧ ∀ x k, x ≠ 327 → σ' x k = σ x k)) := by
  refine zC_of (ls0 := [_, _, _, _, _]) zm_M_reckons (by decide) rfl (Nat.le_of_ble_eq_true rfl) ?_
  generalize hQ : (zPL (GM L) (fun z σ' => z = (crun E s len.toNat).headD 0 ∧ ∀ x k, x ≠ 327 → σ' x k = σ x k)) = Q
  refine ziconst (k := 0) rfl (by decide) ?_
  refine zistore_n (k := 1) (ls' := [_, _, _, _, _]) rfl (Nat.le_of_ble_eq_true rfl) rfl ?_
  refine zsipush (k := 2) rfl rfl ?_
  refine zaload_n (k := 3) rfl rfl ?_
  refine zgI 13 (k := 4) rfl ob_289 fl_12_51 rfl fx_289_13 ?_
  rw [hb]
  refine zimulB (k := 5) rfl (by omega) ?_
  refine zaload_n (k := 6) rfl rfl ?_
  refine zgF 25 (k := 7) rfl ob_289 fl_12_87 rfl fx_289_25 ?_
  refine ziconst (k := 8) rfl (by decide) ?_
  refine zaload_n (k := 9) rfl rfl ?_
  refine zgI 13 (k := 10) rfl ob_289 fl_12_51 rfl fx_289_13 ?_
  rw [hb]
  refine zimulB (k := 11) rfl (by omega) ?_
  refine ziload_n (k := 12) rfl rfl ?_
  refine ziaddB (k := 13) rfl (by omega) ?_
  refine ziaload (k := 14) rfl ar_302 ⟨by omega, by omega⟩ ?_
  rw [hf1]
  refine ziaddB (k := 15) rfl (by omega) ?_
  refine zistore_n (k := 16) (ls' := [_, _, _, _, _]) rfl (Nat.le_of_ble_eq_true rfl) rfl ?_
  have lp25 : ∀ (g : Nat) (j : Nat) (σ1 : zv_H), (len.toNat - j) < g → ((j : Int) ≤ len) → (∀ x k, x ≠ 327 → σ1 x k = σ x k) → (srr σ1 327 (crun E s j)) → zV Γ m_M_reckons 2 0 0 Q (GM L) (0, 0) 25 [some (zR 289), some (zI w), some (zI ((crun E s j).length : Int)), some (zI (1600 * b + i0 + j)), none] [] σ1 := by
    intro g
    induction g with
    | zero => intro j σ1 hg; exact absurd hg (Nat.not_lt_zero _)
    | succ g ih25 =>
      intro j σ1 hg hj h1 h0
      have hlt : (j : Int) ≤ len := hj
      have c2 := hcr.2.1 j (by omega)
      have hb : σ1 289 13 = b := by rw [h1 289 13 (by omega)]; exact hb
      generalize hst : crun E s j = st at c2 h0 ⊢
      obtain ⟨cl, cg⟩ := c2
      refine ziload_n (k := 17) rfl rfl ?_
      refine zsipush (k := 18) rfl rfl ?_
      skip
      refine zaload_n (k := 19) rfl rfl ?_
      refine zgI 13 (k := 20) rfl ob_289 fl_12_51 rfl fx_289_13 ?_
      rw [hb]
      refine zimulB (k := 21) rfl (by omega) ?_
      refine zaload_n (k := 22) rfl rfl ?_
      refine zgF 26 (k := 23) rfl ob_289 fl_12_90 rfl fx_289_26 ?_
      refine ziconst (k := 24) rfl (by decide) ?_
      refine zaload_n (k := 25) rfl rfl ?_
      refine zgI 13 (k := 26) rfl ob_289 fl_12_51 rfl fx_289_13 ?_
      rw [hb]
      refine zimulB (k := 27) rfl (by omega) ?_
      refine ziload_n (k := 28) rfl rfl ?_
      refine ziaddB (k := 29) rfl (by omega) ?_
      refine ziaload (k := 30) rfl ar_303 ⟨by omega, by omega⟩ ?_
      rw [h1 303 (2 * b + w) (by omega), hf2]
      refine ziaddB (k := 31) rfl (by omega) ?_
      refine zicmp_ge (k := 32) rfl rfl (fun c1 => ?_) (fun c1 => ?_)
      · skip
        refine zaload_n (k := 135) rfl rfl ?_
        refine zgF 60 (k := 136) rfl ob_289 fl_12_195 rfl fx_289_60 ?_
        have hjl : j = len.toNat := by omega
        obtain ⟨v, r, rfl⟩ := ned_1 (st := st) (by have := hc1; rw [← hjl, hst] at this; rw [this]; decide)
        have hr0 : r.length + 1 = 1 := by have := hc1; rw [← hjl, hst] at this; exact this
        have e0 : σ1 327 0 = v := by have e1 : σ1 327 ((r.length : Nat) : Int) = v := h0.1
                                     rw [show ((r.length : Nat) : Int) = 0 by omega] at e1; exact e1
        refine ziconst (k := 137) rfl (by decide) ?_
        refine zlaload (k := 138) rfl ar_327 ⟨by omega, by omega⟩ ?_
        refine zlreturn (k := 139) rfl rfl rfl ?_
        rw [← hQ]
        refine ⟨rfl, _, rfl, ?_, h1⟩
        rw [← hjl, hst, show (v :: r).headD 0 = v from rfl]
        exact e0
      · skip
        refine zaload_n (k := 33) rfl rfl ?_
        refine zgF 27 (k := 34) rfl ob_289 fl_12_93 rfl fx_289_27 ?_
        refine ziload_n (k := 35) rfl rfl ?_
        refine ziaload (k := 36) rfl ar_304 ⟨by omega, by omega⟩ ?_
        rw [h1 304 (1600 * b + i0 + j) (by omega)]
        have q3 := hf3 j (by omega) (by omega)
        have q4 := en_q q3.1
        rw [q3.2] at q4
        have ok1 := hok j (by omega)
        rw [hst] at ok1
        have n1 := ok1.1
        generalize σ 304 (1600 * b + i0 + j) = q at q3 q4 ⊢
        refine zistore (k := 37) (ls' := [_, _, _, _, _]) rfl (Nat.le_of_ble_eq_true rfl) rfl ?_
        refine ziload (k := 38) rfl rfl ?_
        refine zbipush (k := 39) rfl rfl ?_
        refine zicmp_gt (k := 40) rfl rfl (fun c2 => ?_) (fun c2 => ?_)
        · skip
          refine ziload (k := 65) rfl rfl ?_
          refine zbipush (k := 66) rfl rfl ?_
          refine zicmp_ne (k := 67) rfl rfl (fun c3 => ?_) (fun c3 => ?_)
          · skip
            refine ziload (k := 83) rfl rfl ?_
            refine zbipush (k := 84) rfl rfl ?_
            refine zicmp_ne (k := 85) rfl rfl (fun c4 => ?_) (fun c4 => ?_)
            · skip
              have hsb : s j = 21 - q := by omega
              obtain ⟨y0, x0, r, rfl⟩ := ned_2 (st := st) (by rw [show ned (s j) = 2 by (unfold ned; rw [if_neg (by omega), if_neg (by omega), if_neg (by omega)])] at n1; exact n1)
              have hyb := cg y0 List.mem_cons_self
              have hxb := cg x0 (List.mem_cons_of_mem _ List.mem_cons_self)
              rw [show (((y0 :: x0 :: r).length : Nat) : Int) = (r.length : Int) + 2 by show ((r.length + 1 + 1 : Nat) : Int) = _; omega]
              have clr : r.length + 1 + 1 ≤ 64 := cl
              have hl41 : 41 ≤ q → (x0 = 0 ∨ x0 = 1) ∧ (y0 = 0 ∨ y0 = 1) := fun h41 => by
                obtain ⟨y1, x1, r1, e, e1, e2⟩ := ok1.2.2.2.2 (by omega)
                cases e
                exact ⟨e2, e1⟩
              refine ziincB (k := 114) (ls' := [_, _, _, _, _]) rfl rfl (by decide) (by omega) rfl ?_
              rw [show (r.length : Int) + 2 + -1 = r.length + 1 by omega]
              refine zaload_n (k := 115) rfl rfl ?_
              refine zgF 60 (k := 116) rfl ob_289 fl_12_195 rfl fx_289_60 ?_
              refine ziload_n (k := 117) rfl rfl ?_
              refine ziconst (k := 118) rfl (by decide) ?_
              refine zisubB (k := 119) rfl (by omega) ?_
              rw [show (r.length : Int) + 1 - 1 = r.length by omega]
              refine ziload (k := 120) rfl rfl ?_
              refine zaload_n (k := 121) rfl rfl ?_
              refine zgF 60 (k := 122) rfl ob_289 fl_12_195 rfl fx_289_60 ?_
              refine ziload_n (k := 123) rfl rfl ?_
              refine ziconst (k := 124) rfl (by decide) ?_
              refine zisubB (k := 125) rfl (by omega) ?_
              rw [show (r.length : Int) + 1 - 1 = r.length by omega]
              refine zlaload (k := 126) rfl ar_327 ⟨by omega, by omega⟩ ?_
              rw [h0.2.1]
              refine zaload_n (k := 127) rfl rfl ?_
              refine zgF 60 (k := 128) rfl ob_289 fl_12_195 rfl fx_289_60 ?_
              refine ziload_n (k := 129) rfl rfl ?_
              refine zlaload (k := 130) rfl ar_327 ⟨by omega, by omega⟩ ?_
              rw [show σ1 327 ((r.length : Int) + 1) = y0 from h0.1]
              refine zfS1 (k := 131) rfl (c_M_two (by omega) hxb hyb hl41) fm_M_two lk_12_435 rfl rfl (Nat.le_of_ble_eq_true rfl) (by decide) ⟨by decide, by decide⟩ ?_
              refine zlastore (k := 132) rfl ar_327 ⟨by omega, by omega⟩ (by omega) ?_
              refine ziincB (k := 133) (ls' := [_, _, _, _, _]) rfl rfl (by decide) (by omega) rfl ?_
              refine zgoto (k := 134) rfl rfl ?_
              refine zforget (ls' := [_, _, _, _, _]) 4 rfl ?_
              have es : crun E s (j + 1) = evs E (s j) (crun E s j) := rfl
              rw [hst] at es
              have fr2 : ∀ (k v : Int), ∀ x i, x ≠ 327 → zup σ1 327 k v x i = σ x i := fun k v x i hx => by rw [zup_n (by omega)]; exact h1 x i hx
              have e2 : evs E (s j) (y0 :: x0 :: r) = max (-1000000) (min 1000000 (jn (21 - q) x0 y0)) :: r := by unfold evs; rw [if_neg (by omega), if_neg (by omega), if_neg (by omega), if_neg (by omega), hsb]
              rw [e2] at es
              have rr := ih25 (j + 1) _ (by omega) (by omega) (fr2 _ _) (by rw [es]; exact ⟨zup_s _ _ _ _, srr_up (Int.le_refl _) h0.2.2⟩)
              rw [es, show (((max (-1000000) (min 1000000 (jn (21 - q) x0 y0)) :: r).length : Nat) : Int) = (r.length : Int) + 1 from rfl, show 1600 * b + i0 + ((j + 1 : Nat) : Int) = 1600 * b + i0 + j + 1 by omega] at rr
              exact rr
            · skip
              have hs9 : s j = -9 := by omega
              obtain ⟨u, t, v, r, rfl, hv01⟩ := ok1.2.2.2.1 hs9
              rw [show (((u :: t :: v :: r).length : Nat) : Int) = (r.length : Int) + 3 by show ((r.length + 1 + 1 + 1 : Nat) : Int) = _; omega]
              have clr : r.length + 1 + 1 + 1 ≤ 64 := cl
              refine ziincB (k := 86) (ls' := [_, _, _, _, _]) rfl rfl (by decide) (by omega) rfl ?_
              rw [show (r.length : Int) + 3 + -2 = r.length + 1 by omega]
              refine zaload_n (k := 87) rfl rfl ?_
              refine zgF 60 (k := 88) rfl ob_289 fl_12_195 rfl fx_289_60 ?_
              refine ziload_n (k := 89) rfl rfl ?_
              refine ziconst (k := 90) rfl (by decide) ?_
              refine zisubB (k := 91) rfl (by omega) ?_
              rw [show (r.length : Int) + 1 - 1 = r.length by omega]
              refine zaload_n (k := 92) rfl rfl ?_
              refine zgF 60 (k := 93) rfl ob_289 fl_12_195 rfl fx_289_60 ?_
              refine ziload_n (k := 94) rfl rfl ?_
              refine ziconst (k := 95) rfl (by decide) ?_
              refine zisubB (k := 96) rfl (by omega) ?_
              rw [show (r.length : Int) + 1 - 1 = r.length by omega]
              refine zlaload (k := 97) rfl ar_327 ⟨by omega, by omega⟩ ?_
              rw [h0.2.2.1]
              refine zlconst (k := 98) (z := 1) rfl rfl ?_
              refine zlcmp (k := 99) rfl ?_
              refine zif_ne (k := 100) rfl rfl (fun c5 => ?_) (fun c5 => ?_)
              · skip
                refine zaload_n (k := 106) rfl rfl ?_
                refine zgF 60 (k := 107) rfl ob_289 fl_12_195 rfl fx_289_60 ?_
                refine ziload_n (k := 108) rfl rfl ?_
                refine ziconst (k := 109) rfl (by decide) ?_
                refine ziaddB (k := 110) rfl (by omega) ?_
                rw [show (r.length : Int) + 1 + 1 = (r.length : Int) + 2 by omega]
                refine zlaload (k := 111) rfl ar_327 ⟨by omega, by omega⟩ ?_
                try rw [show σ1 327 ((r.length : Int) + 2) = u from h0.1]
                refine zlastore (k := 112) rfl ar_327 ⟨by omega, by omega⟩ (by omega) ?_
                refine zgoto (k := 113) rfl rfl ?_
                refine ziincB (k := 133) (ls' := [_, _, _, _, _]) rfl rfl (by decide) (by omega) rfl ?_
                refine zgoto (k := 134) rfl rfl ?_
                refine zforget (ls' := [_, _, _, _, _]) 4 rfl ?_
                have es : crun E s (j + 1) = evs E (s j) (crun E s j) := rfl
                rw [hst] at es
                have fr2 : ∀ (k v : Int), ∀ x i, x ≠ 327 → zup σ1 327 k v x i = σ x i := fun k v x i hx => by rw [zup_n (by omega)]; exact h1 x i hx
                have e2 : evs E (s j) (u :: t :: v :: r) = u :: r := by
                  rw [hs9]
                  show (if v ≠ 0 then t else u) :: r = _
                  simp only [ne_eq, zcc2] at *
                  first | (rw [if_pos (by omega)]; done) | (rw [if_neg (by omega)]; done)
                rw [e2] at es
                have rr := ih25 (j + 1) _ (by omega) (by omega) (fr2 _ _) (by rw [es]; exact ⟨zup_s _ _ _ _, srr_up (Int.le_refl _) h0.2.2.2⟩)
                rw [es, show (((u :: r).length : Nat) : Int) = (r.length : Int) + 1 from rfl, show 1600 * b + i0 + ((j + 1 : Nat) : Int) = 1600 * b + i0 + j + 1 by omega] at rr
                exact rr
              · skip
                refine zaload_n (k := 101) rfl rfl ?_
                refine zgF 60 (k := 102) rfl ob_289 fl_12_195 rfl fx_289_60 ?_
                refine ziload_n (k := 103) rfl rfl ?_
                refine zlaload (k := 104) rfl ar_327 ⟨by omega, by omega⟩ ?_
                rw [show σ1 327 ((r.length : Int) + 1) = t from h0.2.1]
                refine zgoto (k := 105) rfl rfl ?_
                try rw [show σ1 327 ((r.length : Int) + 2) = u from h0.1]
                refine zlastore (k := 112) rfl ar_327 ⟨by omega, by omega⟩ (by omega) ?_
                refine zgoto (k := 113) rfl rfl ?_
                refine ziincB (k := 133) (ls' := [_, _, _, _, _]) rfl rfl (by decide) (by omega) rfl ?_
                refine zgoto (k := 134) rfl rfl ?_
                refine zforget (ls' := [_, _, _, _, _]) 4 rfl ?_
                have es : crun E s (j + 1) = evs E (s j) (crun E s j) := rfl
                rw [hst] at es
                have fr2 : ∀ (k v : Int), ∀ x i, x ≠ 327 → zup σ1 327 k v x i = σ x i := fun k v x i hx => by rw [zup_n (by omega)]; exact h1 x i hx
                have e2 : evs E (s j) (u :: t :: v :: r) = t :: r := by
                  rw [hs9]
                  show (if v ≠ 0 then t else u) :: r = _
                  simp only [ne_eq, zcc2] at *
                  first | (rw [if_pos (by omega)]; done) | (rw [if_neg (by omega)]; done)
                rw [e2] at es
                have rr := ih25 (j + 1) _ (by omega) (by omega) (fr2 _ _) (by rw [es]; exact ⟨zup_s _ _ _ _, srr_up (Int.le_refl _) h0.2.2.2⟩)
                rw [es, show (((t :: r).length : Nat) : Int) = (r.length : Int) + 1 from rfl, show 1600 * b + i0 + ((j + 1 : Nat) : Int) = 1600 * b + i0 + j + 1 by omega] at rr
                exact rr
          · skip
            have hs8 : s j = -8 := by omega
            obtain ⟨v, r, rfl⟩ := ned_1 (st := st) (by rw [hs8] at n1; exact n1)
            have hvb := cg v List.mem_cons_self
            rw [show (((v :: r).length : Nat) : Int) = (r.length : Int) + 1 from rfl]
            have clr : r.length + 1 ≤ 64 := cl
            refine zaload_n (k := 68) rfl rfl ?_
            refine zgF 60 (k := 69) rfl ob_289 fl_12_195 rfl fx_289_60 ?_
            refine ziload_n (k := 70) rfl rfl ?_
            refine ziconst (k := 71) rfl (by decide) ?_
            refine zisubB (k := 72) rfl (by omega) ?_
            rw [show (r.length : Int) + 1 - 1 = r.length by omega]
            refine zlconst (k := 73) (z := 1) rfl rfl ?_
            refine zaload_n (k := 74) rfl rfl ?_
            refine zgF 60 (k := 75) rfl ob_289 fl_12_195 rfl fx_289_60 ?_
            refine ziload_n (k := 76) rfl rfl ?_
            refine ziconst (k := 77) rfl (by decide) ?_
            refine zisubB (k := 78) rfl (by omega) ?_
            rw [show (r.length : Int) + 1 - 1 = r.length by omega]
            refine zlaload (k := 79) rfl ar_327 ⟨by omega, by omega⟩ ?_
            rw [h0.1]
            refine zlsubB (k := 80) rfl (by omega) ?_
            refine zlastore (k := 81) rfl ar_327 ⟨by omega, by omega⟩ (by omega) ?_
            refine zgoto (k := 82) rfl rfl ?_
            refine ziincB (k := 133) (ls' := [_, _, _, _, _]) rfl rfl (by decide) (by omega) rfl ?_
            refine zgoto (k := 134) rfl rfl ?_
            refine zforget (ls' := [_, _, _, _, _]) 4 rfl ?_
            have es : crun E s (j + 1) = evs E (s j) (crun E s j) := rfl
            rw [hst] at es
            have fr2 : ∀ (k v : Int), ∀ x i, x ≠ 327 → zup σ1 327 k v x i = σ x i := fun k v x i hx => by rw [zup_n (by omega)]; exact h1 x i hx
            have e2 : evs E (s j) (v :: r) = (1 - v) :: r := by rw [hs8]; rfl
            rw [e2] at es
            have rr := ih25 (j + 1) _ (by omega) (by omega) (fr2 _ _) (by rw [es]; exact ⟨zup_s _ _ _ _, srr_up (Int.le_refl _) h0.2⟩)
            rw [es, show ((((1 - v) :: r).length : Nat) : Int) = (r.length : Int) + 1 from rfl, show 1600 * b + i0 + ((j + 1 : Nat) : Int) = 1600 * b + i0 + j + 1 by omega] at rr
            exact rr
        · skip
          refine zaload_n (k := 41) rfl rfl ?_
          refine zgF 60 (k := 42) rfl ob_289 fl_12_195 rfl fx_289_60 ?_
          refine ziload_n (k := 43) rfl rfl ?_
          refine ziload (k := 44) rfl rfl ?_
          refine zif_ne (k := 45) rfl rfl (fun c6 => ?_) (fun c6 => ?_)
          · skip
            refine ziload (k := 52) rfl rfl ?_
            refine zbipush (k := 53) rfl rfl ?_
            refine zicmp_ne (k := 54) rfl rfl (fun c7 => ?_) (fun c7 => ?_)
            · skip
              refine zaload_n (k := 57) rfl rfl ?_
              refine zgF 61 (k := 58) rfl ob_289 fl_12_198 rfl fx_289_61 ?_
              refine ziload (k := 59) rfl rfl ?_
              refine ziaload (k := 60) rfl ar_328 ⟨by omega, by omega⟩ ?_
              rw [h1 328 q (by omega), hE q (by omega) (by omega)]
              refine zi2l (k := 61) rfl ?_
              refine zlastore (k := 62) rfl ar_327 ⟨by omega, by omega⟩ (by omega) ?_
              refine ziincB (k := 63) (ls' := [_, _, _, _, _]) rfl rfl (by decide) (by omega) rfl ?_
              refine zgoto (k := 64) rfl rfl ?_
              refine ziincB (k := 133) (ls' := [_, _, _, _, _]) rfl rfl (by decide) (by omega) rfl ?_
              refine zgoto (k := 134) rfl rfl ?_
              refine zforget (ls' := [_, _, _, _, _]) 4 rfl ?_
              have es : crun E s (j + 1) = evs E (s j) (crun E s j) := rfl
              rw [hst] at es
              have fr2 : ∀ (k v : Int), ∀ x i, x ≠ 327 → zup σ1 327 k v x i = σ x i := fun k v x i hx => by rw [zup_n (by omega)]; exact h1 x i hx
              have e2 : evs E (s j) st = E (-q) :: st := by unfold evs; rw [if_neg (by omega), if_pos (by omega), show s j = -q by omega]
              rw [e2] at es
              have rr := ih25 (j + 1) _ (by omega) (by omega) (fr2 _ _) (by rw [es]; exact ⟨zup_s _ _ _ _, srr_up (Int.le_refl _) h0⟩)
              rw [es, show (((E (-q) :: st).length : Nat) : Int) = (st.length : Int) + 1 from rfl, show 1600 * b + i0 + ((j + 1 : Nat) : Int) = 1600 * b + i0 + j + 1 by omega] at rr
              exact rr
            · skip
              refine zlconst (k := 55) (z := 1) rfl rfl ?_
              refine zgoto (k := 56) rfl rfl ?_
              refine zlastore (k := 62) rfl ar_327 ⟨by omega, by omega⟩ (by omega) ?_
              refine ziincB (k := 63) (ls' := [_, _, _, _, _]) rfl rfl (by decide) (by omega) rfl ?_
              refine zgoto (k := 64) rfl rfl ?_
              refine ziincB (k := 133) (ls' := [_, _, _, _, _]) rfl rfl (by decide) (by omega) rfl ?_
              refine zgoto (k := 134) rfl rfl ?_
              refine zforget (ls' := [_, _, _, _, _]) 4 rfl ?_
              have es : crun E s (j + 1) = evs E (s j) (crun E s j) := rfl
              rw [hst] at es
              have fr2 : ∀ (k v : Int), ∀ x i, x ≠ 327 → zup σ1 327 k v x i = σ x i := fun k v x i hx => by rw [zup_n (by omega)]; exact h1 x i hx
              have e2 : evs E (s j) st = 1 :: st := by unfold evs; rw [if_pos (by omega), show s j = 1 by omega]
              rw [e2] at es
              have rr := ih25 (j + 1) _ (by omega) (by omega) (fr2 _ _) (by rw [es]; exact ⟨zup_s _ _ _ _, srr_up (Int.le_refl _) h0⟩)
              rw [es, show (((1 :: st).length : Nat) : Int) = (st.length : Int) + 1 from rfl, show 1600 * b + i0 + ((j + 1 : Nat) : Int) = 1600 * b + i0 + j + 1 by omega] at rr
              exact rr
          · skip
            refine zaload_n (k := 46) rfl rfl ?_
            refine zgF 28 (k := 47) rfl ob_289 fl_12_96 rfl fx_289_28 ?_
            refine ziload_n (k := 48) rfl rfl ?_
            refine ziaload (k := 49) rfl ar_305 ⟨by omega, by omega⟩ ?_
            rw [h1 305 (1600 * b + i0 + j) (by omega)]
            refine zi2l (k := 50) rfl ?_
            refine zgoto (k := 51) rfl rfl ?_
            refine zlastore (k := 62) rfl ar_327 ⟨by omega, by omega⟩ (by omega) ?_
            refine ziincB (k := 63) (ls' := [_, _, _, _, _]) rfl rfl (by decide) (by omega) rfl ?_
            refine zgoto (k := 64) rfl rfl ?_
            refine ziincB (k := 133) (ls' := [_, _, _, _, _]) rfl rfl (by decide) (by omega) rfl ?_
            refine zgoto (k := 134) rfl rfl ?_
            refine zforget (ls' := [_, _, _, _, _]) 4 rfl ?_
            have es : crun E s (j + 1) = evs E (s j) (crun E s j) := rfl
            rw [hst] at es
            have fr2 : ∀ (k v : Int), ∀ x i, x ≠ 327 → zup σ1 327 k v x i = σ x i := fun k v x i hx => by rw [zup_n (by omega)]; exact h1 x i hx
            have e2 : evs E (s j) st = σ 305 (1600 * b + i0 + j) :: st := by unfold evs; rw [if_pos (by omega), show s j = σ 305 (1600 * b + i0 + j) by omega]
            rw [e2] at es
            have rr := ih25 (j + 1) _ (by omega) (by omega) (fr2 _ _) (by rw [es]; exact ⟨zup_s _ _ _ _, srr_up (Int.le_refl _) h0⟩)
            rw [es, show (((σ 305 (1600 * b + i0 + j) :: st).length : Nat) : Int) = (st.length : Int) + 1 from rfl, show 1600 * b + i0 + ((j + 1 : Nat) : Int) = 1600 * b + i0 + j + 1 by omega] at rr
            exact rr
  have rr := lp25 (len.toNat + 1) 0 _ (by omega) (by omega) (fun _ _ _ => rfl) trivial
  rw [show 1600 * b + i0 + ((0 : Nat) : Int) = 1600 * b + i0 by omega] at rr
  exact rr
