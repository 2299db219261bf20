/-- the most liking of the other COUNTIES, as least lure must reach it -/
def lurF (Wm S : zv_H) (m c : Int) : Nat → Int
  | 0 => -1000000
  | t + 1 => if (t : Int) ≠ S 4 m ∧ (t : Int) ≠ c ∧ dstF Wm (S 4 m) t ≠ -1 then max (lurF Wm S m c t) (if (t : Int) < c then likF Wm S m t (S 2 t) + 1 else likF Wm S m t (S 2 t)) else lurF Wm S m c t
def lurP (Wm S : zv_H) (m c z : Int) : Prop :=
  (z = -1 ∧ ∀ q, 0 ≤ q → q ≤ 999 → likF Wm S m c q < lurF Wm S m c (Wm 0 1).toNat) ∨ (0 ≤ z ∧ z ≤ 999 ∧ lurF Wm S m c (Wm 0 1).toNat ≤ likF Wm S m c z ∧ ∀ q, 0 ≤ q → q < z → likF Wm S m c q < lurF Wm S m c (Wm 0 1).toNat)
theorem lik_b {Wm S : zv_H} {m c p : Int} (hW : WI Wm) (hS : SI (Wm 0 1) (Wm 0 3) S) (hm : 0 ≤ m ∧ m < Wm 0 3) (hc : 0 ≤ c ∧ c < Wm 0 1) (hp : 0 ≤ p ∧ p ≤ 999) : -1000000 ≤ likF Wm S m c p ∧ likF Wm S m c p ≤ 1000000 := by
  by_cases h : 0 < Wm 10 1
  · rw [likF_1 h]
    have q := (hW.2.2.2.2.2.2.2.2.1.2.2 h (envF S m c p (dstF Wm (S 4 m) c)) (env_b hS hm hc hp (dst_b hW _ _)))
    have q1 := q.1.2.1 (Wm 10 1).toNat (Nat.le_refl _)
    have q2 := q.1.2.2
    generalize crun (envF S m c p (dstF Wm (S 4 m) c)) (Wm 11) (Wm 10 1).toNat = l at q1 q2
    cases l with
    | nil => exact absurd q2 (by decide)
    | cons v r => exact q1.2 v List.mem_cons_self
  · rw [likF_0 h]; omega
theorem lurF_b {Wm S : zv_H} {m c : Int} (hW : WI Wm) (hS : SI (Wm 0 1) (Wm 0 3) S) (hm : 0 ≤ m ∧ m < Wm 0 3) : ∀ n : Nat, (n : Int) ≤ Wm 0 1 → -1000000 ≤ lurF Wm S m c n ∧ lurF Wm S m c n ≤ 1000001
  | 0, _ => ⟨Int.le_refl _, by show (-1000000 : Int) ≤ _; omega⟩
  | t + 1, h => by
    have ih := lurF_b (c := c) hW hS hm t (by omega)
    have b := hS.2.2.2.1 t (by omega) (by omega)
    have l := lik_b hW hS hm (c := t) (p := S 2 t) ⟨by omega, by omega⟩ b.2.1
    rw [show lurF Wm S m c (t + 1) = if (t : Int) ≠ S 4 m ∧ (t : Int) ≠ c ∧ dstF Wm (S 4 m) t ≠ -1 then max (lurF Wm S m c t) (if (t : Int) < c then likF Wm S m t (S 2 t) + 1 else likF Wm S m t (S 2 t)) else lurF Wm S m c t from rfl]
    generalize likF Wm S m t (S 2 t) = lk at l ⊢
    (repeat' split) <;> omega
set_option maxHeartbeats 4000000 in
set_option maxRecDepth 20000 in
theorem c_March_leastLure {Γ : zv_M} {L : Int} {a w m c : Int} {σ0 σ S Wm : zv_H} (ha : a ∈ stL) (hw : w ∈ wrL) (h0 : stp σ0 σ a S) (hW : vw 12 σ0 w = Wm) (hSI : SI (Wm 0 1) (Wm 0 3) S) (hWI : WI Wm) (hm : 0 ≤ m ∧ m < Wm 0 3) (hc : 0 ≤ c ∧ c < Wm 0 1) : zC Γ m_March_leastLure 4 0 0 (GM L) [zR 55, zR w, zR a, zI m, zI c] σ (zPI (GM L) (fun z σ' => lurP Wm S m c z ∧ stp σ0 σ' a S)) := by
  refine zC_of (ls0 := [_, _, _, _, _, _, _, _, _, _, _]) zm_March_leastLure (by decide) rfl (Nat.le_of_ble_eq_true rfl) ?_
  generalize hQ : (zPI (GM L) (fun z σ' => lurP Wm S m c z ∧ stp σ0 σ' a S)) = Q
  have hSI2 := hSI
  have hWI2 := hWI
  obtain ⟨b0, b11, b12, bc, bm, bl, br⟩ := hSI2
  obtain ⟨w1, w2, w3, w4, w5, w6, w7, w8, w9, w10⟩ := hWI2
  have b_m := bm m hm.1 hm.2
  have b_c := bc (S 4 m) b_m.1.1 b_m.1.2
  refine zaload_n (k := 0) rfl rfl ?_
  refine zgF 4 (k := 1) rfl (st_ob ha) fl_3_65 rfl (st_fx_4 ha) ?_
  refine ziload_n (k := 2) rfl rfl ?_
  refine zfS1 (k := 3) rfl (c_NT_at (st_ar_4 ha)) fm_NT_at lk_3_30 rfl rfl (Nat.le_of_ble_eq_true rfl) (by decide) ⟨by decide, by decide⟩ ?_
  rw [zat_in (by omega)]
  try rw [stp_f h0 (by omega)]
  try rw [stp_0 h0]
  repeat rw [zup_n (by omega)]
  refine zistore (k := 4) (ls' := [_, _, _, _, _, _, _, _, _, _, _]) rfl (Nat.le_of_ble_eq_true rfl) rfl ?_
  refine zldc2 (k := 5) (z := -1000000) rfl kc_3_148 rfl ?_
  refine zlstore (k := 6) (ls' := [_, _, _, _, _, _, _, _, _, _, _]) rfl (Nat.le_of_ble_eq_true rfl) rfl ?_
  refine ziconst (k := 7) rfl (by decide) ?_
  refine zistore (k := 8) (ls' := [_, _, _, _, _, _, _, _, _, _, _]) rfl (Nat.le_of_ble_eq_true rfl) rfl ?_
  have lp18 : ∀ (g : Nat) (j : Nat) (σ1 : zv_H), ((Wm 0 1).toNat - j) < g → ((j : Int) ≤ Wm 0 1) → (stp σ0 σ1 a S) → zV Γ m_March_leastLure 4 0 0 Q (GM L) (0, 0) 18 [some (zR 55), some (zR w), some (zR a), some (zI m), some (zI c), some (zI (S 4 m)), some (zL (lurF Wm S m c j)), none, some (zI j), none, none] [] σ1 := by
    intro g
    induction g with
    | zero => intro j σ1 hg; exact absurd hg (Nat.not_lt_zero _)
    | succ g ih18 =>
      intro j σ1 hg hj h0
      have lb := lurF_b (c := c) hWI hSI hm j hj
      refine ziload (k := 9) rfl rfl ?_
      refine zaload_n (k := 10) rfl rfl ?_
      refine zgI 1 (k := 11) rfl (wr_ob hw) fl_3_95 rfl (wr_fx_1 hw) ?_
      try rw [stp_f h0 (by omega)]
      try rw [stp_0 h0]
      repeat rw [zup_n (by omega)]
      try rw [st_e0 ((stp_w h0 ha hw).trans hW)]
      refine zicmp_ge (k := 12) rfl rfl (fun c1 => ?_) (fun c1 => ?_)
      · skip
        rw [show j = (Wm 0 1).toNat by omega]
        refine ziconst (k := 49) rfl (by decide) ?_
        refine zistore (k := 50) (ls' := [_, _, _, _, _, _, _, _, _, _, _]) rfl (Nat.le_of_ble_eq_true rfl) rfl ?_
        have lp105 : ∀ (g : Nat) (n : Nat) (σ2 : zv_H), (1000 - n) < g → (n ≤ 1000) → (∀ q : Int, 0 ≤ q → q < n → likF Wm S m c q < lurF Wm S m c (Wm 0 1).toNat) → (stp σ0 σ2 a S) → zV Γ m_March_leastLure 4 0 0 Q (GM L) (0, 0) 105 [some (zR 55), some (zR w), some (zR a), some (zI m), some (zI c), some (zI (S 4 m)), some (zL (lurF Wm S m c (Wm 0 1).toNat)), none, some (zI n), none, none] [] σ2 := by
          intro g
          induction g with
          | zero => intro n σ2 hg; exact absurd hg (Nat.not_lt_zero _)
          | succ g ih105 =>
            intro n σ2 hg hn hq h0
            refine ziload (k := 51) rfl rfl ?_
            refine zsipush (k := 52) rfl rfl ?_
            refine zicmp_gt (k := 53) rfl rfl (fun c2 => ?_) (fun c2 => ?_)
            · skip
              refine ziconst (k := 68) rfl (by decide) ?_
              refine zireturn (k := 69) rfl rfl rfl ?_
              rw [← hQ]
              exact ⟨rfl, _, rfl, Or.inl ⟨rfl, fun q h1 h2 => hq q h1 (by omega)⟩, h0⟩
            · skip
              refine zaload_n (k := 54) rfl rfl ?_
              refine zaload_n (k := 55) rfl rfl ?_
              refine zaload_n (k := 56) rfl rfl ?_
              refine ziload_n (k := 57) rfl rfl ?_
              refine ziload (k := 58) rfl rfl ?_
              refine ziload (k := 59) rfl rfl ?_
              refine zpVL (k := 60) rfl (c_March_liking ha hw h0 hW hSI hWI hm hc (by omega)) fm_March_liking lk_3_141 rfl rfl ob_55 ⟨_, rfl, rfl⟩ (Nat.le_of_ble_eq_true rfl) (by decide) ⟨by decide, by decide⟩ (fun z σ3 h2 => ?_)
              clear h0
              have h0 := h2.2
              rw [h2.1]
              refine zlload (k := 61) rfl rfl ?_
              refine zlcmp (k := 62) rfl ?_
              refine zif_lt (k := 63) rfl rfl (fun c3 => ?_) (fun c3 => ?_)
              · skip
                refine ziincB (k := 66) (ls' := [_, _, _, _, _, _, _, _, _, _, _]) rfl rfl (by decide) (by omega) rfl ?_
                refine zgoto (k := 67) rfl rfl ?_
                refine ih105 (n + 1) _ (by omega) (by omega) (fun q h1 h2 => ?_) h0
                by_cases e : q = n
                · rw [e]
                  simp only [zcc1] at *
                  assumption
                · exact hq q h1 (by omega)
              · skip
                refine ziload (k := 64) rfl rfl ?_
                refine zireturn (k := 65) rfl rfl rfl ?_
                rw [← hQ]
                exact ⟨rfl, _, rfl, Or.inr ⟨by omega, by omega, by simp only [zcc3] at *; assumption, hq⟩, h0⟩
        exact lp105 _ 0 _ (Nat.lt_succ_self _) (by omega) (fun q h1 h2 => by omega) h0
      · skip
        refine ziload (k := 13) rfl rfl ?_
        refine ziload (k := 14) rfl rfl ?_
        refine zicmp_eq (k := 15) rfl rfl (fun c4 => ?_) (fun c4 => ?_)
        · skip
          refine ziincB (k := 47) (ls' := [_, _, _, _, _, _, _, _, _, _, _]) rfl rfl (by decide) (by omega) rfl ?_
          refine zgoto (k := 48) rfl rfl ?_
          first
          | (have en : lurF Wm S m c (j + 1) = lurF Wm S m c j := if_neg (fun q => by
               have q1 := q.1
               have q2 := q.2.1
               have q3 := q.2.2
               omega)
             have r := ih18 (j + 1) _ (by omega) (by omega) h0
             rw [en] at r
             exact r)
          | (have en : lurF Wm S m c (j + 1) = max (lurF Wm S m c j) (likF Wm S m j (S 2 j) + 1) := by
               show (if _ then _ else _) = _
               rw [if_pos ⟨by omega, by omega, by omega⟩, if_pos (by omega)]
             have r := ih18 (j + 1) _ (by omega) (by omega) h0
             rw [en] at r
             exact r)
          | (have en : lurF Wm S m c (j + 1) = max (lurF Wm S m c j) (likF Wm S m j (S 2 j)) := by
               show (if _ then _ else _) = _
               rw [if_pos ⟨by omega, by omega, by omega⟩, if_neg (by omega)]
             have r := ih18 (j + 1) _ (by omega) (by omega) h0
             rw [en] at r
             exact r)
        · skip
          refine ziload (k := 16) rfl rfl ?_
          refine ziload (k := 17) rfl rfl ?_
          refine zicmp_eq (k := 18) rfl rfl (fun c5 => ?_) (fun c5 => ?_)
          · skip
            refine ziincB (k := 47) (ls' := [_, _, _, _, _, _, _, _, _, _, _]) rfl rfl (by decide) (by omega) rfl ?_
            refine zgoto (k := 48) rfl rfl ?_
            first
            | (have en : lurF Wm S m c (j + 1) = lurF Wm S m c j := if_neg (fun q => by
                 have q1 := q.1
                 have q2 := q.2.1
                 have q3 := q.2.2
                 omega)
               have r := ih18 (j + 1) _ (by omega) (by omega) h0
               rw [en] at r
               exact r)
            | (have en : lurF Wm S m c (j + 1) = max (lurF Wm S m c j) (likF Wm S m j (S 2 j) + 1) := by
                 show (if _ then _ else _) = _
                 rw [if_pos ⟨by omega, by omega, by omega⟩, if_pos (by omega)]
               have r := ih18 (j + 1) _ (by omega) (by omega) h0
               rw [en] at r
               exact r)
            | (have en : lurF Wm S m c (j + 1) = max (lurF Wm S m c j) (likF Wm S m j (S 2 j)) := by
                 show (if _ then _ else _) = _
                 rw [if_pos ⟨by omega, by omega, by omega⟩, if_neg (by omega)]
               have r := ih18 (j + 1) _ (by omega) (by omega) h0
               rw [en] at r
               exact r)
          · skip
            refine zaload_n (k := 19) rfl rfl ?_
            refine ziload (k := 20) rfl rfl ?_
            refine ziload (k := 21) rfl rfl ?_
            refine zfV1 (k := 22) rfl (k_dist hw ((stp_w h0 ha hw).trans hW) (by omega)) fm_War_distance lk_3_98 rfl rfl (wr_ob hw) ⟨_, rfl, rfl⟩ (Nat.le_of_ble_eq_true rfl) (by decide) ⟨by decide, by decide⟩ ?_
            refine ziconst (k := 23) rfl (by decide) ?_
            refine zicmp_eq (k := 24) rfl rfl (fun c6 => ?_) (fun c6 => ?_)
            · skip
              refine ziincB (k := 47) (ls' := [_, _, _, _, _, _, _, _, _, _, _]) rfl rfl (by decide) (by omega) rfl ?_
              refine zgoto (k := 48) rfl rfl ?_
              first
              | (have en : lurF Wm S m c (j + 1) = lurF Wm S m c j := if_neg (fun q => by
                   have q1 := q.1
                   have q2 := q.2.1
                   have q3 := q.2.2
                   omega)
                 have r := ih18 (j + 1) _ (by omega) (by omega) h0
                 rw [en] at r
                 exact r)
              | (have en : lurF Wm S m c (j + 1) = max (lurF Wm S m c j) (likF Wm S m j (S 2 j) + 1) := by
                   show (if _ then _ else _) = _
                   rw [if_pos ⟨by omega, by omega, by omega⟩, if_pos (by omega)]
                 have r := ih18 (j + 1) _ (by omega) (by omega) h0
                 rw [en] at r
                 exact r)
              | (have en : lurF Wm S m c (j + 1) = max (lurF Wm S m c j) (likF Wm S m j (S 2 j)) := by
                   show (if _ then _ else _) = _
                   rw [if_pos ⟨by omega, by omega, by omega⟩, if_neg (by omega)]
                 have r := ih18 (j + 1) _ (by omega) (by omega) h0
                 rw [en] at r
                 exact r)
            · skip
              have bcj := bc (j : Int) (by omega) (by omega)
              have lbj := lik_b hWI hSI hm (c := j) (p := S 2 j) ⟨by omega, by omega⟩ bcj.2.1
              refine zaload_n (k := 25) rfl rfl ?_
              refine zaload_n (k := 26) rfl rfl ?_
              refine zaload_n (k := 27) rfl rfl ?_
              refine ziload_n (k := 28) rfl rfl ?_
              refine ziload (k := 29) rfl rfl ?_
              refine zaload_n (k := 30) rfl rfl ?_
              refine zgF 2 (k := 31) rfl (st_ob ha) fl_3_85 rfl (st_fx_2 ha) ?_
              refine ziload (k := 32) rfl rfl ?_
              refine zfS1 (k := 33) rfl (c_NT_at (st_ar_2 ha)) fm_NT_at lk_3_30 rfl rfl (Nat.le_of_ble_eq_true rfl) (by decide) ⟨by decide, by decide⟩ ?_
              rw [zat_in (by omega)]
              try rw [stp_f h0 (by omega)]
              try rw [stp_0 h0]
              repeat rw [zup_n (by omega)]
              refine zpVL (k := 34) rfl (c_March_liking ha hw h0 hW hSI hWI hm (by omega) (by omega)) fm_March_liking lk_3_141 rfl rfl ob_55 ⟨_, rfl, rfl⟩ (Nat.le_of_ble_eq_true rfl) (by decide) ⟨by decide, by decide⟩ (fun z σ2 h2 => ?_)
              clear h0
              have h0 := h2.2
              rw [h2.1]
              refine zlstore (k := 35) (ls' := [_, _, _, _, _, _, _, _, _, _, _]) rfl (Nat.le_of_ble_eq_true rfl) rfl ?_
              refine zlload (k := 36) rfl rfl ?_
              refine ziload (k := 37) rfl rfl ?_
              refine ziload (k := 38) rfl rfl ?_
              refine zicmp_ge (k := 39) rfl rfl (fun c7 => ?_) (fun c7 => ?_)
              · skip
                refine zlload (k := 44) rfl rfl ?_
                refine zfS1 (k := 45) rfl c_J_maxL fm_J_maxL lk_3_150 rfl rfl (Nat.le_of_ble_eq_true rfl) (by decide) ⟨by decide, by decide⟩ ?_
                refine zlstore (k := 46) (ls' := [_, _, _, _, _, _, _, _, _, _, _]) rfl (Nat.le_of_ble_eq_true rfl) rfl ?_
                refine ziincB (k := 47) (ls' := [_, _, _, _, _, _, _, _, _, _, _]) rfl rfl (by decide) (by omega) rfl ?_
                refine zgoto (k := 48) rfl rfl ?_
                refine zforget (ls' := [_, _, _, _, _, _, _, _, _, _, _]) 9 rfl ?_
                first
                | (have en : lurF Wm S m c (j + 1) = lurF Wm S m c j := if_neg (fun q => by
                     have q1 := q.1
                     have q2 := q.2.1
                     have q3 := q.2.2
                     omega)
                   have r := ih18 (j + 1) _ (by omega) (by omega) h0
                   rw [en] at r
                   exact r)
                | (have en : lurF Wm S m c (j + 1) = max (lurF Wm S m c j) (likF Wm S m j (S 2 j) + 1) := by
                     show (if _ then _ else _) = _
                     rw [if_pos ⟨by omega, by omega, by omega⟩, if_pos (by omega)]
                   have r := ih18 (j + 1) _ (by omega) (by omega) h0
                   rw [en] at r
                   exact r)
                | (have en : lurF Wm S m c (j + 1) = max (lurF Wm S m c j) (likF Wm S m j (S 2 j)) := by
                     show (if _ then _ else _) = _
                     rw [if_pos ⟨by omega, by omega, by omega⟩, if_neg (by omega)]
                   have r := ih18 (j + 1) _ (by omega) (by omega) h0
                   rw [en] at r
                   exact r)
              · skip
                refine zlload (k := 40) rfl rfl ?_
                refine zlconst (k := 41) (z := 1) rfl rfl ?_
                refine zladdB (k := 42) rfl (by omega) ?_
                refine zgoto (k := 43) rfl rfl ?_
                refine zfS1 (k := 45) rfl c_J_maxL fm_J_maxL lk_3_150 rfl rfl (Nat.le_of_ble_eq_true rfl) (by decide) ⟨by decide, by decide⟩ ?_
                refine zlstore (k := 46) (ls' := [_, _, _, _, _, _, _, _, _, _, _]) rfl (Nat.le_of_ble_eq_true rfl) rfl ?_
                refine ziincB (k := 47) (ls' := [_, _, _, _, _, _, _, _, _, _, _]) rfl rfl (by decide) (by omega) rfl ?_
                refine zgoto (k := 48) rfl rfl ?_
                refine zforget (ls' := [_, _, _, _, _, _, _, _, _, _, _]) 9 rfl ?_
                first
                | (have en : lurF Wm S m c (j + 1) = lurF Wm S m c j := if_neg (fun q => by
                     have q1 := q.1
                     have q2 := q.2.1
                     have q3 := q.2.2
                     omega)
                   have r := ih18 (j + 1) _ (by omega) (by omega) h0
                   rw [en] at r
                   exact r)
                | (have en : lurF Wm S m c (j + 1) = max (lurF Wm S m c j) (likF Wm S m j (S 2 j) + 1) := by
                     show (if _ then _ else _) = _
                     rw [if_pos ⟨by omega, by omega, by omega⟩, if_pos (by omega)]
                   have r := ih18 (j + 1) _ (by omega) (by omega) h0
                   rw [en] at r
                   exact r)
                | (have en : lurF Wm S m c (j + 1) = max (lurF Wm S m c j) (likF Wm S m j (S 2 j)) := by
                     show (if _ then _ else _) = _
                     rw [if_pos ⟨by omega, by omega, by omega⟩, if_neg (by omega)]
                   have r := ih18 (j + 1) _ (by omega) (by omega) h0
                   rw [en] at r
                   exact r)
  exact lp18 _ 0 _ (Nat.lt_succ_self _) (by omega) h0
