set_option maxHeartbeats 4000000 in
set_option maxRecDepth 20000 in
theorem c_March_goOn {Γ : zv_M} {L : Int} {a w m : Int} {σ0 σ S Wm : zv_H} (ha : a ∈ stL) (hw : w ∈ wrL) (h0 : stp σ0 σ a S) (hW : vw 12 σ0 w = Wm) (hSI : SI (Wm 0 1) (Wm 0 3) S) (hWI : WI Wm) (hm : 0 ≤ m ∧ m < Wm 0 3)  : zC Γ m_March_goOn 4 0 0 (GM L) [zR 55, zR w, zR a, zI m] σ (zP0 (GM L) (fun σ' => stp σ0 σ' a (gonF Wm S m))) := by
  refine zC_of (ls0 := [_, _, _, _, _, _, _, _, _, _, _]) zm_March_goOn (by decide) rfl (Nat.le_of_ble_eq_true rfl) ?_
  generalize hQ : (zP0 (GM L) (fun σ' => stp σ0 σ' a (gonF Wm S m))) = Q
  have hSI2 := hSI
  have hWI2 := hWI
  obtain ⟨b0, b11, b12, bc, bm, bl, br⟩ := hSI2
  obtain ⟨w1, w2, w3, w4, w5, w6, w7, w8, w9, w10⟩ := hWI2
  have b_m := bm m hm.1 hm.2
  have b_c := bc (S 4 m) b_m.1.1 b_m.1.2
  refine zaload_n (k := 0) rfl rfl ?_
  refine zgF 4 (k := 1) rfl (st_ob ha) fl_3_65 rfl (st_fx_4 ha) ?_
  refine ziload_n (k := 2) rfl rfl ?_
  refine zfS1 (k := 3) rfl (c_NT_at (st_ar_4 ha)) fm_NT_at lk_3_30 rfl rfl (Nat.le_of_ble_eq_true rfl) (by decide) ⟨by decide, by decide⟩ ?_
  rw [zat_in (by omega)]
  try rw [stp_f h0 (by omega)]
  try rw [stp_0 h0]
  repeat rw [zup_n (by omega)]
  refine zistore (k := 4) (ls' := [_, _, _, _, _, _, _, _, _, _, _]) rfl (Nat.le_of_ble_eq_true rfl) rfl ?_
  refine ziconst (k := 5) rfl (by decide) ?_
  refine zistore (k := 6) (ls' := [_, _, _, _, _, _, _, _, _, _, _]) rfl (Nat.le_of_ble_eq_true rfl) rfl ?_
  refine zlconst (k := 7) (z := 0) rfl rfl ?_
  refine zlstore (k := 8) (ls' := [_, _, _, _, _, _, _, _, _, _, _]) rfl (Nat.le_of_ble_eq_true rfl) rfl ?_
  refine ziconst (k := 9) rfl (by decide) ?_
  refine zistore (k := 10) (ls' := [_, _, _, _, _, _, _, _, _, _, _]) rfl (Nat.le_of_ble_eq_true rfl) rfl ?_
  have lp19 : ∀ (g : Nat) (j : Nat) (σ1 : zv_H), ((Wm 0 1).toNat - j) < g → ((j : Int) ≤ Wm 0 1) → (stp σ0 σ1 a S) → zV Γ m_March_goOn 4 0 0 Q (GM L) (0, 0) 19 [some (zR 55), some (zR w), some (zR a), some (zI m), some (zI (S 4 m)), some (zI (nxtL Wm S m j).1), some (zL (nxtL Wm S m j).2), none, some (zI j), none, none] [] σ1 := by
    intro g
    induction g with
    | zero => intro j σ1 hg; exact absurd hg (Nat.not_lt_zero _)
    | succ g ih19 =>
      intro j σ1 hg hj h0
      refine ziload (k := 11) rfl rfl ?_
      refine zaload_n (k := 12) rfl rfl ?_
      refine zgI 1 (k := 13) rfl (wr_ob hw) fl_3_95 rfl (wr_fx_1 hw) ?_
      try rw [stp_f h0 (by omega)]
      try rw [stp_0 h0]
      repeat rw [zup_n (by omega)]
      try rw [st_e0 ((stp_w h0 ha hw).trans hW)]
      refine zicmp_ge (k := 14) rfl rfl (fun c1 => ?_) (fun c1 => ?_)
      · skip
        have en : (nxtL Wm S m j).1 = nxtF Wm S m := by rw [show j = (Wm 0 1).toNat by omega]; rfl
        rw [en]
        refine ziload (k := 48) rfl rfl ?_
        refine ziconst (k := 49) rfl (by decide) ?_
        refine zicmp_ne (k := 50) rfl rfl (fun c2 => ?_) (fun c2 => ?_)
        · skip
          have nb := nxtF_b w1.1 (by assumption)
          refine zaload_n (k := 57) rfl rfl ?_
          refine zgF 5 (k := 58) rfl (st_ob ha) fl_3_24 rfl (st_fx_5 ha) ?_
          refine ziload_n (k := 59) rfl rfl ?_
          refine ziconst (k := 60) rfl (by decide) ?_
          refine zpS0 (k := 61) rfl (k_put (st_ar_5 ha) (by have := st_pos ha; omega) h0 (by omega) (by omega)) fm_NT_put lk_3_61 rfl rfl (Nat.le_of_ble_eq_true rfl) (by decide) ⟨by decide, by decide⟩ (fun σn hn => ?_)
          clear h0
          have h0 := hn
          clear hn
          refine zaload_n (k := 62) rfl rfl ?_
          refine zgF 6 (k := 63) rfl (st_ob ha) fl_3_55 rfl (st_fx_6 ha) ?_
          refine ziload_n (k := 64) rfl rfl ?_
          refine zaload_n (k := 65) rfl rfl ?_
          refine ziload (k := 66) rfl rfl ?_
          refine ziload (k := 67) rfl rfl ?_
          refine zfV1 (k := 68) rfl (k_dist hw ((stp_w h0 ha hw).trans hW) (by omega)) fm_War_distance lk_3_98 rfl rfl (wr_ob hw) ⟨_, rfl, rfl⟩ (Nat.le_of_ble_eq_true rfl) (by decide) ⟨by decide, by decide⟩ ?_
          refine zpS0 (k := 69) rfl (k_put (st_ar_6 ha) (by have := st_pos ha; omega) h0 (by omega) (by omega)) fm_NT_put lk_3_61 rfl rfl (Nat.le_of_ble_eq_true rfl) (by decide) ⟨by decide, by decide⟩ (fun σn hn => ?_)
          clear h0
          have h0 := hn
          clear hn
          refine zaload_n (k := 70) rfl rfl ?_
          refine zgF 4 (k := 71) rfl (st_ob ha) fl_3_65 rfl (st_fx_4 ha) ?_
          refine ziload_n (k := 72) rfl rfl ?_
          refine ziload (k := 73) rfl rfl ?_
          refine zpS0 (k := 74) rfl (k_put (st_ar_4 ha) (by have := st_pos ha; omega) h0 (by omega) (by omega)) fm_NT_put lk_3_61 rfl rfl (Nat.le_of_ble_eq_true rfl) (by decide) ⟨by decide, by decide⟩ (fun σn hn => ?_)
          clear h0
          have h0 := hn
          clear hn
          refine zreturn (k := 75) rfl rfl rfl ?_
          rw [← hQ]
          exact ⟨rfl, rfl, by unfold gonF; first | (rw [if_pos (by assumption)]; exact h0) | (rw [if_neg (by assumption)]; exact h0)⟩
        · skip
          refine zaload_n (k := 51) rfl rfl ?_
          refine zgF 5 (k := 52) rfl (st_ob ha) fl_3_24 rfl (st_fx_5 ha) ?_
          refine ziload_n (k := 53) rfl rfl ?_
          refine ziconst (k := 54) rfl (by decide) ?_
          refine zpS0 (k := 55) rfl (k_put (st_ar_5 ha) (by have := st_pos ha; omega) h0 (by omega) (by omega)) fm_NT_put lk_3_61 rfl rfl (Nat.le_of_ble_eq_true rfl) (by decide) ⟨by decide, by decide⟩ (fun σn hn => ?_)
          clear h0
          have h0 := hn
          clear hn
          refine zreturn (k := 56) rfl rfl rfl ?_
          rw [← hQ]
          exact ⟨rfl, rfl, by unfold gonF; first | (rw [if_pos (by assumption)]; exact h0) | (rw [if_neg (by assumption)]; exact h0)⟩
      · skip
        have bcj := bc (j : Int) (by omega) (by omega)
        refine ziload (k := 15) rfl rfl ?_
        refine ziload (k := 16) rfl rfl ?_
        refine zicmp_eq (k := 17) rfl rfl (fun c3 => ?_) (fun c3 => ?_)
        · skip
          refine ziincB (k := 46) (ls' := [_, _, _, _, _, _, _, _, _, _, _]) rfl rfl (by decide) (by omega) rfl ?_
          refine zgoto (k := 47) rfl rfl ?_
          first
          | (have en : nxtL Wm S m (j + 1) = nxtL Wm S m j := if_neg (fun q => by
               have q1 := q.1
               have q2 := q.2.1
               have q3 := q.2.2
               try simp only [zcc4] at *
               omega)
             have r := ih19 (j + 1) _ (by omega) (by omega) h0
             rw [en] at r
             exact r)
          | (have en : nxtL Wm S m (j + 1) = ((j : Int), likF Wm S m j (S 2 j)) := if_pos ⟨by omega, by omega, by (try simp only [zcc5] at *); omega⟩
             have r := ih19 (j + 1) _ (by omega) (by omega) h0
             rw [en] at r
             exact r)
        · skip
          refine zaload_n (k := 18) rfl rfl ?_
          refine ziload (k := 19) rfl rfl ?_
          refine ziload (k := 20) rfl rfl ?_
          refine zfV1 (k := 21) rfl (k_dist hw ((stp_w h0 ha hw).trans hW) (by omega)) fm_War_distance lk_3_98 rfl rfl (wr_ob hw) ⟨_, rfl, rfl⟩ (Nat.le_of_ble_eq_true rfl) (by decide) ⟨by decide, by decide⟩ ?_
          refine ziconst (k := 22) rfl (by decide) ?_
          refine zicmp_eq (k := 23) rfl rfl (fun c4 => ?_) (fun c4 => ?_)
          · skip
            refine ziincB (k := 46) (ls' := [_, _, _, _, _, _, _, _, _, _, _]) rfl rfl (by decide) (by omega) rfl ?_
            refine zgoto (k := 47) rfl rfl ?_
            first
            | (have en : nxtL Wm S m (j + 1) = nxtL Wm S m j := if_neg (fun q => by
                 have q1 := q.1
                 have q2 := q.2.1
                 have q3 := q.2.2
                 try simp only [zcc4] at *
                 omega)
               have r := ih19 (j + 1) _ (by omega) (by omega) h0
               rw [en] at r
               exact r)
            | (have en : nxtL Wm S m (j + 1) = ((j : Int), likF Wm S m j (S 2 j)) := if_pos ⟨by omega, by omega, by (try simp only [zcc5] at *); omega⟩
               have r := ih19 (j + 1) _ (by omega) (by omega) h0
               rw [en] at r
               exact r)
          · skip
            refine zaload_n (k := 24) rfl rfl ?_
            refine zaload_n (k := 25) rfl rfl ?_
            refine zaload_n (k := 26) rfl rfl ?_
            refine ziload_n (k := 27) rfl rfl ?_
            refine ziload (k := 28) rfl rfl ?_
            refine zaload_n (k := 29) rfl rfl ?_
            refine zgF 2 (k := 30) rfl (st_ob ha) fl_3_85 rfl (st_fx_2 ha) ?_
            refine ziload (k := 31) rfl rfl ?_
            refine zfS1 (k := 32) rfl (c_NT_at (st_ar_2 ha)) fm_NT_at lk_3_30 rfl rfl (Nat.le_of_ble_eq_true rfl) (by decide) ⟨by decide, by decide⟩ ?_
            rw [zat_in (by omega)]
            try rw [stp_f h0 (by omega)]
            try rw [stp_0 h0]
            repeat rw [zup_n (by omega)]
            refine zpVL (k := 33) rfl (c_March_liking ha hw h0 hW hSI hWI hm (by omega) (by omega)) fm_March_liking lk_3_141 rfl rfl ob_55 ⟨_, rfl, rfl⟩ (Nat.le_of_ble_eq_true rfl) (by decide) ⟨by decide, by decide⟩ (fun z σ2 h2 => ?_)
            clear h0
            have h0 := h2.2
            rw [h2.1]
            refine zlstore (k := 34) (ls' := [_, _, _, _, _, _, _, _, _, _, _]) rfl (Nat.le_of_ble_eq_true rfl) rfl ?_
            refine ziload (k := 35) rfl rfl ?_
            refine ziconst (k := 36) rfl (by decide) ?_
            refine zicmp_eq (k := 37) rfl rfl (fun c5 => ?_) (fun c5 => ?_)
            · skip
              refine ziload (k := 42) rfl rfl ?_
              refine zistore (k := 43) (ls' := [_, _, _, _, _, _, _, _, _, _, _]) rfl (Nat.le_of_ble_eq_true rfl) rfl ?_
              refine zlload (k := 44) rfl rfl ?_
              refine zlstore (k := 45) (ls' := [_, _, _, _, _, _, _, _, _, _, _]) rfl (Nat.le_of_ble_eq_true rfl) rfl ?_
              refine ziincB (k := 46) (ls' := [_, _, _, _, _, _, _, _, _, _, _]) rfl rfl (by decide) (by omega) rfl ?_
              refine zgoto (k := 47) rfl rfl ?_
              refine zforget (ls' := [_, _, _, _, _, _, _, _, _, _, _]) 9 rfl ?_
              first
              | (have en : nxtL Wm S m (j + 1) = nxtL Wm S m j := if_neg (fun q => by
                   have q1 := q.1
                   have q2 := q.2.1
                   have q3 := q.2.2
                   try simp only [zcc4] at *
                   omega)
                 have r := ih19 (j + 1) _ (by omega) (by omega) h0
                 rw [en] at r
                 exact r)
              | (have en : nxtL Wm S m (j + 1) = ((j : Int), likF Wm S m j (S 2 j)) := if_pos ⟨by omega, by omega, by (try simp only [zcc5] at *); omega⟩
                 have r := ih19 (j + 1) _ (by omega) (by omega) h0
                 rw [en] at r
                 exact r)
            · skip
              refine zlload (k := 38) rfl rfl ?_
              refine zlload (k := 39) rfl rfl ?_
              refine zlcmp (k := 40) rfl ?_
              refine zif_le (k := 41) rfl rfl (fun c6 => ?_) (fun c6 => ?_)
              · skip
                refine ziincB (k := 46) (ls' := [_, _, _, _, _, _, _, _, _, _, _]) rfl rfl (by decide) (by omega) rfl ?_
                refine zgoto (k := 47) rfl rfl ?_
                refine zforget (ls' := [_, _, _, _, _, _, _, _, _, _, _]) 9 rfl ?_
                first
                | (have en : nxtL Wm S m (j + 1) = nxtL Wm S m j := if_neg (fun q => by
                     have q1 := q.1
                     have q2 := q.2.1
                     have q3 := q.2.2
                     try simp only [zcc4] at *
                     omega)
                   have r := ih19 (j + 1) _ (by omega) (by omega) h0
                   rw [en] at r
                   exact r)
                | (have en : nxtL Wm S m (j + 1) = ((j : Int), likF Wm S m j (S 2 j)) := if_pos ⟨by omega, by omega, by (try simp only [zcc5] at *); omega⟩
                   have r := ih19 (j + 1) _ (by omega) (by omega) h0
                   rw [en] at r
                   exact r)
              · skip
                refine ziload (k := 42) rfl rfl ?_
                refine zistore (k := 43) (ls' := [_, _, _, _, _, _, _, _, _, _, _]) rfl (Nat.le_of_ble_eq_true rfl) rfl ?_
                refine zlload (k := 44) rfl rfl ?_
                refine zlstore (k := 45) (ls' := [_, _, _, _, _, _, _, _, _, _, _]) rfl (Nat.le_of_ble_eq_true rfl) rfl ?_
                refine ziincB (k := 46) (ls' := [_, _, _, _, _, _, _, _, _, _, _]) rfl rfl (by decide) (by omega) rfl ?_
                refine zgoto (k := 47) rfl rfl ?_
                refine zforget (ls' := [_, _, _, _, _, _, _, _, _, _, _]) 9 rfl ?_
                first
                | (have en : nxtL Wm S m (j + 1) = nxtL Wm S m j := if_neg (fun q => by
                     have q1 := q.1
                     have q2 := q.2.1
                     have q3 := q.2.2
                     try simp only [zcc4] at *
                     omega)
                   have r := ih19 (j + 1) _ (by omega) (by omega) h0
                   rw [en] at r
                   exact r)
                | (have en : nxtL Wm S m (j + 1) = ((j : Int), likF Wm S m j (S 2 j)) := if_pos ⟨by omega, by omega, by (try simp only [zcc5] at *); omega⟩
                   have r := ih19 (j + 1) _ (by omega) (by omega) h0
                   rw [en] at r
                   exact r)
  exact lp19 _ 0 _ (Nat.lt_succ_self _) (by omega) h0
set_option maxHeartbeats 4000000 in
set_option maxRecDepth 20000 in
theorem c_March_meet {Γ : zv_M} {L : Int} {a w m : Int} {σ0 σ S Wm : zv_H} (ha : a ∈ stL) (hw : w ∈ wrL) (h0 : stp σ0 σ a S) (hW : vw 12 σ0 w = Wm) (hSI : SI (Wm 0 1) (Wm 0 3) S) (hWI : WI Wm) (hm : 0 ≤ m ∧ m < Wm 0 3) (h5 : S 5 m = 0) : zC Γ m_March_meet 5 0 0 (GM L) [zR 55, zR w, zR a, zI m] σ (zPI (GM L) (fun z σ' => z = (metF Wm S m).2 ∧ stp σ0 σ' a (metF Wm S m).1)) := by
  refine zC_of (ls0 := [_, _, _, _, _, _]) zm_March_meet (by decide) rfl (Nat.le_of_ble_eq_true rfl) ?_
  generalize hQ : (zPI (GM L) (fun z σ' => z = (metF Wm S m).2 ∧ stp σ0 σ' a (metF Wm S m).1)) = Q
  have hSI2 := hSI
  have hWI2 := hWI
  obtain ⟨b0, b11, b12, bc, bm, bl, br⟩ := hSI2
  obtain ⟨w1, w2, w3, w4, w5, w6, w7, w8, w9, w10⟩ := hWI2
  have b_m := bm m hm.1 hm.2
  have b_c := bc (S 4 m) b_m.1.1 b_m.1.2
  refine zaload_n (k := 0) rfl rfl ?_
  refine zgF 4 (k := 1) rfl (st_ob ha) fl_3_65 rfl (st_fx_4 ha) ?_
  refine ziload_n (k := 2) rfl rfl ?_
  refine zfS1 (k := 3) rfl (c_NT_at (st_ar_4 ha)) fm_NT_at lk_3_30 rfl rfl (Nat.le_of_ble_eq_true rfl) (by decide) ⟨by decide, by decide⟩ ?_
  rw [zat_in (by omega)]
  try rw [stp_f h0 (by omega)]
  try rw [stp_0 h0]
  repeat rw [zup_n (by omega)]
  refine zistore (k := 4) (ls' := [_, _, _, _, _, _]) rfl (Nat.le_of_ble_eq_true rfl) rfl ?_
  refine zaload_n (k := 5) rfl rfl ?_
  refine zaload_n (k := 6) rfl rfl ?_
  refine ziload_n (k := 7) rfl rfl ?_
  refine ziload (k := 8) rfl rfl ?_
  refine zaload_n (k := 9) rfl rfl ?_
  refine zgI 0 (k := 10) rfl (st_ob ha) fl_3_46 rfl (st_fx_0 ha) ?_
  try rw [stp_f h0 (by omega)]
  try rw [stp_0 h0]
  repeat rw [zup_n (by omega)]
  try rw [st_e0 ((stp_w h0 ha hw).trans hW)]
  refine zfV1 (k := 11) rfl (k_known ha hw h0.1 ((stp_w h0 ha hw).trans hW) (by omega) (by omega) (by omega)) fm_State_isKnown lk_3_68 rfl rfl (st_ob ha) ⟨_, rfl, rfl⟩ (Nat.le_of_ble_eq_true rfl) (by decide) ⟨by decide, by decide⟩ ?_
  refine zif_eq (k := 12) rfl rfl (fun c1 => ?_) (fun c1 => ?_)
  · skip
    refine zaload_n (k := 25) rfl rfl ?_
    refine zgF 1 (k := 26) rfl (st_ob ha) fl_3_76 rfl (st_fx_1 ha) ?_
    refine ziload (k := 27) rfl rfl ?_
    refine zfS1 (k := 28) rfl (c_NT_at (st_ar_1 ha)) fm_NT_at lk_3_30 rfl rfl (Nat.le_of_ble_eq_true rfl) (by decide) ⟨by decide, by decide⟩ ?_
    rw [zat_in (by omega)]
    try rw [stp_f h0 (by omega)]
    try rw [stp_0 h0]
    repeat rw [zup_n (by omega)]
    refine zistore (k := 29) (ls' := [_, _, _, _, _, _]) rfl (Nat.le_of_ble_eq_true rfl) rfl ?_
    refine ziload (k := 30) rfl rfl ?_
    refine zif_ne (k := 31) rfl rfl (fun c2 => ?_) (fun c2 => ?_)
    · skip
      refine zaload_n (k := 39) rfl rfl ?_
      refine zgF 1 (k := 40) rfl (st_ob ha) fl_3_76 rfl (st_fx_1 ha) ?_
      refine ziload (k := 41) rfl rfl ?_
      refine ziload (k := 42) rfl rfl ?_
      refine ziconst (k := 43) rfl (by decide) ?_
      refine zisubB (k := 44) rfl (by omega) ?_
      refine zpS0 (k := 45) rfl (k_put (st_ar_1 ha) (by have := st_pos ha; omega) h0 (by omega) (by omega)) fm_NT_put lk_3_61 rfl rfl (Nat.le_of_ble_eq_true rfl) (by decide) ⟨by decide, by decide⟩ (fun σn hn => ?_)
      clear h0
      have h0 := hn
      clear hn
      refine zaload_n (k := 46) rfl rfl ?_
      refine zgF 8 (k := 47) rfl (st_ob ha) fl_3_82 rfl (st_fx_8 ha) ?_
      refine ziload_n (k := 48) rfl rfl ?_
      refine zsipush (k := 49) rfl rfl ?_
      refine zaload_n (k := 50) rfl rfl ?_
      refine zgF 8 (k := 51) rfl (st_ob ha) fl_3_82 rfl (st_fx_8 ha) ?_
      refine ziload_n (k := 52) rfl rfl ?_
      refine zfS1 (k := 53) rfl (c_NT_at (st_ar_8 ha)) fm_NT_at lk_3_30 rfl rfl (Nat.le_of_ble_eq_true rfl) (by decide) ⟨by decide, by decide⟩ ?_
      rw [zat_in (by omega)]
      try rw [stp_f h0 (by omega)]
      try rw [stp_0 h0]
      repeat rw [zup_n (by omega)]
      refine zaload_n (k := 54) rfl rfl ?_
      refine zgF 2 (k := 55) rfl (st_ob ha) fl_3_85 rfl (st_fx_2 ha) ?_
      refine ziload (k := 56) rfl rfl ?_
      refine zfS1 (k := 57) rfl (c_NT_at (st_ar_2 ha)) fm_NT_at lk_3_30 rfl rfl (Nat.le_of_ble_eq_true rfl) (by decide) ⟨by decide, by decide⟩ ?_
      rw [zat_in (by omega)]
      try rw [stp_f h0 (by omega)]
      try rw [stp_0 h0]
      repeat rw [zup_n (by omega)]
      refine ziaddB (k := 58) rfl (by omega) ?_
      refine zfS1 (k := 59) rfl c_J_minI fm_J_minI lk_3_49 rfl rfl (Nat.le_of_ble_eq_true rfl) (by decide) ⟨by decide, by decide⟩ ?_
      refine zpS0 (k := 60) rfl (k_put (st_ar_8 ha) (by have := st_pos ha; omega) h0 (by omega) (by omega)) fm_NT_put lk_3_61 rfl rfl (Nat.le_of_ble_eq_true rfl) (by decide) ⟨by decide, by decide⟩ (fun σn hn => ?_)
      clear h0
      have h0 := hn
      clear hn
      refine zaload_n (k := 61) rfl rfl ?_
      refine zgF 7 (k := 62) rfl (st_ob ha) fl_3_88 rfl (st_fx_7 ha) ?_
      refine ziload_n (k := 63) rfl rfl ?_
      refine zbipush (k := 64) rfl rfl ?_
      refine zaload_n (k := 65) rfl rfl ?_
      refine zgF 7 (k := 66) rfl (st_ob ha) fl_3_88 rfl (st_fx_7 ha) ?_
      refine ziload_n (k := 67) rfl rfl ?_
      refine zfS1 (k := 68) rfl (c_NT_at (st_ar_7 ha)) fm_NT_at lk_3_30 rfl rfl (Nat.le_of_ble_eq_true rfl) (by decide) ⟨by decide, by decide⟩ ?_
      rw [zat_in (by omega)]
      try rw [stp_f h0 (by omega)]
      try rw [stp_0 h0]
      repeat rw [zup_n (by omega)]
      refine ziconst (k := 69) rfl (by decide) ?_
      refine ziaddB (k := 70) rfl (by omega) ?_
      refine zfS1 (k := 71) rfl c_J_minI fm_J_minI lk_3_49 rfl rfl (Nat.le_of_ble_eq_true rfl) (by decide) ⟨by decide, by decide⟩ ?_
      refine zpS0 (k := 72) rfl (k_put (st_ar_7 ha) (by have := st_pos ha; omega) h0 (by omega) (by omega)) fm_NT_put lk_3_61 rfl rfl (Nat.le_of_ble_eq_true rfl) (by decide) ⟨by decide, by decide⟩ (fun σn hn => ?_)
      clear h0
      have h0 := hn
      clear hn
      refine zaload_n (k := 73) rfl rfl ?_
      refine zgF 5 (k := 74) rfl (st_ob ha) fl_3_24 rfl (st_fx_5 ha) ?_
      refine ziload_n (k := 75) rfl rfl ?_
      refine ziconst (k := 76) rfl (by decide) ?_
      refine zpS0 (k := 77) rfl (k_put (st_ar_5 ha) (by have := st_pos ha; omega) h0 (by omega) (by omega)) fm_NT_put lk_3_61 rfl rfl (Nat.le_of_ble_eq_true rfl) (by decide) ⟨by decide, by decide⟩ (fun σn hn => ?_)
      clear h0
      have h0 := hn
      clear hn
      refine zaload_n (k := 78) rfl rfl ?_
      refine ziload_n (k := 79) rfl rfl ?_
      refine ziload (k := 80) rfl rfl ?_
      refine ziconst (k := 81) rfl (by decide) ?_
      refine zpV0 (k := 82) rfl (k_keep ha h0 (by omega) (by omega) (by omega) (by (repeat rw [zup_n (by omega)]); omega) (by (repeat rw [zup_n (by omega)]); omega) (by (repeat rw [zup_n (by omega)]); omega)) fm_State_keep lk_3_72 rfl rfl (st_ob ha) ⟨_, rfl, rfl⟩ (Nat.le_of_ble_eq_true rfl) (by decide) ⟨by decide, by decide⟩ (fun σn hn => ?_)
      clear h0
      have h0 := hn
      clear hn
      rw [entF_n (S := S) (by repeat rw [zup_n (by omega)])] at h0
      refine ziconst (k := 83) rfl (by decide) ?_
      refine zireturn (k := 84) rfl rfl rfl ?_
      rw [← hQ]
      refine ⟨rfl, _, rfl, ?_⟩
      unfold metF
      first
      | (rw [if_pos (show knwF Wm S m (S 4 m) (S 0 0) = true from zB_t (by assumption))]; exact ⟨rfl, h0⟩)
      | (rw [if_neg (show ¬ knwF Wm S m (S 4 m) (S 0 0) = true from zB_f (by assumption)), if_pos (by assumption)]; exact ⟨rfl, h0⟩)
      | (rw [if_neg (show ¬ knwF Wm S m (S 4 m) (S 0 0) = true from zB_f (by assumption)), if_neg (by assumption)]; exact ⟨rfl, h0⟩)
    · skip
      refine zaload_n (k := 32) rfl rfl ?_
      refine zaload_n (k := 33) rfl rfl ?_
      refine zaload_n (k := 34) rfl rfl ?_
      refine ziload_n (k := 35) rfl rfl ?_
      refine zpV0 (k := 36) rfl (c_March_goOn ha hw h0 hW hSI hWI hm) fm_March_goOn lk_3_79 rfl rfl ob_55 ⟨_, rfl, rfl⟩ (Nat.le_of_ble_eq_true rfl) (by decide) ⟨by decide, by decide⟩ (fun σn hn => ?_)
      clear h0
      have h0 := hn
      clear hn
      refine ziconst (k := 37) rfl (by decide) ?_
      refine zireturn (k := 38) rfl rfl rfl ?_
      rw [← hQ]
      refine ⟨rfl, _, rfl, ?_⟩
      unfold metF
      first
      | (rw [if_pos (show knwF Wm S m (S 4 m) (S 0 0) = true from zB_t (by assumption))]; exact ⟨rfl, h0⟩)
      | (rw [if_neg (show ¬ knwF Wm S m (S 4 m) (S 0 0) = true from zB_f (by assumption)), if_pos (by assumption)]; exact ⟨rfl, h0⟩)
      | (rw [if_neg (show ¬ knwF Wm S m (S 4 m) (S 0 0) = true from zB_f (by assumption)), if_neg (by assumption)]; exact ⟨rfl, h0⟩)
  · skip
    refine zaload_n (k := 13) rfl rfl ?_
    refine zgF 5 (k := 14) rfl (st_ob ha) fl_3_24 rfl (st_fx_5 ha) ?_
    refine ziload_n (k := 15) rfl rfl ?_
    refine ziconst (k := 16) rfl (by decide) ?_
    refine zpS0 (k := 17) rfl (k_put (st_ar_5 ha) (by have := st_pos ha; omega) h0 (by omega) (by omega)) fm_NT_put lk_3_61 rfl rfl (Nat.le_of_ble_eq_true rfl) (by decide) ⟨by decide, by decide⟩ (fun σn hn => ?_)
    clear h0
    have h0 := hn
    clear hn
    refine zaload_n (k := 18) rfl rfl ?_
    refine ziload_n (k := 19) rfl rfl ?_
    refine ziload (k := 20) rfl rfl ?_
    refine ziconst (k := 21) rfl (by decide) ?_
    refine zpV0 (k := 22) rfl (k_keep ha h0 (by omega) (by omega) (by omega) (by (repeat rw [zup_n (by omega)]); omega) (by (repeat rw [zup_n (by omega)]); omega) (by (repeat rw [zup_n (by omega)]); omega)) fm_State_keep lk_3_72 rfl rfl (st_ob ha) ⟨_, rfl, rfl⟩ (Nat.le_of_ble_eq_true rfl) (by decide) ⟨by decide, by decide⟩ (fun σn hn => ?_)
    clear h0
    have h0 := hn
    clear hn
    rw [entF_n (S := S) (by repeat rw [zup_n (by omega)])] at h0
    refine ziconst (k := 23) rfl (by decide) ?_
    refine zireturn (k := 24) rfl rfl rfl ?_
    rw [← hQ]
    refine ⟨rfl, _, rfl, ?_⟩
    unfold metF
    first
    | (rw [if_pos (show knwF Wm S m (S 4 m) (S 0 0) = true from zB_t (by assumption))]; exact ⟨rfl, h0⟩)
    | (rw [if_neg (show ¬ knwF Wm S m (S 4 m) (S 0 0) = true from zB_f (by assumption)), if_pos (by assumption)]; exact ⟨rfl, h0⟩)
    | (rw [if_neg (show ¬ knwF Wm S m (S 4 m) (S 0 0) = true from zB_f (by assumption)), if_neg (by assumption)]; exact ⟨rfl, h0⟩)
set_option maxHeartbeats 4000000 in
set_option maxRecDepth 20000 in
theorem c_March_ride {Γ : zv_M} {L : Int} {a w m : Int} {σ0 σ S Wm : zv_H} (ha : a ∈ stL) (hw : w ∈ wrL) (h0 : stp σ0 σ a S) (hW : vw 12 σ0 w = Wm) (hSI : SI (Wm 0 1) (Wm 0 3) S) (hWI : WI Wm) (hm : 0 ≤ m ∧ m < Wm 0 3) (h5 : S 5 m = 2) : zC Γ m_March_ride 5 0 0 (GM L) [zR 55, zR w, zR a, zI m] σ (zP0 (GM L) (fun σ' => stp σ0 σ' a (ridF Wm S m))) := by
  refine zC_of (ls0 := [_, _, _, _, _, _, _]) zm_March_ride (by decide) rfl (Nat.le_of_ble_eq_true rfl) ?_
  generalize hQ : (zP0 (GM L) (fun σ' => stp σ0 σ' a (ridF Wm S m))) = Q
  have hSI2 := hSI
  have hWI2 := hWI
  obtain ⟨b0, b11, b12, bc, bm, bl, br⟩ := hSI2
  obtain ⟨w1, w2, w3, w4, w5, w6, w7, w8, w9, w10⟩ := hWI2
  have b_m := bm m hm.1 hm.2
  have b_c := bc (S 4 m) b_m.1.1 b_m.1.2
  refine zaload_n (k := 0) rfl rfl ?_
  refine zgF 4 (k := 1) rfl (st_ob ha) fl_3_65 rfl (st_fx_4 ha) ?_
  refine ziload_n (k := 2) rfl rfl ?_
  refine zfS1 (k := 3) rfl (c_NT_at (st_ar_4 ha)) fm_NT_at lk_3_30 rfl rfl (Nat.le_of_ble_eq_true rfl) (by decide) ⟨by decide, by decide⟩ ?_
  rw [zat_in (by omega)]
  try rw [stp_f h0 (by omega)]
  try rw [stp_0 h0]
  repeat rw [zup_n (by omega)]
  refine zistore (k := 4) (ls' := [_, _, _, _, _, _, _]) rfl (Nat.le_of_ble_eq_true rfl) rfl ?_
  refine zaload_n (k := 5) rfl rfl ?_
  refine zaload_n (k := 6) rfl rfl ?_
  refine zaload_n (k := 7) rfl rfl ?_
  refine ziload_n (k := 8) rfl rfl ?_
  refine ziload (k := 9) rfl rfl ?_
  refine zpVI (k := 10) rfl (c_March_jumps ha hw h0 hW hSI hWI hm (by omega)) fm_March_jumps lk_3_91 rfl rfl ob_55 ⟨_, rfl, rfl⟩ (Nat.le_of_ble_eq_true rfl) (by decide) ⟨by decide, by decide⟩ (fun z σ2 h2 => ?_)
  clear h0
  have h0 := h2.2
  rw [h2.1]
  refine zif_ne (k := 11) rfl rfl (fun c1 => ?_) (fun c1 => ?_)
  · skip
    refine ziconst (k := 23) rfl (by decide) ?_
    refine zistore (k := 24) (ls' := [_, _, _, _, _, _, _]) rfl (Nat.le_of_ble_eq_true rfl) rfl ?_
    have lp43 : ∀ (g : Nat) (j : Nat) (σ1 : zv_H), ((Wm 0 1).toNat - j) < g → ((j : Int) ≤ Wm 0 1) → (stp σ0 σ1 a (sdsF Wm S m (S 4 m) j)) → zV Γ m_March_ride 5 0 0 Q (GM L) (0, 0) 43 [some (zR 55), some (zR w), some (zR a), some (zI m), some (zI (S 4 m)), some (zI j), none] [] σ1 := by
      intro g
      induction g with
      | zero => intro j σ1 hg; exact absurd hg (Nat.not_lt_zero _)
      | succ g ih43 =>
        intro j σ1 hg hj h0
        have sd0 : ∀ {g k : Int}, g ≠ 9 → sdsF Wm S m (S 4 m) j g k = S g k := fun h => sds_00 h
        have db := dst_b hWI (S 4 m) j
        refine ziload (k := 25) rfl rfl ?_
        refine zaload_n (k := 26) rfl rfl ?_
        refine zgI 1 (k := 27) rfl (wr_ob hw) fl_3_95 rfl (wr_fx_1 hw) ?_
        try rw [stp_f h0 (by omega)]
        try rw [stp_0 h0]
        repeat rw [zup_n (by omega)]
        try rw [st_e0 ((stp_w h0 ha hw).trans hW)]
        refine zicmp_ge (k := 28) rfl rfl (fun c2 => ?_) (fun c2 => ?_)
        · skip
          rw [show j = (Wm 0 1).toNat by omega] at h0
          refine zaload_n (k := 50) rfl rfl ?_
          refine ziload_n (k := 51) rfl rfl ?_
          refine ziload (k := 52) rfl rfl ?_
          refine ziconst (k := 53) rfl (by decide) ?_
          refine zpV0 (k := 54) rfl (k_keep ha h0 (by omega) (by omega) (by omega) (by rw [sds_00 (by omega)]; omega) (by rw [sds_00 (by omega)]; omega) (by rw [sds_00 (by omega)]; omega)) fm_State_keep lk_3_72 rfl rfl (st_ob ha) ⟨_, rfl, rfl⟩ (Nat.le_of_ble_eq_true rfl) (by decide) ⟨by decide, by decide⟩ (fun σn hn => ?_)
          clear h0
          have h0 := hn
          clear hn
          rw [entF_n (S := S) (sds_00 (by omega))] at h0
          refine zaload_n (k := 55) rfl rfl ?_
          refine zaload_n (k := 56) rfl rfl ?_
          refine zaload_n (k := 57) rfl rfl ?_
          refine ziload_n (k := 58) rfl rfl ?_
          refine zpV0 (k := 59) rfl (c_March_goOn ha hw h0 hW (SI_kep (SI_sds hWI hSI _) (entF_b b0 (by omega) (by omega) (by omega))) hWI hm) fm_March_goOn lk_3_79 rfl rfl ob_55 ⟨_, rfl, rfl⟩ (Nat.le_of_ble_eq_true rfl) (by decide) ⟨by decide, by decide⟩ (fun σn hn => ?_)
          clear h0
          have h0 := hn
          clear hn
          refine zreturn (k := 60) rfl rfl rfl ?_
          rw [← hQ]
          refine ⟨rfl, rfl, ?_⟩
          unfold ridF
          have zf : ∀ b : Bool, zB b = 0 → b = false := fun b q => by cases b; rfl; exact absurd q (by decide)
          first
          | (rw [if_pos (zf _ (by assumption))]; exact h0)
          | (rw [if_neg (show ¬ jmpF Wm S m (S 4 m) = false by rw [zB_t (b := jmpF Wm S m (S 4 m)) (by assumption)]; decide)]; exact h0)
        · skip
          refine zaload_n (k := 29) rfl rfl ?_
          refine ziload (k := 30) rfl rfl ?_
          refine ziload (k := 31) rfl rfl ?_
          refine zfV1 (k := 32) rfl (k_dist hw ((stp_w h0 ha hw).trans hW) (by omega)) fm_War_distance lk_3_98 rfl rfl (wr_ob hw) ⟨_, rfl, rfl⟩ (Nat.le_of_ble_eq_true rfl) (by decide) ⟨by decide, by decide⟩ ?_
          refine zistore (k := 33) (ls' := [_, _, _, _, _, _, _]) rfl (Nat.le_of_ble_eq_true rfl) rfl ?_
          refine ziload (k := 34) rfl rfl ?_
          refine ziconst (k := 35) rfl (by decide) ?_
          refine zicmp_eq (k := 36) rfl rfl (fun c3 => ?_) (fun c3 => ?_)
          · skip
            refine ziincB (k := 48) (ls' := [_, _, _, _, _, _, _]) rfl rfl (by decide) (by omega) rfl ?_
            refine zgoto (k := 49) rfl rfl ?_
            refine zforget (ls' := [_, _, _, _, _, _, _]) 6 rfl ?_
            first
            | (have en : sdsF Wm S m (S 4 m) (j + 1) = sdsF Wm S m (S 4 m) j := if_neg (fun q => by omega)
               rw [← en] at h0
               exact ih43 (j + 1) _ (by omega) (by omega) h0)
            | (have en : sdsF Wm S m (S 4 m) (j + 1) = sndF (sdsF Wm S m (S 4 m) j) m j (S 0 0 + dstF Wm (S 4 m) j + Wm 0 4) := if_pos (by omega)
               rw [← en] at h0
               exact ih43 (j + 1) _ (by omega) (by omega) h0)
          · skip
            refine zaload_n (k := 37) rfl rfl ?_
            refine ziload_n (k := 38) rfl rfl ?_
            refine ziload (k := 39) rfl rfl ?_
            refine zaload_n (k := 40) rfl rfl ?_
            refine zgI 0 (k := 41) rfl (st_ob ha) fl_3_46 rfl (st_fx_0 ha) ?_
            try rw [stp_f h0 (by omega)]
            try rw [stp_0 h0]
            repeat rw [zup_n (by omega)]
            try rw [st_e0 ((stp_w h0 ha hw).trans hW)]
            rw [sd0 (by omega)]
            refine ziload (k := 42) rfl rfl ?_
            refine ziaddB (k := 43) rfl (by omega) ?_
            refine zaload_n (k := 44) rfl rfl ?_
            refine zgI 4 (k := 45) rfl (wr_ob hw) fl_3_101 rfl (wr_fx_4 hw) ?_
            try rw [stp_f h0 (by omega)]
            try rw [stp_0 h0]
            repeat rw [zup_n (by omega)]
            try rw [st_e0 ((stp_w h0 ha hw).trans hW)]
            refine ziaddB (k := 46) rfl (by omega) ?_
            refine zpV0 (k := 47) rfl (k_send ha h0 (by omega) (by omega)) fm_State_send lk_3_104 rfl rfl (st_ob ha) ⟨_, rfl, rfl⟩ (Nat.le_of_ble_eq_true rfl) (by decide) ⟨by decide, by decide⟩ (fun σn hn => ?_)
            clear h0
            have h0 := hn
            clear hn
            refine ziincB (k := 48) (ls' := [_, _, _, _, _, _, _]) rfl rfl (by decide) (by omega) rfl ?_
            refine zgoto (k := 49) rfl rfl ?_
            refine zforget (ls' := [_, _, _, _, _, _, _]) 6 rfl ?_
            first
            | (have en : sdsF Wm S m (S 4 m) (j + 1) = sdsF Wm S m (S 4 m) j := if_neg (fun q => by omega)
               rw [← en] at h0
               exact ih43 (j + 1) _ (by omega) (by omega) h0)
            | (have en : sdsF Wm S m (S 4 m) (j + 1) = sndF (sdsF Wm S m (S 4 m) j) m j (S 0 0 + dstF Wm (S 4 m) j + Wm 0 4) := if_pos (by omega)
               rw [← en] at h0
               exact ih43 (j + 1) _ (by omega) (by omega) h0)
    exact lp43 _ 0 _ (Nat.lt_succ_self _) (by omega) h0
  · skip
    refine zaload_n (k := 12) rfl rfl ?_
    refine zgF 5 (k := 13) rfl (st_ob ha) fl_3_24 rfl (st_fx_5 ha) ?_
    refine ziload_n (k := 14) rfl rfl ?_
    refine ziconst (k := 15) rfl (by decide) ?_
    refine zpS0 (k := 16) rfl (k_put (st_ar_5 ha) (by have := st_pos ha; omega) h0 (by omega) (by omega)) fm_NT_put lk_3_61 rfl rfl (Nat.le_of_ble_eq_true rfl) (by decide) ⟨by decide, by decide⟩ (fun σn hn => ?_)
    clear h0
    have h0 := hn
    clear hn
    refine zaload_n (k := 17) rfl rfl ?_
    refine ziload_n (k := 18) rfl rfl ?_
    refine ziload (k := 19) rfl rfl ?_
    refine ziconst (k := 20) rfl (by decide) ?_
    refine zpV0 (k := 21) rfl (k_keep ha h0 (by omega) (by omega) (by omega) (by (repeat rw [zup_n (by omega)]); omega) (by (repeat rw [zup_n (by omega)]); omega) (by (repeat rw [zup_n (by omega)]); omega)) fm_State_keep lk_3_72 rfl rfl (st_ob ha) ⟨_, rfl, rfl⟩ (Nat.le_of_ble_eq_true rfl) (by decide) ⟨by decide, by decide⟩ (fun σn hn => ?_)
    clear h0
    have h0 := hn
    clear hn
    rw [entF_n (S := S) (by repeat rw [zup_n (by omega)])] at h0
    refine zreturn (k := 22) rfl rfl rfl ?_
    rw [← hQ]
    refine ⟨rfl, rfl, ?_⟩
    unfold ridF
    have zf : ∀ b : Bool, zB b = 0 → b = false := fun b q => by cases b; rfl; exact absurd q (by decide)
    first
    | (rw [if_pos (zf _ (by assumption))]; exact h0)
    | (rw [if_neg (show ¬ jmpF Wm S m (S 4 m) = false by rw [zB_t (b := jmpF Wm S m (S 4 m)) (by assumption)]; decide)]; exact h0)
set_option maxHeartbeats 4000000 in
set_option maxRecDepth 20000 in
theorem c_March_go {Γ : zv_M} {L : Int} {a w : Int} {σ0 σ S Wm : zv_H} (ha : a ∈ stL) (hw : w ∈ wrL) (h0 : stp σ0 σ a S) (hW : vw 12 σ0 w = Wm) (hSI : SI (Wm 0 1) (Wm 0 3) S) (hWI : WI Wm) (N : Nat) (hN : N ≤ 100000) : zC Γ m_March_go 6 0 0 (GM L) [zR 55, zR w, zR a, zI N] σ (zPI (GM L) (fun z σ' => z = (gooF Wm S N).2 ∧ stp σ0 σ' a (gooF Wm S N).1)) := by
  refine zC_of (ls0 := [_, _, _, _, _, _, _, _]) zm_March_go (by decide) rfl (Nat.le_of_ble_eq_true rfl) ?_
  generalize hQ : (zPI (GM L) (fun z σ' => z = (gooF Wm S N).2 ∧ stp σ0 σ' a (gooF Wm S N).1)) = Q
  have w1 := hWI.1
  have w3 := hWI.2.2.1
  refine ziconst (k := 0) rfl (by decide) ?_
  refine zistore (k := 1) (ls' := [_, _, _, _, _, _, _, _]) rfl (Nat.le_of_ble_eq_true rfl) rfl ?_
  refine ziconst (k := 2) rfl (by decide) ?_
  refine zistore (k := 3) (ls' := [_, _, _, _, _, _, _, _]) rfl (Nat.le_of_ble_eq_true rfl) rfl ?_
  have lp6 : ∀ (g : Nat) (n : Nat) (σ1 : zv_H), (N - n) < g → (n ≤ N) → (stp σ0 σ1 a (gooF Wm S n).1) → zV Γ m_March_go 6 0 0 Q (GM L) (0, 0) 6 [some (zR 55), some (zR w), some (zR a), some (zI N), some (zI (gooF Wm S n).2), some (zI n), none, none] [] σ1 := by
    intro g
    induction g with
    | zero => intro n σ1 hg; exact absurd hg (Nat.not_lt_zero _)
    | succ g ih6 =>
      intro n σ1 hg hn h0
      have si := SI_goo hWI hSI n
      have gc := goo_c (S := S) w3 n
      refine ziload (k := 4) rfl rfl ?_
      refine ziload_n (k := 5) rfl rfl ?_
      refine zicmp_ge (k := 6) rfl rfl (fun c1 => ?_) (fun c1 => ?_)
      · skip
        refine ziload (k := 57) rfl rfl ?_
        refine zireturn (k := 58) rfl rfl rfl ?_
        rw [← hQ]
        rw [show n = N by omega] at h0 ⊢
        exact ⟨rfl, _, rfl, rfl, h0⟩
      · skip
        refine ziconst (k := 7) rfl (by decide) ?_
        refine zistore (k := 8) (ls' := [_, _, _, _, _, _, _, _]) rfl (Nat.le_of_ble_eq_true rfl) rfl ?_
        have lp15 : ∀ (g : Nat) (j : Nat) (σ1 : zv_H), ((Wm 0 3).toNat - j) < g → ((j : Int) ≤ Wm 0 3) → (stp σ0 σ1 a (menF Wm (gooF Wm S n).1 j).1) → zV Γ m_March_go 6 0 0 Q (GM L) (0, 0) 15 [some (zR 55), some (zR w), some (zR a), some (zI N), some (zI ((gooF Wm S n).2 + (menF Wm (gooF Wm S n).1 j).2)), some (zI n), some (zI j), none] [] σ1 := by
          intro g
          induction g with
          | zero => intro j σ1 hg; exact absurd hg (Nat.not_lt_zero _)
          | succ g ih15 =>
            intro j σ1 hg hj h0
            have sj := SI_men hWI si j hj
            have mc := men_c Wm (gooF Wm S n).1 j
            refine ziload (k := 9) rfl rfl ?_
            refine zaload_n (k := 10) rfl rfl ?_
            refine zgI 3 (k := 11) rfl (wr_ob hw) fl_3_18 rfl (wr_fx_3 hw) ?_
            try rw [stp_f h0 (by omega)]
            try rw [stp_0 h0]
            repeat rw [zup_n (by omega)]
            try rw [st_e0 ((stp_w h0 ha hw).trans hW)]
            refine zicmp_ge (k := 12) rfl rfl (fun c2 => ?_) (fun c2 => ?_)
            · skip
              rw [show j = (Wm 0 3).toNat by omega] at h0 ⊢
              have wk := (SI_men hWI si (Wm 0 3).toNat (by omega)).1
              refine zaload_n (k := 47) rfl rfl ?_
              refine zsipush (k := 48) rfl rfl ?_
              refine zaload_n (k := 49) rfl rfl ?_
              refine zgI 0 (k := 50) rfl (st_ob ha) fl_3_46 rfl (st_fx_0 ha) ?_
              try rw [stp_f h0 (by omega)]
              try rw [stp_0 h0]
              repeat rw [zup_n (by omega)]
              try rw [st_e0 ((stp_w h0 ha hw).trans hW)]
              refine ziconst (k := 51) rfl (by decide) ?_
              refine ziaddB (k := 52) rfl (by omega) ?_
              refine zfS1 (k := 53) rfl c_J_minI fm_J_minI lk_3_49 rfl rfl (Nat.le_of_ble_eq_true rfl) (by decide) ⟨by decide, by decide⟩ ?_
              refine zpI 0 (k := 54) rfl (st_ob ha) fl_3_46 ⟨_, rfl, rfl⟩ rfl (st_pos ha) rfl (st_fx_0 ha) ?_
              have h0 := stp_up0 (i := 0) (v := min 999 ((menF Wm (gooF Wm S n).1 (Wm 0 3).toNat).1 0 0 + 1)) h0
              refine ziincB (k := 55) (ls' := [_, _, _, _, _, _, _, _]) rfl rfl (by decide) (by omega) rfl ?_
              refine zgoto (k := 56) rfl rfl ?_
              refine zforget (ls' := [_, _, _, _, _, _, _, _]) 6 rfl ?_
              exact ih6 (n + 1) _ (by omega) (by omega) h0
            · skip
              refine zaload_n (k := 13) rfl rfl ?_
              refine zgF 5 (k := 14) rfl (st_ob ha) fl_3_24 rfl (st_fx_5 ha) ?_
              refine ziload (k := 15) rfl rfl ?_
              refine zfS1 (k := 16) rfl (c_NT_at (st_ar_5 ha)) fm_NT_at lk_3_30 rfl rfl (Nat.le_of_ble_eq_true rfl) (by decide) ⟨by decide, by decide⟩ ?_
              rw [zat_in (by omega)]
              try rw [stp_f h0 (by omega)]
              try rw [stp_0 h0]
              repeat rw [zup_n (by omega)]
              refine zistore (k := 17) (ls' := [_, _, _, _, _, _, _, _]) rfl (Nat.le_of_ble_eq_true rfl) rfl ?_
              refine ziload (k := 18) rfl rfl ?_
              refine ziconst (k := 19) rfl (by decide) ?_
              refine zicmp_ne (k := 20) rfl rfl (fun c3 => ?_) (fun c3 => ?_)
              · skip
                refine ziload (k := 26) rfl rfl ?_
                refine ziconst (k := 27) rfl (by decide) ?_
                refine zicmp_ne (k := 28) rfl rfl (fun c4 => ?_) (fun c4 => ?_)
                · skip
                  refine ziload (k := 35) rfl rfl ?_
                  refine zif_ne (k := 36) rfl rfl (fun c5 => ?_) (fun c5 => ?_)
                  · skip
                    refine ziincB (k := 45) (ls' := [_, _, _, _, _, _, _, _]) rfl rfl (by decide) (by omega) rfl ?_
                    refine zgoto (k := 46) rfl rfl ?_
                    refine zforget (ls' := [_, _, _, _, _, _, _, _]) 7 rfl ?_
                    have hm2 := sj.2.2.2.2.1 j (by omega) (by omega)
                    first
                    | (have en : manF Wm (menF Wm (gooF Wm S n).1 j).1 j = (walF (menF Wm (gooF Wm S n).1 j).1 j, 0) := if_pos (by assumption)
                       have e2 : menF Wm (gooF Wm S n).1 (j + 1) = (walF (menF Wm (gooF Wm S n).1 j).1 j, (menF Wm (gooF Wm S n).1 j).2) := by
                         show ((manF Wm (menF Wm (gooF Wm S n).1 j).1 j).1, (menF Wm (gooF Wm S n).1 j).2 + (manF Wm (menF Wm (gooF Wm S n).1 j).1 j).2) = _
                         rw [en]
                         exact congrArg (Prod.mk _) (Int.add_zero _)
                       have r := ih15 (j + 1) _ (by omega) (by omega) (by rw [e2]; exact h0)
                       rw [e2] at r
                       exact r)
                    | (have en : manF Wm (menF Wm (gooF Wm S n).1 j).1 j = (ridF Wm (menF Wm (gooF Wm S n).1 j).1 j, 0) := by
                         unfold manF
                         rw [if_neg (by omega), if_pos (by assumption)]
                       have e2 : menF Wm (gooF Wm S n).1 (j + 1) = (ridF Wm (menF Wm (gooF Wm S n).1 j).1 j, (menF Wm (gooF Wm S n).1 j).2) := by
                         show ((manF Wm (menF Wm (gooF Wm S n).1 j).1 j).1, (menF Wm (gooF Wm S n).1 j).2 + (manF Wm (menF Wm (gooF Wm S n).1 j).1 j).2) = _
                         rw [en]
                         exact congrArg (Prod.mk _) (Int.add_zero _)
                       have r := ih15 (j + 1) _ (by omega) (by omega) (by rw [e2]; exact h0)
                       rw [e2] at r
                       exact r)
                    | (have en : manF Wm (menF Wm (gooF Wm S n).1 j).1 j = metF Wm (menF Wm (gooF Wm S n).1 j).1 j := by
                         unfold manF
                         rw [if_neg (by omega), if_neg (by omega), if_pos (by assumption)]
                       have e2 : menF Wm (gooF Wm S n).1 (j + 1) = ((metF Wm (menF Wm (gooF Wm S n).1 j).1 j).1, (menF Wm (gooF Wm S n).1 j).2 + (metF Wm (menF Wm (gooF Wm S n).1 j).1 j).2) := by
                         show ((manF Wm (menF Wm (gooF Wm S n).1 j).1 j).1, (menF Wm (gooF Wm S n).1 j).2 + (manF Wm (menF Wm (gooF Wm S n).1 j).1 j).2) = _
                         rw [en]
                       have r := ih15 (j + 1) _ (by omega) (by omega) (by rw [e2]; exact h0)
                       rw [e2, ← Int.add_assoc] at r
                       exact r)
                    | (have en : manF Wm (menF Wm (gooF Wm S n).1 j).1 j = ((menF Wm (gooF Wm S n).1 j).1, 0) := by
                         unfold manF
                         rw [if_neg (by omega), if_neg (by omega), if_neg (by assumption)]
                       have e2 : menF Wm (gooF Wm S n).1 (j + 1) = ((menF Wm (gooF Wm S n).1 j).1, (menF Wm (gooF Wm S n).1 j).2) := by
                         show ((manF Wm (menF Wm (gooF Wm S n).1 j).1 j).1, (menF Wm (gooF Wm S n).1 j).2 + (manF Wm (menF Wm (gooF Wm S n).1 j).1 j).2) = _
                         rw [en]
                         exact congrArg (Prod.mk _) (Int.add_zero _)
                       have r := ih15 (j + 1) _ (by omega) (by omega) (by rw [e2]; exact h0)
                       rw [e2] at r
                       exact r)
                  · skip
                    refine ziload (k := 37) rfl rfl ?_
                    refine zaload_n (k := 38) rfl rfl ?_
                    refine zaload_n (k := 39) rfl rfl ?_
                    refine zaload_n (k := 40) rfl rfl ?_
                    refine ziload (k := 41) rfl rfl ?_
                    refine zpVI (k := 42) rfl (c_March_meet ha hw h0 hW sj hWI (by omega) (by assumption)) fm_March_meet lk_3_42 rfl rfl ob_55 ⟨_, rfl, rfl⟩ (Nat.le_of_ble_eq_true rfl) (by decide) ⟨by decide, by decide⟩ (fun z σ2 h2 => ?_)
                    clear h0
                    have h0 := h2.2
                    rw [h2.1]
                    have mb : 0 ≤ (metF Wm (menF Wm (gooF Wm S n).1 j).1 j).2 ∧ (metF Wm (menF Wm (gooF Wm S n).1 j).1 j).2 ≤ 1 := by
                      have q := met_c Wm (menF Wm (gooF Wm S n).1 j).1 j
                      unfold manF at q
                      rw [if_neg (by omega), if_neg (by omega), if_pos (by assumption)] at q
                      exact q
                    refine ziaddB (k := 43) rfl (by omega) ?_
                    refine zistore (k := 44) (ls' := [_, _, _, _, _, _, _, _]) rfl (Nat.le_of_ble_eq_true rfl) rfl ?_
                    refine ziincB (k := 45) (ls' := [_, _, _, _, _, _, _, _]) rfl rfl (by decide) (by omega) rfl ?_
                    refine zgoto (k := 46) rfl rfl ?_
                    refine zforget (ls' := [_, _, _, _, _, _, _, _]) 7 rfl ?_
                    have hm2 := sj.2.2.2.2.1 j (by omega) (by omega)
                    first
                    | (have en : manF Wm (menF Wm (gooF Wm S n).1 j).1 j = (walF (menF Wm (gooF Wm S n).1 j).1 j, 0) := if_pos (by assumption)
                       have e2 : menF Wm (gooF Wm S n).1 (j + 1) = (walF (menF Wm (gooF Wm S n).1 j).1 j, (menF Wm (gooF Wm S n).1 j).2) := by
                         show ((manF Wm (menF Wm (gooF Wm S n).1 j).1 j).1, (menF Wm (gooF Wm S n).1 j).2 + (manF Wm (menF Wm (gooF Wm S n).1 j).1 j).2) = _
                         rw [en]
                         exact congrArg (Prod.mk _) (Int.add_zero _)
                       have r := ih15 (j + 1) _ (by omega) (by omega) (by rw [e2]; exact h0)
                       rw [e2] at r
                       exact r)
                    | (have en : manF Wm (menF Wm (gooF Wm S n).1 j).1 j = (ridF Wm (menF Wm (gooF Wm S n).1 j).1 j, 0) := by
                         unfold manF
                         rw [if_neg (by omega), if_pos (by assumption)]
                       have e2 : menF Wm (gooF Wm S n).1 (j + 1) = (ridF Wm (menF Wm (gooF Wm S n).1 j).1 j, (menF Wm (gooF Wm S n).1 j).2) := by
                         show ((manF Wm (menF Wm (gooF Wm S n).1 j).1 j).1, (menF Wm (gooF Wm S n).1 j).2 + (manF Wm (menF Wm (gooF Wm S n).1 j).1 j).2) = _
                         rw [en]
                         exact congrArg (Prod.mk _) (Int.add_zero _)
                       have r := ih15 (j + 1) _ (by omega) (by omega) (by rw [e2]; exact h0)
                       rw [e2] at r
                       exact r)
                    | (have en : manF Wm (menF Wm (gooF Wm S n).1 j).1 j = metF Wm (menF Wm (gooF Wm S n).1 j).1 j := by
                         unfold manF
                         rw [if_neg (by omega), if_neg (by omega), if_pos (by assumption)]
                       have e2 : menF Wm (gooF Wm S n).1 (j + 1) = ((metF Wm (menF Wm (gooF Wm S n).1 j).1 j).1, (menF Wm (gooF Wm S n).1 j).2 + (metF Wm (menF Wm (gooF Wm S n).1 j).1 j).2) := by
                         show ((manF Wm (menF Wm (gooF Wm S n).1 j).1 j).1, (menF Wm (gooF Wm S n).1 j).2 + (manF Wm (menF Wm (gooF Wm S n).1 j).1 j).2) = _
                         rw [en]
                       have r := ih15 (j + 1) _ (by omega) (by omega) (by rw [e2]; exact h0)
                       rw [e2, ← Int.add_assoc] at r
                       exact r)
                    | (have en : manF Wm (menF Wm (gooF Wm S n).1 j).1 j = ((menF Wm (gooF Wm S n).1 j).1, 0) := by
                         unfold manF
                         rw [if_neg (by omega), if_neg (by omega), if_neg (by assumption)]
                       have e2 : menF Wm (gooF Wm S n).1 (j + 1) = ((menF Wm (gooF Wm S n).1 j).1, (menF Wm (gooF Wm S n).1 j).2) := by
                         show ((manF Wm (menF Wm (gooF Wm S n).1 j).1 j).1, (menF Wm (gooF Wm S n).1 j).2 + (manF Wm (menF Wm (gooF Wm S n).1 j).1 j).2) = _
                         rw [en]
                         exact congrArg (Prod.mk _) (Int.add_zero _)
                       have r := ih15 (j + 1) _ (by omega) (by omega) (by rw [e2]; exact h0)
                       rw [e2] at r
                       exact r)
                · skip
                  refine zaload_n (k := 29) rfl rfl ?_
                  refine zaload_n (k := 30) rfl rfl ?_
                  refine zaload_n (k := 31) rfl rfl ?_
                  refine ziload (k := 32) rfl rfl ?_
                  refine zpV0 (k := 33) rfl (c_March_ride ha hw h0 hW sj hWI (by omega) (by assumption)) fm_March_ride lk_3_38 rfl rfl ob_55 ⟨_, rfl, rfl⟩ (Nat.le_of_ble_eq_true rfl) (by decide) ⟨by decide, by decide⟩ (fun σn hn => ?_)
                  clear h0
                  have h0 := hn
                  clear hn
                  refine zgoto (k := 34) rfl rfl ?_
                  refine ziincB (k := 45) (ls' := [_, _, _, _, _, _, _, _]) rfl rfl (by decide) (by omega) rfl ?_
                  refine zgoto (k := 46) rfl rfl ?_
                  refine zforget (ls' := [_, _, _, _, _, _, _, _]) 7 rfl ?_
                  have hm2 := sj.2.2.2.2.1 j (by omega) (by omega)
                  first
                  | (have en : manF Wm (menF Wm (gooF Wm S n).1 j).1 j = (walF (menF Wm (gooF Wm S n).1 j).1 j, 0) := if_pos (by assumption)
                     have e2 : menF Wm (gooF Wm S n).1 (j + 1) = (walF (menF Wm (gooF Wm S n).1 j).1 j, (menF Wm (gooF Wm S n).1 j).2) := by
                       show ((manF Wm (menF Wm (gooF Wm S n).1 j).1 j).1, (menF Wm (gooF Wm S n).1 j).2 + (manF Wm (menF Wm (gooF Wm S n).1 j).1 j).2) = _
                       rw [en]
                       exact congrArg (Prod.mk _) (Int.add_zero _)
                     have r := ih15 (j + 1) _ (by omega) (by omega) (by rw [e2]; exact h0)
                     rw [e2] at r
                     exact r)
                  | (have en : manF Wm (menF Wm (gooF Wm S n).1 j).1 j = (ridF Wm (menF Wm (gooF Wm S n).1 j).1 j, 0) := by
                       unfold manF
                       rw [if_neg (by omega), if_pos (by assumption)]
                     have e2 : menF Wm (gooF Wm S n).1 (j + 1) = (ridF Wm (menF Wm (gooF Wm S n).1 j).1 j, (menF Wm (gooF Wm S n).1 j).2) := by
                       show ((manF Wm (menF Wm (gooF Wm S n).1 j).1 j).1, (menF Wm (gooF Wm S n).1 j).2 + (manF Wm (menF Wm (gooF Wm S n).1 j).1 j).2) = _
                       rw [en]
                       exact congrArg (Prod.mk _) (Int.add_zero _)
                     have r := ih15 (j + 1) _ (by omega) (by omega) (by rw [e2]; exact h0)
                     rw [e2] at r
                     exact r)
                  | (have en : manF Wm (menF Wm (gooF Wm S n).1 j).1 j = metF Wm (menF Wm (gooF Wm S n).1 j).1 j := by
                       unfold manF
                       rw [if_neg (by omega), if_neg (by omega), if_pos (by assumption)]
                     have e2 : menF Wm (gooF Wm S n).1 (j + 1) = ((metF Wm (menF Wm (gooF Wm S n).1 j).1 j).1, (menF Wm (gooF Wm S n).1 j).2 + (metF Wm (menF Wm (gooF Wm S n).1 j).1 j).2) := by
                       show ((manF Wm (menF Wm (gooF Wm S n).1 j).1 j).1, (menF Wm (gooF Wm S n).1 j).2 + (manF Wm (menF Wm (gooF Wm S n).1 j).1 j).2) = _
                       rw [en]
                     have r := ih15 (j + 1) _ (by omega) (by omega) (by rw [e2]; exact h0)
                     rw [e2, ← Int.add_assoc] at r
                     exact r)
                  | (have en : manF Wm (menF Wm (gooF Wm S n).1 j).1 j = ((menF Wm (gooF Wm S n).1 j).1, 0) := by
                       unfold manF
                       rw [if_neg (by omega), if_neg (by omega), if_neg (by assumption)]
                     have e2 : menF Wm (gooF Wm S n).1 (j + 1) = ((menF Wm (gooF Wm S n).1 j).1, (menF Wm (gooF Wm S n).1 j).2) := by
                       show ((manF Wm (menF Wm (gooF Wm S n).1 j).1 j).1, (menF Wm (gooF Wm S n).1 j).2 + (manF Wm (menF Wm (gooF Wm S n).1 j).1 j).2) = _
                       rw [en]
                       exact congrArg (Prod.mk _) (Int.add_zero _)
                     have r := ih15 (j + 1) _ (by omega) (by omega) (by rw [e2]; exact h0)
                     rw [e2] at r
                     exact r)
              · skip
                refine zaload_n (k := 21) rfl rfl ?_
                refine zaload_n (k := 22) rfl rfl ?_
                refine ziload (k := 23) rfl rfl ?_
                refine zpV0 (k := 24) rfl (c_March_walk ha h0 (by omega) (sj.2.2.2.2.1 j (by omega) (by omega)).2.2.1) fm_March_walk lk_3_34 rfl rfl ob_55 ⟨_, rfl, rfl⟩ (Nat.le_of_ble_eq_true rfl) (by decide) ⟨by decide, by decide⟩ (fun σn hn => ?_)
                clear h0
                have h0 := hn
                clear hn
                refine zgoto (k := 25) rfl rfl ?_
                refine ziincB (k := 45) (ls' := [_, _, _, _, _, _, _, _]) rfl rfl (by decide) (by omega) rfl ?_
                refine zgoto (k := 46) rfl rfl ?_
                refine zforget (ls' := [_, _, _, _, _, _, _, _]) 7 rfl ?_
                have hm2 := sj.2.2.2.2.1 j (by omega) (by omega)
                first
                | (have en : manF Wm (menF Wm (gooF Wm S n).1 j).1 j = (walF (menF Wm (gooF Wm S n).1 j).1 j, 0) := if_pos (by assumption)
                   have e2 : menF Wm (gooF Wm S n).1 (j + 1) = (walF (menF Wm (gooF Wm S n).1 j).1 j, (menF Wm (gooF Wm S n).1 j).2) := by
                     show ((manF Wm (menF Wm (gooF Wm S n).1 j).1 j).1, (menF Wm (gooF Wm S n).1 j).2 + (manF Wm (menF Wm (gooF Wm S n).1 j).1 j).2) = _
                     rw [en]
                     exact congrArg (Prod.mk _) (Int.add_zero _)
                   have r := ih15 (j + 1) _ (by omega) (by omega) (by rw [e2]; exact h0)
                   rw [e2] at r
                   exact r)
                | (have en : manF Wm (menF Wm (gooF Wm S n).1 j).1 j = (ridF Wm (menF Wm (gooF Wm S n).1 j).1 j, 0) := by
                     unfold manF
                     rw [if_neg (by omega), if_pos (by assumption)]
                   have e2 : menF Wm (gooF Wm S n).1 (j + 1) = (ridF Wm (menF Wm (gooF Wm S n).1 j).1 j, (menF Wm (gooF Wm S n).1 j).2) := by
                     show ((manF Wm (menF Wm (gooF Wm S n).1 j).1 j).1, (menF Wm (gooF Wm S n).1 j).2 + (manF Wm (menF Wm (gooF Wm S n).1 j).1 j).2) = _
                     rw [en]
                     exact congrArg (Prod.mk _) (Int.add_zero _)
                   have r := ih15 (j + 1) _ (by omega) (by omega) (by rw [e2]; exact h0)
                   rw [e2] at r
                   exact r)
                | (have en : manF Wm (menF Wm (gooF Wm S n).1 j).1 j = metF Wm (menF Wm (gooF Wm S n).1 j).1 j := by
                     unfold manF
                     rw [if_neg (by omega), if_neg (by omega), if_pos (by assumption)]
                   have e2 : menF Wm (gooF Wm S n).1 (j + 1) = ((metF Wm (menF Wm (gooF Wm S n).1 j).1 j).1, (menF Wm (gooF Wm S n).1 j).2 + (metF Wm (menF Wm (gooF Wm S n).1 j).1 j).2) := by
                     show ((manF Wm (menF Wm (gooF Wm S n).1 j).1 j).1, (menF Wm (gooF Wm S n).1 j).2 + (manF Wm (menF Wm (gooF Wm S n).1 j).1 j).2) = _
                     rw [en]
                   have r := ih15 (j + 1) _ (by omega) (by omega) (by rw [e2]; exact h0)
                   rw [e2, ← Int.add_assoc] at r
                   exact r)
                | (have en : manF Wm (menF Wm (gooF Wm S n).1 j).1 j = ((menF Wm (gooF Wm S n).1 j).1, 0) := by
                     unfold manF
                     rw [if_neg (by omega), if_neg (by omega), if_neg (by assumption)]
                   have e2 : menF Wm (gooF Wm S n).1 (j + 1) = ((menF Wm (gooF Wm S n).1 j).1, (menF Wm (gooF Wm S n).1 j).2) := by
                     show ((manF Wm (menF Wm (gooF Wm S n).1 j).1 j).1, (menF Wm (gooF Wm S n).1 j).2 + (manF Wm (menF Wm (gooF Wm S n).1 j).1 j).2) = _
                     rw [en]
                     exact congrArg (Prod.mk _) (Int.add_zero _)
                   have r := ih15 (j + 1) _ (by omega) (by omega) (by rw [e2]; exact h0)
                   rw [e2] at r
                   exact r)
        have r := lp15 ((Wm 0 3).toNat + 1) 0 _ (by omega) (by omega) h0
        rw [show (gooF Wm S n).2 + (menF Wm (gooF Wm S n).1 0).2 = (gooF Wm S n).2 from Int.add_zero _] at r
        exact r
  exact lp6 _ 0 _ (Nat.lt_succ_self _) (by omega) h0
