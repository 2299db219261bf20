set_option maxHeartbeats 4000000 in
set_option maxRecDepth 20000 in
theorem c_M_way {Γ : zv_M} {L : Int} {σ Wm S : zv_H} {b : Int} (hb1 : b = 0 ∨ b = 1) (h0 : stM σ σ b 0 Wm S) (hSI : SI (Wm 0 1) (Wm 0 3) S) (hWI : WI Wm) {f t : Int}  : zC Γ m_M_way 2 0 0 (GM L) [zR 289, zI f, zI t] σ (zFn (some (zI (dstF Wm f t))) (GM L) σ) := by
  refine zC_of (ls0 := [_, _, _]) zm_M_way (by decide) rfl (Nat.le_of_ble_eq_true rfl) ?_
  generalize hQ : (zFn (some (zI (dstF Wm f t))) (GM L) σ) = Q
  have hb := h0.2.2.1
  have w1 := hWI.1
  have w3 := hWI.2.2.1
  have r0 := rM_0 h0.1
  have b00 := hSI.1
  have b12 := hSI.2.2.1
  have bc := hSI.2.2.2.1
  have bm := hSI.2.2.2.2.1
  have bl := hSI.2.2.2.2.2.1
  have dn : ((0 ≤ f ∧ f < Wm 0 1) ∧ (0 ≤ t ∧ t < Wm 0 1)) ∨ dstF Wm f t = -1 := by
    by_cases q : (0 ≤ f ∧ f < Wm 0 1) ∧ (0 ≤ t ∧ t < Wm 0 1)
    · exact Or.inl q
    · exact Or.inr (if_neg (fun r => q ⟨r.1, r.2.1⟩))
  refine zaload_n (k := 0) rfl rfl ?_
  refine ziload_n (k := 1) rfl rfl ?_
  refine zfV1 (k := 2) rfl (c_M_isCounty hb hb1) fm_M_isCounty lk_12_492 rfl rfl ob_289 ⟨_, rfl, rfl⟩ (Nat.le_of_ble_eq_true rfl) (by decide) ⟨by decide, by decide⟩ ?_
  rw [h0.2.1.1.1]
  refine zif_eq (k := 3) rfl rfl (fun c1 => ?_) (fun c1 => ?_)
  · skip
    refine ziconst (k := 19) rfl (by decide) ?_
    refine zireturn (k := 20) rfl rfl rfl ?_
    rw [← hQ]
    exact ⟨szI (by omega), rfl, rfl⟩
  · skip
    have hff : 0 ≤ f ∧ f < Wm 0 1 := by split at c1 <;> first | assumption | (exfalso; omega)
    refine zaload_n (k := 4) rfl rfl ?_
    refine ziload_n (k := 5) rfl rfl ?_
    refine zfV1 (k := 6) rfl (c_M_isCounty hb hb1) fm_M_isCounty lk_12_492 rfl rfl ob_289 ⟨_, rfl, rfl⟩ (Nat.le_of_ble_eq_true rfl) (by decide) ⟨by decide, by decide⟩ ?_
    rw [h0.2.1.1.1]
    refine zif_eq (k := 7) rfl rfl (fun c2 => ?_) (fun c2 => ?_)
    · skip
      refine ziconst (k := 19) rfl (by decide) ?_
      refine zireturn (k := 20) rfl rfl rfl ?_
      rw [← hQ]
      exact ⟨szI (by omega), rfl, rfl⟩
    · skip
      have htt : 0 ≤ t ∧ t < Wm 0 1 := by split at c2 <;> first | assumption | (exfalso; omega)
      refine zaload_n (k := 8) rfl rfl ?_
      refine ziload_n (k := 9) rfl rfl ?_
      refine ziload_n (k := 10) rfl rfl ?_
      refine zfV1 (k := 11) rfl (c_M_wayBy hb hb1 (by omega) (by omega)) fm_M_wayBy lk_12_439 rfl rfl ob_289 ⟨_, rfl, rfl⟩ (Nat.le_of_ble_eq_true rfl) (by decide) ⟨by decide, by decide⟩ ?_
      rw [way_r h0 hWI hff htt]
      have db := dst_b hWI f t
      refine zldcw (k := 12) (z := 100000000) rfl kc_12_404 rfl ?_
      refine zicmp_ge (k := 13) rfl rfl (fun c3 => ?_) (fun c3 => ?_)
      · skip
        refine ziconst (k := 19) rfl (by decide) ?_
        refine zireturn (k := 20) rfl rfl rfl ?_
        rw [← hQ]
        exact ⟨szI (by omega), rfl, rfl⟩
      · skip
        refine zaload_n (k := 14) rfl rfl ?_
        refine ziload_n (k := 15) rfl rfl ?_
        refine ziload_n (k := 16) rfl rfl ?_
        refine zfV1 (k := 17) rfl (c_M_wayBy hb hb1 (by omega) (by omega)) fm_M_wayBy lk_12_439 rfl rfl ob_289 ⟨_, rfl, rfl⟩ (Nat.le_of_ble_eq_true rfl) (by decide) ⟨by decide, by decide⟩ ?_
        rw [way_r h0 hWI hff htt]
        have db := dst_b hWI f t
        refine zgoto (k := 18) rfl rfl ?_
        refine zireturn (k := 20) rfl rfl rfl ?_
        rw [← hQ]
        exact ⟨szI (by omega), rfl, rfl⟩
set_option maxHeartbeats 4000000 in
set_option maxRecDepth 20000 in
theorem c_M_man {Γ : zv_M} {L : Int} {σ Wm S : zv_H} {b : Int} (hb1 : b = 0 ∨ b = 1) (h0 : stM σ σ b 0 Wm S) (hSI : SI (Wm 0 1) (Wm 0 3) S) (hWI : WI Wm) {m t : Int}  : zC Γ m_M_man 1 0 0 (GM L) [zR 289, zI m, zI t] σ (zFn (some (zI (manQ Wm S m t))) (GM L) σ) := by
  refine zC_of (ls0 := [_, _, _]) zm_M_man (by decide) rfl (Nat.le_of_ble_eq_true rfl) ?_
  generalize hQ : (zFn (some (zI (manQ Wm S m t))) (GM L) σ) = Q
  have hb := h0.2.2.1
  have w1 := hWI.1
  have w3 := hWI.2.2.1
  have r0 := rM_0 h0.1
  have b00 := hSI.1
  have b12 := hSI.2.2.1
  have bc := hSI.2.2.2.1
  have bm := hSI.2.2.2.2.1
  have bl := hSI.2.2.2.2.2.1
  refine zaload_n (k := 0) rfl rfl ?_
  refine ziload_n (k := 1) rfl rfl ?_
  refine zfV1 (k := 2) rfl (c_M_isMan hb hb1) fm_M_isMan lk_12_495 rfl rfl ob_289 ⟨_, rfl, rfl⟩ (Nat.le_of_ble_eq_true rfl) (by decide) ⟨by decide, by decide⟩ ?_
  rw [h0.2.1.1.2.2.1]
  refine zif_ne (k := 3) rfl rfl (fun c1 => ?_) (fun c1 => ?_)
  · skip
    have hmm : 0 ≤ m ∧ m < Wm 0 3 := by split at c1 <;> first | assumption | (exfalso; omega)
    have rm := r0.2.2.1 m hmm.1 hmm.2
    have b6 := (bm m hmm.1 hmm.2).2.2.2.2.2
    have b60 := (bm m hmm.1 hmm.2).2.2.1
    refine ziload_n (k := 6) rfl rfl ?_
    refine ztabC (k := 7) (v := 0) 0 rfl rfl (by decide) rfl rfl (fun c2 => ?_) (fun c2 => ?_)
    · skip
      refine zaload_n (k := 8) rfl rfl ?_
      refine zgF 49 (k := 9) rfl ob_289 fl_12_162 rfl fx_289_49 ?_
      refine ziload_n (k := 10) rfl rfl ?_
      refine ziaload (k := 11) rfl ar_319 ⟨by omega, by omega⟩ ?_
      rw [rm.1]
      refine zireturn (k := 12) rfl rfl rfl ?_
      unfold manQ at hQ
      rw [← hQ]
      try split at c1
      all_goals first
      | (exfalso; omega)
      | exact ⟨by first | (rw [if_pos (by omega)]; done) | (rw [if_neg (by omega), if_pos (by omega)]; done) | (rw [if_neg (by omega), if_neg (by omega), if_pos (by omega)]; done) | (rw [if_neg (by omega), if_neg (by omega), if_neg (by omega), if_pos (by omega)]; done) | (rw [if_neg (by omega), if_neg (by omega), if_neg (by omega), if_neg (by omega), if_pos (by omega)]; done) | (rw [if_neg (by omega), if_neg (by omega), if_neg (by omega), if_neg (by omega), if_neg (by omega), if_pos (by omega)]; done) | (rw [if_neg (by omega), if_neg (by omega), if_neg (by omega), if_neg (by omega), if_neg (by omega), if_neg (by omega), if_pos (by omega)]; done) | (rw [if_neg (by omega), if_neg (by omega), if_neg (by omega), if_neg (by omega), if_neg (by omega), if_neg (by omega), if_neg (by omega)]; done), rfl, rfl⟩
    refine ztabC (k := 7) (v := 1) 1 rfl rfl (by decide) rfl rfl (fun c3 => ?_) (fun c3 => ?_)
    · skip
      refine zaload_n (k := 13) rfl rfl ?_
      refine zgF 50 (k := 14) rfl ob_289 fl_12_165 rfl fx_289_50 ?_
      refine ziload_n (k := 15) rfl rfl ?_
      refine ziaload (k := 16) rfl ar_320 ⟨by omega, by omega⟩ ?_
      rw [rm.2.1]
      refine zireturn (k := 17) rfl rfl rfl ?_
      unfold manQ at hQ
      rw [← hQ]
      try split at c1
      all_goals first
      | (exfalso; omega)
      | exact ⟨by first | (rw [if_pos (by omega)]; done) | (rw [if_neg (by omega), if_pos (by omega)]; done) | (rw [if_neg (by omega), if_neg (by omega), if_pos (by omega)]; done) | (rw [if_neg (by omega), if_neg (by omega), if_neg (by omega), if_pos (by omega)]; done) | (rw [if_neg (by omega), if_neg (by omega), if_neg (by omega), if_neg (by omega), if_pos (by omega)]; done) | (rw [if_neg (by omega), if_neg (by omega), if_neg (by omega), if_neg (by omega), if_neg (by omega), if_pos (by omega)]; done) | (rw [if_neg (by omega), if_neg (by omega), if_neg (by omega), if_neg (by omega), if_neg (by omega), if_neg (by omega), if_pos (by omega)]; done) | (rw [if_neg (by omega), if_neg (by omega), if_neg (by omega), if_neg (by omega), if_neg (by omega), if_neg (by omega), if_neg (by omega)]; done), rfl, rfl⟩
    refine ztabC (k := 7) (v := 2) 2 rfl rfl (by decide) rfl rfl (fun c4 => ?_) (fun c4 => ?_)
    · skip
      refine zaload_n (k := 18) rfl rfl ?_
      refine zgF 50 (k := 19) rfl ob_289 fl_12_165 rfl fx_289_50 ?_
      refine ziload_n (k := 20) rfl rfl ?_
      refine ziaload (k := 21) rfl ar_320 ⟨by omega, by omega⟩ ?_
      rw [rm.2.1]
      refine ziconst (k := 22) rfl (by decide) ?_
      refine zicmp_ne (k := 23) rfl rfl (fun c5 => ?_) (fun c5 => ?_)
      · skip
        refine ziconst (k := 29) rfl (by decide) ?_
        first | rw [show zI 0 = zI (S 6 m) by rw [show S 6 m = 0 by omega]] | skip
        refine zireturn (k := 30) rfl rfl rfl ?_
        unfold manQ at hQ
        rw [← hQ]
        try split at c1
        all_goals first
        | (exfalso; omega)
        | exact ⟨by first | (rw [if_pos (by omega)]; done) | (rw [if_neg (by omega), if_pos (by omega)]; done) | (rw [if_neg (by omega), if_neg (by omega), if_pos (by omega)]; done) | (rw [if_neg (by omega), if_neg (by omega), if_neg (by omega), if_pos (by omega)]; done) | (rw [if_neg (by omega), if_neg (by omega), if_neg (by omega), if_neg (by omega), if_pos (by omega)]; done) | (rw [if_neg (by omega), if_neg (by omega), if_neg (by omega), if_neg (by omega), if_neg (by omega), if_pos (by omega)]; done) | (rw [if_neg (by omega), if_neg (by omega), if_neg (by omega), if_neg (by omega), if_neg (by omega), if_neg (by omega), if_pos (by omega)]; done) | (rw [if_neg (by omega), if_neg (by omega), if_neg (by omega), if_neg (by omega), if_neg (by omega), if_neg (by omega), if_neg (by omega)]; done), rfl, rfl⟩
      · skip
        refine zaload_n (k := 24) rfl rfl ?_
        refine zgF 51 (k := 25) rfl ob_289 fl_12_168 rfl fx_289_51 ?_
        refine ziload_n (k := 26) rfl rfl ?_
        refine ziaload (k := 27) rfl ar_321 ⟨by omega, by omega⟩ ?_
        rw [rm.2.2.1]
        refine zgoto (k := 28) rfl rfl ?_
        first | rw [show zI 0 = zI (S 6 m) by rw [show S 6 m = 0 by omega]] | skip
        refine zireturn (k := 30) rfl rfl rfl ?_
        unfold manQ at hQ
        rw [← hQ]
        try split at c1
        all_goals first
        | (exfalso; omega)
        | exact ⟨by first | (rw [if_pos (by omega)]; done) | (rw [if_neg (by omega), if_pos (by omega)]; done) | (rw [if_neg (by omega), if_neg (by omega), if_pos (by omega)]; done) | (rw [if_neg (by omega), if_neg (by omega), if_neg (by omega), if_pos (by omega)]; done) | (rw [if_neg (by omega), if_neg (by omega), if_neg (by omega), if_neg (by omega), if_pos (by omega)]; done) | (rw [if_neg (by omega), if_neg (by omega), if_neg (by omega), if_neg (by omega), if_neg (by omega), if_pos (by omega)]; done) | (rw [if_neg (by omega), if_neg (by omega), if_neg (by omega), if_neg (by omega), if_neg (by omega), if_neg (by omega), if_pos (by omega)]; done) | (rw [if_neg (by omega), if_neg (by omega), if_neg (by omega), if_neg (by omega), if_neg (by omega), if_neg (by omega), if_neg (by omega)]; done), rfl, rfl⟩
    refine ztabC (k := 7) (v := 3) 3 rfl rfl (by decide) rfl rfl (fun c6 => ?_) (fun c6 => ?_)
    · skip
      refine zaload_n (k := 31) rfl rfl ?_
      refine zgF 52 (k := 32) rfl ob_289 fl_12_171 rfl fx_289_52 ?_
      refine ziload_n (k := 33) rfl rfl ?_
      refine ziaload (k := 34) rfl ar_322 ⟨by omega, by omega⟩ ?_
      rw [rm.2.2.2.1]
      refine zireturn (k := 35) rfl rfl rfl ?_
      unfold manQ at hQ
      rw [← hQ]
      try split at c1
      all_goals first
      | (exfalso; omega)
      | exact ⟨by first | (rw [if_pos (by omega)]; done) | (rw [if_neg (by omega), if_pos (by omega)]; done) | (rw [if_neg (by omega), if_neg (by omega), if_pos (by omega)]; done) | (rw [if_neg (by omega), if_neg (by omega), if_neg (by omega), if_pos (by omega)]; done) | (rw [if_neg (by omega), if_neg (by omega), if_neg (by omega), if_neg (by omega), if_pos (by omega)]; done) | (rw [if_neg (by omega), if_neg (by omega), if_neg (by omega), if_neg (by omega), if_neg (by omega), if_pos (by omega)]; done) | (rw [if_neg (by omega), if_neg (by omega), if_neg (by omega), if_neg (by omega), if_neg (by omega), if_neg (by omega), if_pos (by omega)]; done) | (rw [if_neg (by omega), if_neg (by omega), if_neg (by omega), if_neg (by omega), if_neg (by omega), if_neg (by omega), if_neg (by omega)]; done), rfl, rfl⟩
    refine ztabC (k := 7) (v := 4) 4 rfl rfl (by decide) rfl rfl (fun c7 => ?_) (fun c7 => ?_)
    · skip
      refine zaload_n (k := 36) rfl rfl ?_
      refine zgF 53 (k := 37) rfl ob_289 fl_12_174 rfl fx_289_53 ?_
      refine ziload_n (k := 38) rfl rfl ?_
      refine ziaload (k := 39) rfl ar_323 ⟨by omega, by omega⟩ ?_
      rw [rm.2.2.2.2]
      refine zireturn (k := 40) rfl rfl rfl ?_
      unfold manQ at hQ
      rw [← hQ]
      try split at c1
      all_goals first
      | (exfalso; omega)
      | exact ⟨by first | (rw [if_pos (by omega)]; done) | (rw [if_neg (by omega), if_pos (by omega)]; done) | (rw [if_neg (by omega), if_neg (by omega), if_pos (by omega)]; done) | (rw [if_neg (by omega), if_neg (by omega), if_neg (by omega), if_pos (by omega)]; done) | (rw [if_neg (by omega), if_neg (by omega), if_neg (by omega), if_neg (by omega), if_pos (by omega)]; done) | (rw [if_neg (by omega), if_neg (by omega), if_neg (by omega), if_neg (by omega), if_neg (by omega), if_pos (by omega)]; done) | (rw [if_neg (by omega), if_neg (by omega), if_neg (by omega), if_neg (by omega), if_neg (by omega), if_neg (by omega), if_pos (by omega)]; done) | (rw [if_neg (by omega), if_neg (by omega), if_neg (by omega), if_neg (by omega), if_neg (by omega), if_neg (by omega), if_neg (by omega)]; done), rfl, rfl⟩
    refine ztabC (k := 7) (v := 5) 5 rfl rfl (by decide) rfl rfl (fun c8 => ?_) (fun c8 => ?_)
    · skip
      refine zaload_n (k := 41) rfl rfl ?_
      refine ziload_n (k := 42) rfl rfl ?_
      refine zfV1 (k := 43) rfl (c_M_signs hb hb1 (by omega)) fm_M_signs lk_12_459 rfl rfl ob_289 ⟨_, rfl, rfl⟩ (Nat.le_of_ble_eq_true rfl) (by decide) ⟨by decide, by decide⟩ ?_
      rw [(h0.2.1.2.2.1 m hmm.1 hmm.2).2.1]
      refine zireturn (k := 44) rfl rfl rfl ?_
      unfold manQ at hQ
      rw [← hQ]
      try split at c1
      all_goals first
      | (exfalso; omega)
      | exact ⟨by first | (rw [if_pos (by omega)]; done) | (rw [if_neg (by omega), if_pos (by omega)]; done) | (rw [if_neg (by omega), if_neg (by omega), if_pos (by omega)]; done) | (rw [if_neg (by omega), if_neg (by omega), if_neg (by omega), if_pos (by omega)]; done) | (rw [if_neg (by omega), if_neg (by omega), if_neg (by omega), if_neg (by omega), if_pos (by omega)]; done) | (rw [if_neg (by omega), if_neg (by omega), if_neg (by omega), if_neg (by omega), if_neg (by omega), if_pos (by omega)]; done) | (rw [if_neg (by omega), if_neg (by omega), if_neg (by omega), if_neg (by omega), if_neg (by omega), if_neg (by omega), if_pos (by omega)]; done) | (rw [if_neg (by omega), if_neg (by omega), if_neg (by omega), if_neg (by omega), if_neg (by omega), if_neg (by omega), if_neg (by omega)]; done), rfl, rfl⟩
    refine ztabOut (k := 7) rfl (by omega) rfl ?_
    refine ziconst (k := 45) rfl (by decide) ?_
    refine zireturn (k := 46) rfl rfl rfl ?_
    unfold manQ at hQ
    rw [← hQ]
    try split at c1
    all_goals first
    | (exfalso; omega)
    | exact ⟨by first | (rw [if_pos (by omega)]; done) | (rw [if_neg (by omega), if_pos (by omega)]; done) | (rw [if_neg (by omega), if_neg (by omega), if_pos (by omega)]; done) | (rw [if_neg (by omega), if_neg (by omega), if_neg (by omega), if_pos (by omega)]; done) | (rw [if_neg (by omega), if_neg (by omega), if_neg (by omega), if_neg (by omega), if_pos (by omega)]; done) | (rw [if_neg (by omega), if_neg (by omega), if_neg (by omega), if_neg (by omega), if_neg (by omega), if_pos (by omega)]; done) | (rw [if_neg (by omega), if_neg (by omega), if_neg (by omega), if_neg (by omega), if_neg (by omega), if_neg (by omega), if_pos (by omega)]; done) | (rw [if_neg (by omega), if_neg (by omega), if_neg (by omega), if_neg (by omega), if_neg (by omega), if_neg (by omega), if_neg (by omega)]; done), rfl, rfl⟩
  · skip
    refine ziconst (k := 4) rfl (by decide) ?_
    refine zireturn (k := 5) rfl rfl rfl ?_
    unfold manQ at hQ
    rw [← hQ]
    try split at c1
    all_goals first
    | (exfalso; omega)
    | exact ⟨by first | (rw [if_pos (by omega)]; done) | (rw [if_neg (by omega), if_pos (by omega)]; done) | (rw [if_neg (by omega), if_neg (by omega), if_pos (by omega)]; done) | (rw [if_neg (by omega), if_neg (by omega), if_neg (by omega), if_pos (by omega)]; done) | (rw [if_neg (by omega), if_neg (by omega), if_neg (by omega), if_neg (by omega), if_pos (by omega)]; done) | (rw [if_neg (by omega), if_neg (by omega), if_neg (by omega), if_neg (by omega), if_neg (by omega), if_pos (by omega)]; done) | (rw [if_neg (by omega), if_neg (by omega), if_neg (by omega), if_neg (by omega), if_neg (by omega), if_neg (by omega), if_pos (by omega)]; done) | (rw [if_neg (by omega), if_neg (by omega), if_neg (by omega), if_neg (by omega), if_neg (by omega), if_neg (by omega), if_neg (by omega)]; done), rfl, rfl⟩
set_option maxHeartbeats 4000000 in
set_option maxRecDepth 20000 in
theorem c_M_known {Γ : zv_M} {L : Int} {σ Wm S : zv_H} {b : Int} (hb1 : b = 0 ∨ b = 1) (h0 : stM σ σ b 0 Wm S) (hSI : SI (Wm 0 1) (Wm 0 3) S) (hWI : WI Wm) {m c : Int}  : zC Γ m_M_known 2 0 0 (GM L) [zR 289, zI m, zI c] σ (zFn (some (zI (if (0 ≤ m ∧ m < Wm 0 3) ∧ (0 ≤ c ∧ c < Wm 0 1) then wklF S m c else -1))) (GM L) σ) := by
  refine zC_of (ls0 := [_, _, _]) zm_M_known (by decide) rfl (Nat.le_of_ble_eq_true rfl) ?_
  generalize hQ : (zFn (some (zI (if (0 ≤ m ∧ m < Wm 0 3) ∧ (0 ≤ c ∧ c < Wm 0 1) then wklF S m c else -1))) (GM L) σ) = Q
  have hb := h0.2.2.1
  have w1 := hWI.1
  have w3 := hWI.2.2.1
  have r0 := rM_0 h0.1
  have b00 := hSI.1
  have b12 := hSI.2.2.1
  have bc := hSI.2.2.2.1
  have bm := hSI.2.2.2.2.1
  have bl := hSI.2.2.2.2.2.1
  refine zaload_n (k := 0) rfl rfl ?_
  refine ziload_n (k := 1) rfl rfl ?_
  refine zfV1 (k := 2) rfl (c_M_isMan hb hb1) fm_M_isMan lk_12_495 rfl rfl ob_289 ⟨_, rfl, rfl⟩ (Nat.le_of_ble_eq_true rfl) (by decide) ⟨by decide, by decide⟩ ?_
  rw [h0.2.1.1.2.2.1]
  refine zif_eq (k := 3) rfl rfl (fun c1 => ?_) (fun c1 => ?_)
  · skip
    refine ziconst (k := 15) rfl (by decide) ?_
    refine zireturn (k := 16) rfl rfl rfl ?_
    rw [← hQ]
    first
    | exact ⟨by rw [if_pos ⟨hmm, hcc⟩]; exact szI (by omega), rfl, rfl⟩
    | exact ⟨by rw [if_neg (by omega)], rfl, rfl⟩
  · skip
    have hmm : 0 ≤ m ∧ m < Wm 0 3 := by split at c1 <;> first | assumption | (exfalso; omega)
    have rm := r0.2.2.1 m hmm.1 hmm.2
    refine zaload_n (k := 4) rfl rfl ?_
    refine ziload_n (k := 5) rfl rfl ?_
    refine zfV1 (k := 6) rfl (c_M_isCounty hb hb1) fm_M_isCounty lk_12_492 rfl rfl ob_289 ⟨_, rfl, rfl⟩ (Nat.le_of_ble_eq_true rfl) (by decide) ⟨by decide, by decide⟩ ?_
    rw [h0.2.1.1.1]
    refine zif_eq (k := 7) rfl rfl (fun c2 => ?_) (fun c2 => ?_)
    · skip
      refine ziconst (k := 15) rfl (by decide) ?_
      refine zireturn (k := 16) rfl rfl rfl ?_
      rw [← hQ]
      first
      | exact ⟨by rw [if_pos ⟨hmm, hcc⟩]; exact szI (by omega), rfl, rfl⟩
      | exact ⟨by rw [if_neg (by omega)], rfl, rfl⟩
    · skip
      have hcc : 0 ≤ c ∧ c < Wm 0 1 := by split at c2 <;> first | assumption | (exfalso; omega)
      have dd : dueM (S 9 (m * 7 + c)) = if S 9 (m * 7 + c) = 1000000 then -1 else S 9 (m * 7 + c) := rfl
      have b9 := bl (m * 7 + c) (by omega) (by omega)
      have wd : (S 9 (m * 7 + c) < 1000000 ∧ wklF S m c = max 0 (S 9 (m * 7 + c) - S 0 0)) ∨ (¬ S 9 (m * 7 + c) < 1000000 ∧ wklF S m c = -1) := by
        by_cases q : S 9 (m * 7 + c) < 1000000
        · exact Or.inl ⟨q, if_pos q⟩
        · exact Or.inr ⟨q, if_neg q⟩
      refine zaload_n (k := 8) rfl rfl ?_
      refine ziconst (k := 9) rfl (by decide) ?_
      refine ziload_n (k := 10) rfl rfl ?_
      refine ziload_n (k := 11) rfl rfl ?_
      refine zfV1 (k := 12) rfl (c_M_due ⟨by omega, by omega⟩ (by omega) (by omega)) fm_M_due lk_12_462 rfl rfl ob_289 ⟨_, rfl, rfl⟩ (Nat.le_of_ble_eq_true rfl) (by decide) ⟨by decide, by decide⟩ ?_
      rw [show 42 * (0 : Int) + 7 * m + c = 7 * m + c by omega, r0.2.2.2.1 m c hmm.1 hmm.2 hcc.1 hcc.2]
      refine ziconst (k := 13) rfl (by decide) ?_
      refine zicmp_ne (k := 14) rfl rfl (fun c3 => ?_) (fun c3 => ?_)
      · skip
        refine zaload_n (k := 17) rfl rfl ?_
        refine ziconst (k := 18) rfl (by decide) ?_
        refine ziload_n (k := 19) rfl rfl ?_
        refine ziload_n (k := 20) rfl rfl ?_
        refine zfV1 (k := 21) rfl (c_M_due ⟨by omega, by omega⟩ (by omega) (by omega)) fm_M_due lk_12_462 rfl rfl ob_289 ⟨_, rfl, rfl⟩ (Nat.le_of_ble_eq_true rfl) (by decide) ⟨by decide, by decide⟩ ?_
        rw [show 42 * (0 : Int) + 7 * m + c = 7 * m + c by omega, r0.2.2.2.1 m c hmm.1 hmm.2 hcc.1 hcc.2]
        refine zaload_n (k := 22) rfl rfl ?_
        refine zgF 45 (k := 23) rfl ob_289 fl_12_150 rfl fx_289_45 ?_
        refine ziconst (k := 24) rfl (by decide) ?_
        refine ziaload (k := 25) rfl ar_315 ⟨by omega, by omega⟩ ?_
        rw [r0.1.1]
        refine zicmp_le (k := 26) rfl rfl (fun c4 => ?_) (fun c4 => ?_)
        · skip
          refine ziconst (k := 38) rfl (by decide) ?_
          refine zireturn (k := 39) rfl rfl rfl ?_
          rw [← hQ]
          first
          | exact ⟨by rw [if_pos ⟨hmm, hcc⟩]; exact szI (by omega), rfl, rfl⟩
          | exact ⟨by rw [if_neg (by omega)], rfl, rfl⟩
        · skip
          refine zaload_n (k := 27) rfl rfl ?_
          refine ziconst (k := 28) rfl (by decide) ?_
          refine ziload_n (k := 29) rfl rfl ?_
          refine ziload_n (k := 30) rfl rfl ?_
          refine zfV1 (k := 31) rfl (c_M_due ⟨by omega, by omega⟩ (by omega) (by omega)) fm_M_due lk_12_462 rfl rfl ob_289 ⟨_, rfl, rfl⟩ (Nat.le_of_ble_eq_true rfl) (by decide) ⟨by decide, by decide⟩ ?_
          rw [show 42 * (0 : Int) + 7 * m + c = 7 * m + c by omega, r0.2.2.2.1 m c hmm.1 hmm.2 hcc.1 hcc.2]
          refine zaload_n (k := 32) rfl rfl ?_
          refine zgF 45 (k := 33) rfl ob_289 fl_12_150 rfl fx_289_45 ?_
          refine ziconst (k := 34) rfl (by decide) ?_
          refine ziaload (k := 35) rfl ar_315 ⟨by omega, by omega⟩ ?_
          rw [r0.1.1]
          refine zisubB (k := 36) rfl (by omega) ?_
          refine zgoto (k := 37) rfl rfl ?_
          refine zireturn (k := 39) rfl rfl rfl ?_
          rw [← hQ]
          first
          | exact ⟨by rw [if_pos ⟨hmm, hcc⟩]; exact szI (by omega), rfl, rfl⟩
          | exact ⟨by rw [if_neg (by omega)], rfl, rfl⟩
      · skip
        refine ziconst (k := 15) rfl (by decide) ?_
        refine zireturn (k := 16) rfl rfl rfl ?_
        rw [← hQ]
        first
        | exact ⟨by rw [if_pos ⟨hmm, hcc⟩]; exact szI (by omega), rfl, rfl⟩
        | exact ⟨by rw [if_neg (by omega)], rfl, rfl⟩
theorem zor_z : ∀ x : Fin 64, zor ((x.val : Nat) : Int) 0 = ((x.val : Nat) : Int) := by decide +kernel
theorem zor_0 {v : Int} (h : 0 ≤ v ∧ v < 64) : zor v 0 = v := by
  have r := zor_z ⟨v.toNat, by omega⟩
  dsimp only at r
  rw [show ((v.toNat : Nat) : Int) = v by omega] at r
  exact r
theorem knb_63 (Wm S : zv_H) (c : Int) {j : Nat} {n : Int} (hj : (j : Int) ≤ n) (hn : n ≤ 6) : 0 ≤ knb Wm S c j ∧ knb Wm S c j < 64 := by
  have h := knb_b Wm S c j
  have e : j = 0 ∨ j = 1 ∨ j = 2 ∨ j = 3 ∨ j = 4 ∨ j = 5 ∨ j = 6 := by omega
  rcases e with rfl | rfl | rfl | rfl | rfl | rfl | rfl <;> omega
set_option maxHeartbeats 4000000 in
set_option maxRecDepth 20000 in
theorem c_M_county {Γ : zv_M} {L : Int} {σ Wm S : zv_H} {b : Int} (hb1 : b = 0 ∨ b = 1) (h0 : stM σ σ b 0 Wm S) (hSI : SI (Wm 0 1) (Wm 0 3) S) (hWI : WI Wm) {c t : Int}  : zC Γ m_M_county 2 0 0 (GM L) [zR 289, zI c, zI t] σ (zFn (some (zI (ctyQ Wm S c t))) (GM L) σ) := by
  refine zC_of (ls0 := [_, _, _, _, _]) zm_M_county (by decide) rfl (Nat.le_of_ble_eq_true rfl) ?_
  generalize hQ : (zFn (some (zI (ctyQ Wm S c t))) (GM L) σ) = Q
  have hb := h0.2.2.1
  have w1 := hWI.1
  have w3 := hWI.2.2.1
  have r0 := rM_0 h0.1
  have b00 := hSI.1
  have b12 := hSI.2.2.1
  have bc := hSI.2.2.2.1
  have bm := hSI.2.2.2.2.1
  have bl := hSI.2.2.2.2.2.1
  refine zaload_n (k := 0) rfl rfl ?_
  refine ziload_n (k := 1) rfl rfl ?_
  refine zfV1 (k := 2) rfl (c_M_isCounty hb hb1) fm_M_isCounty lk_12_492 rfl rfl ob_289 ⟨_, rfl, rfl⟩ (Nat.le_of_ble_eq_true rfl) (by decide) ⟨by decide, by decide⟩ ?_
  rw [h0.2.1.1.1]
  refine zif_ne (k := 3) rfl rfl (fun c1 => ?_) (fun c1 => ?_)
  · skip
    have hcc : 0 ≤ c ∧ c < Wm 0 1 := by split at c1 <;> first | assumption | (exfalso; omega)
    have rc := r0.2.1 c hcc.1 hcc.2
    refine ziload_n (k := 6) rfl rfl ?_
    refine ztabC (k := 7) (v := 0) 0 rfl rfl (by decide) rfl rfl (fun c2 => ?_) (fun c2 => ?_)
    · skip
      refine zaload_n (k := 8) rfl rfl ?_
      refine zgF 46 (k := 9) rfl ob_289 fl_12_153 rfl fx_289_46 ?_
      refine ziload_n (k := 10) rfl rfl ?_
      refine ziaload (k := 11) rfl ar_316 ⟨by omega, by omega⟩ ?_
      rw [rc.1]
      refine zireturn (k := 12) rfl rfl rfl ?_
      unfold ctyQ at hQ
      rw [← hQ]
      try split at c1
      all_goals first
      | (exfalso; omega)
      | exact ⟨by first | (rw [if_pos (by omega)]; done) | (rw [if_neg (by omega), if_pos (by omega)]; done) | (rw [if_neg (by omega), if_neg (by omega), if_pos (by omega)]; done) | (rw [if_neg (by omega), if_neg (by omega), if_neg (by omega), if_pos (by omega)]; done) | (rw [if_neg (by omega), if_neg (by omega), if_neg (by omega), if_neg (by omega), if_pos (by omega)]; done) | (rw [if_neg (by omega), if_neg (by omega), if_neg (by omega), if_neg (by omega), if_neg (by omega)]; done), rfl, rfl⟩
    refine ztabC (k := 7) (v := 1) 1 rfl rfl (by decide) rfl rfl (fun c3 => ?_) (fun c3 => ?_)
    · skip
      refine zaload_n (k := 13) rfl rfl ?_
      refine zgF 47 (k := 14) rfl ob_289 fl_12_156 rfl fx_289_47 ?_
      refine ziload_n (k := 15) rfl rfl ?_
      refine ziaload (k := 16) rfl ar_317 ⟨by omega, by omega⟩ ?_
      rw [rc.2.1]
      refine zireturn (k := 17) rfl rfl rfl ?_
      unfold ctyQ at hQ
      rw [← hQ]
      try split at c1
      all_goals first
      | (exfalso; omega)
      | exact ⟨by first | (rw [if_pos (by omega)]; done) | (rw [if_neg (by omega), if_pos (by omega)]; done) | (rw [if_neg (by omega), if_neg (by omega), if_pos (by omega)]; done) | (rw [if_neg (by omega), if_neg (by omega), if_neg (by omega), if_pos (by omega)]; done) | (rw [if_neg (by omega), if_neg (by omega), if_neg (by omega), if_neg (by omega), if_pos (by omega)]; done) | (rw [if_neg (by omega), if_neg (by omega), if_neg (by omega), if_neg (by omega), if_neg (by omega)]; done), rfl, rfl⟩
    refine ztabC (k := 7) (v := 2) 2 rfl rfl (by decide) rfl rfl (fun c4 => ?_) (fun c4 => ?_)
    · skip
      refine zaload_n (k := 18) rfl rfl ?_
      refine zgF 48 (k := 19) rfl ob_289 fl_12_159 rfl fx_289_48 ?_
      refine ziload_n (k := 20) rfl rfl ?_
      refine ziaload (k := 21) rfl ar_318 ⟨by omega, by omega⟩ ?_
      rw [rc.2.2]
      refine zireturn (k := 22) rfl rfl rfl ?_
      unfold ctyQ at hQ
      rw [← hQ]
      try split at c1
      all_goals first
      | (exfalso; omega)
      | exact ⟨by first | (rw [if_pos (by omega)]; done) | (rw [if_neg (by omega), if_pos (by omega)]; done) | (rw [if_neg (by omega), if_neg (by omega), if_pos (by omega)]; done) | (rw [if_neg (by omega), if_neg (by omega), if_neg (by omega), if_pos (by omega)]; done) | (rw [if_neg (by omega), if_neg (by omega), if_neg (by omega), if_neg (by omega), if_pos (by omega)]; done) | (rw [if_neg (by omega), if_neg (by omega), if_neg (by omega), if_neg (by omega), if_neg (by omega)]; done), rfl, rfl⟩
    refine ztabC (k := 7) (v := 3) 3 rfl rfl (by decide) rfl rfl (fun c5 => ?_) (fun c5 => ?_)
    · skip
      refine ziconst (k := 23) rfl (by decide) ?_
      refine zistore_n (k := 24) (ls' := [_, _, _, _, _]) rfl (Nat.le_of_ble_eq_true rfl) rfl ?_
      refine ziconst (k := 25) rfl (by decide) ?_
      refine zistore (k := 26) (ls' := [_, _, _, _, _]) rfl (Nat.le_of_ble_eq_true rfl) rfl ?_
      refine zforget (ls' := [_, _, _, _, _]) 2 rfl ?_
      have lp66 : ∀ (g : Nat) (j : Nat), ((Wm 0 3).toNat - j) < g → ((j : Int) ≤ Wm 0 3) → zV Γ m_M_county 2 0 0 Q (GM L) (0, 0) 66 [some (zR 289), some (zI c), none, some (zI (knb Wm S c j)), some (zI j)] [] σ := by
        intro g
        induction g with
        | zero => intro j hg; exact absurd hg (Nat.not_lt_zero _)
        | succ g ih66 =>
          intro j hg hj
          refine ziload (k := 27) rfl rfl ?_
          refine zaload_n (k := 28) rfl rfl ?_
          refine zgF 21 (k := 29) rfl ob_289 fl_12_75 rfl fx_289_21 ?_
          refine zaload_n (k := 30) rfl rfl ?_
          refine zgI 13 (k := 31) rfl ob_289 fl_12_51 rfl fx_289_13 ?_
          rw [hb]
          refine ziaload (k := 32) rfl ar_298 ⟨by omega, by omega⟩ ?_
          rw [h0.2.1.1.2.2.1]
          refine zicmp_ge (k := 33) rfl rfl (fun c6 => ?_) (fun c6 => ?_)
          · skip
            rw [show j = (Wm 0 3).toNat by omega]
            refine ziload_n (k := 54) rfl rfl ?_
            refine zireturn (k := 55) rfl rfl rfl ?_
            unfold ctyQ at hQ
            rw [← hQ]
            try split at c1
            all_goals first
            | (exfalso; omega)
            | exact ⟨by first | (rw [if_pos (by omega)]; done) | (rw [if_neg (by omega), if_pos (by omega)]; done) | (rw [if_neg (by omega), if_neg (by omega), if_pos (by omega)]; done) | (rw [if_neg (by omega), if_neg (by omega), if_neg (by omega), if_pos (by omega)]; done) | (rw [if_neg (by omega), if_neg (by omega), if_neg (by omega), if_neg (by omega), if_pos (by omega)]; done) | (rw [if_neg (by omega), if_neg (by omega), if_neg (by omega), if_neg (by omega), if_neg (by omega)]; done), rfl, rfl⟩
          · skip
            refine ziload_n (k := 34) rfl rfl ?_
            refine zaload_n (k := 35) rfl rfl ?_
            refine ziconst (k := 36) rfl (by decide) ?_
            refine ziload (k := 37) rfl rfl ?_
            refine ziload_n (k := 38) rfl rfl ?_
            refine zaload_n (k := 39) rfl rfl ?_
            refine zgF 45 (k := 40) rfl ob_289 fl_12_150 rfl fx_289_45 ?_
            refine ziconst (k := 41) rfl (by decide) ?_
            refine ziaload (k := 42) rfl ar_315 ⟨by omega, by omega⟩ ?_
            rw [r0.1.1]
            refine zfV1 (k := 43) rfl (c_M_isKnown hb1 ⟨by omega, by omega⟩ h0 hSI hWI ⟨by omega, by omega⟩ hcc (by omega)) fm_M_isKnown lk_12_465 rfl rfl ob_289 ⟨_, rfl, rfl⟩ (Nat.le_of_ble_eq_true rfl) (by decide) ⟨by decide, by decide⟩ ?_
            refine zif_eq (k := 44) rfl rfl (fun c7 => ?_) (fun c7 => ?_)
            · skip
              refine ziconst (k := 49) rfl (by decide) ?_
              refine zior (k := 50) rfl ?_
              first
              | (have kt := zB_t (by assumption)
                 rw [zor_bit (by omega) (knb_b Wm S c j), show knb Wm S c j + 2 ^ j = knb Wm S c (j + 1) from (if_pos kt).symm])
              | (have kt := zB_f (by assumption)
                 have kb := knb_b Wm S c j
                 rw [zor_0 (by have := knb_63 Wm S c hj w3.2; omega), show knb Wm S c j = knb Wm S c (j + 1) from (if_neg kt).symm])
              refine zistore_n (k := 51) (ls' := [_, _, _, _, _]) rfl (Nat.le_of_ble_eq_true rfl) rfl ?_
              refine ziincB (k := 52) (ls' := [_, _, _, _, _]) rfl rfl (by decide) (by omega) rfl ?_
              refine zgoto (k := 53) rfl rfl ?_
              exact ih66 (j + 1) (by omega) (by omega)
            · skip
              refine ziconst (k := 45) rfl (by decide) ?_
              refine ziload (k := 46) rfl rfl ?_
              refine zishl (k := 47) rfl ?_
              skip
              refine zgoto (k := 48) rfl rfl ?_
              refine zior (k := 50) rfl ?_
              first
              | (have kt := zB_t (by assumption)
                 rw [zor_bit (by omega) (knb_b Wm S c j), show knb Wm S c j + 2 ^ j = knb Wm S c (j + 1) from (if_pos kt).symm])
              | (have kt := zB_f (by assumption)
                 have kb := knb_b Wm S c j
                 rw [zor_0 (by have := knb_63 Wm S c hj w3.2; omega), show knb Wm S c j = knb Wm S c (j + 1) from (if_neg kt).symm])
              refine zistore_n (k := 51) (ls' := [_, _, _, _, _]) rfl (Nat.le_of_ble_eq_true rfl) rfl ?_
              refine ziincB (k := 52) (ls' := [_, _, _, _, _]) rfl rfl (by decide) (by omega) rfl ?_
              refine zgoto (k := 53) rfl rfl ?_
              exact ih66 (j + 1) (by omega) (by omega)
      exact lp66 _ 0 (Nat.lt_succ_self _) (by omega)
    refine ztabOut (k := 7) rfl (by omega) rfl ?_
    refine ziconst (k := 56) rfl (by decide) ?_
    refine zireturn (k := 57) rfl rfl rfl ?_
    unfold ctyQ at hQ
    rw [← hQ]
    try split at c1
    all_goals first
    | (exfalso; omega)
    | exact ⟨by first | (rw [if_pos (by omega)]; done) | (rw [if_neg (by omega), if_pos (by omega)]; done) | (rw [if_neg (by omega), if_neg (by omega), if_pos (by omega)]; done) | (rw [if_neg (by omega), if_neg (by omega), if_neg (by omega), if_pos (by omega)]; done) | (rw [if_neg (by omega), if_neg (by omega), if_neg (by omega), if_neg (by omega), if_pos (by omega)]; done) | (rw [if_neg (by omega), if_neg (by omega), if_neg (by omega), if_neg (by omega), if_neg (by omega)]; done), rfl, rfl⟩
  · skip
    refine ziconst (k := 4) rfl (by decide) ?_
    refine zireturn (k := 5) rfl rfl rfl ?_
    unfold ctyQ at hQ
    rw [← hQ]
    try split at c1
    all_goals first
    | (exfalso; omega)
    | exact ⟨by first | (rw [if_pos (by omega)]; done) | (rw [if_neg (by omega), if_pos (by omega)]; done) | (rw [if_neg (by omega), if_neg (by omega), if_pos (by omega)]; done) | (rw [if_neg (by omega), if_neg (by omega), if_neg (by omega), if_pos (by omega)]; done) | (rw [if_neg (by omega), if_neg (by omega), if_neg (by omega), if_neg (by omega), if_pos (by omega)]; done) | (rw [if_neg (by omega), if_neg (by omega), if_neg (by omega), if_neg (by omega), if_neg (by omega)]; done), rfl, rfl⟩
