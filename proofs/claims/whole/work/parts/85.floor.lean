/-! the model reckons -/
theorem flo_t {x y : Int} (hy : y ≠ 0) : x.fdiv y = if ¬ x.tmod y = 0 ∧ ¬ (x < 0 ↔ y < 0) then x.tdiv y - 1 else x.tdiv y := by
  have e := Int.mul_tdiv_add_tmod x y
  rw [fdiv_t hy]
  by_cases h : x.tmod y = 0
  · rw [if_neg (fun q => q.2 (by rw [Int.mul_comm]; omega)), if_neg (fun q => q.1 h)]
  · by_cases h2 : x < 0 ↔ y < 0
    · rw [if_neg (fun q => by have q1 := q.1; omega), if_neg (fun q => q.2 h2)]
    · rw [if_pos ⟨by omega, fun q => h (by rw [Int.mul_comm] at q; omega)⟩, if_pos ⟨h, h2⟩]
set_option maxHeartbeats 4000000 in
set_option maxRecDepth 20000 in
theorem c_M_floor {Γ : zv_M} {L : Int} {x q : Int} {σ : zv_H} (hx : -1000000 ≤ x ∧ x ≤ 1000000) (hq : -1000000 ≤ q ∧ q ≤ 1000000) : zC Γ m_M_floor 0 0 0 (GM L) [zL x, zL q] σ (zFn (some (zL (if q = 0 then 0 else x.fdiv q))) (GM L) σ) := by
  refine zC_of (ls0 := [_, _, _, _, _, _]) zm_M_floor (by decide) rfl (Nat.le_of_ble_eq_true rfl) ?_
  generalize hQ : (zFn (some (zL (if q = 0 then 0 else x.fdiv q))) (GM L) σ) = Q
  refine zlload_n (k := 0) rfl rfl ?_
  refine zlconst (k := 1) (z := 0) rfl rfl ?_
  refine zlcmp (k := 2) rfl ?_
  refine zif_ne (k := 3) rfl rfl (fun c1 => ?_) (fun c1 => ?_)
  · skip
    have h0 : q ≠ 0 := by simp only [ne_eq, zcc2] at *; assumption
    have hd1 := tdiv_b h0 hx
    have hd3 := tmod_b (q := q) hx
    refine zlload_n (k := 6) rfl rfl ?_
    refine zlload_n (k := 7) rfl rfl ?_
    refine zldiv (k := 8) rfl (by simp only [ne_eq, zcc2] at *; assumption) ?_
    rw [w64_id (by omega) (by omega)]
    refine zlstore (k := 9) (ls' := [_, _, _, _, _, _]) rfl (Nat.le_of_ble_eq_true rfl) rfl ?_
    refine zlload_n (k := 10) rfl rfl ?_
    refine zlload_n (k := 11) rfl rfl ?_
    refine zlrem (k := 12) rfl (by simp only [ne_eq, zcc2] at *; assumption) ?_
    refine zlconst (k := 13) (z := 0) rfl rfl ?_
    refine zlcmp (k := 14) rfl ?_
    refine zif_eq (k := 15) rfl rfl (fun c2 => ?_) (fun c2 => ?_)
    · skip
      refine zlload (k := 35) rfl rfl ?_
      refine zlreturn (k := 36) rfl rfl rfl ?_
      rw [← hQ]
      simp only [ne_eq, zcc1, zcc2, zcc3, zcc4, zcc5] at *
      first
      | exact ⟨by rw [if_pos (by assumption)], rfl, rfl⟩
      | exact ⟨by rw [if_neg h0, flo_t h0, if_pos ⟨by assumption, by omega⟩], rfl, rfl⟩
      | exact ⟨by rw [if_neg h0, flo_t h0, if_neg (by omega)], rfl, rfl⟩
      | exact ⟨by rw [if_neg h0, flo_t h0, if_neg (fun r => by omega)], rfl, rfl⟩
    · skip
      refine zlload_n (k := 16) rfl rfl ?_
      refine zlconst (k := 17) (z := 0) rfl rfl ?_
      refine zlcmp (k := 18) rfl ?_
      refine zif_ge (k := 19) rfl rfl (fun c3 => ?_) (fun c3 => ?_)
      · skip
        refine ziconst (k := 22) rfl (by decide) ?_
        refine zlload_n (k := 23) rfl rfl ?_
        refine zlconst (k := 24) (z := 0) rfl rfl ?_
        refine zlcmp (k := 25) rfl ?_
        refine zif_ge (k := 26) rfl rfl (fun c4 => ?_) (fun c4 => ?_)
        · skip
          refine ziconst (k := 29) rfl (by decide) ?_
          refine zicmp_eq (k := 30) rfl rfl (fun c5 => ?_) (fun c5 => ?_)
          · skip
            refine zlload (k := 35) rfl rfl ?_
            refine zlreturn (k := 36) rfl rfl rfl ?_
            rw [← hQ]
            simp only [ne_eq, zcc1, zcc2, zcc3, zcc4, zcc5] at *
            first
            | exact ⟨by rw [if_pos (by assumption)], rfl, rfl⟩
            | exact ⟨by rw [if_neg h0, flo_t h0, if_pos ⟨by assumption, by omega⟩], rfl, rfl⟩
            | exact ⟨by rw [if_neg h0, flo_t h0, if_neg (by omega)], rfl, rfl⟩
            | exact ⟨by rw [if_neg h0, flo_t h0, if_neg (fun r => by omega)], rfl, rfl⟩
          · exact absurd c5 (by omega)
        · skip
          refine ziconst (k := 27) rfl (by decide) ?_
          refine zgoto (k := 28) rfl rfl ?_
          refine zicmp_eq (k := 30) rfl rfl (fun c6 => ?_) (fun c6 => ?_)
          · exact absurd c6 (by omega)
          refine zlload (k := 31) rfl rfl ?_
          refine zlconst (k := 32) (z := 1) rfl rfl ?_
          refine zlsubB (k := 33) rfl (by omega) ?_
          refine zgoto (k := 34) rfl rfl ?_
          refine zlreturn (k := 36) rfl rfl rfl ?_
          rw [← hQ]
          simp only [ne_eq, zcc1, zcc2, zcc3, zcc4, zcc5] at *
          first
          | exact ⟨by rw [if_pos (by assumption)], rfl, rfl⟩
          | exact ⟨by rw [if_neg h0, flo_t h0, if_pos ⟨by assumption, by omega⟩], rfl, rfl⟩
          | exact ⟨by rw [if_neg h0, flo_t h0, if_neg (by omega)], rfl, rfl⟩
          | exact ⟨by rw [if_neg h0, flo_t h0, if_neg (fun r => by omega)], rfl, rfl⟩
      · skip
        refine ziconst (k := 20) rfl (by decide) ?_
        refine zgoto (k := 21) rfl rfl ?_
        refine zlload_n (k := 23) rfl rfl ?_
        refine zlconst (k := 24) (z := 0) rfl rfl ?_
        refine zlcmp (k := 25) rfl ?_
        refine zif_ge (k := 26) rfl rfl (fun c7 => ?_) (fun c7 => ?_)
        · skip
          refine ziconst (k := 29) rfl (by decide) ?_
          refine zicmp_eq (k := 30) rfl rfl (fun c8 => ?_) (fun c8 => ?_)
          · exact absurd c8 (by omega)
          refine zlload (k := 31) rfl rfl ?_
          refine zlconst (k := 32) (z := 1) rfl rfl ?_
          refine zlsubB (k := 33) rfl (by omega) ?_
          refine zgoto (k := 34) rfl rfl ?_
          refine zlreturn (k := 36) rfl rfl rfl ?_
          rw [← hQ]
          simp only [ne_eq, zcc1, zcc2, zcc3, zcc4, zcc5] at *
          first
          | exact ⟨by rw [if_pos (by assumption)], rfl, rfl⟩
          | exact ⟨by rw [if_neg h0, flo_t h0, if_pos ⟨by assumption, by omega⟩], rfl, rfl⟩
          | exact ⟨by rw [if_neg h0, flo_t h0, if_neg (by omega)], rfl, rfl⟩
          | exact ⟨by rw [if_neg h0, flo_t h0, if_neg (fun r => by omega)], rfl, rfl⟩
        · skip
          refine ziconst (k := 27) rfl (by decide) ?_
          refine zgoto (k := 28) rfl rfl ?_
          refine zicmp_eq (k := 30) rfl rfl (fun c9 => ?_) (fun c9 => ?_)
          · skip
            refine zlload (k := 35) rfl rfl ?_
            refine zlreturn (k := 36) rfl rfl rfl ?_
            rw [← hQ]
            simp only [ne_eq, zcc1, zcc2, zcc3, zcc4, zcc5] at *
            first
            | exact ⟨by rw [if_pos (by assumption)], rfl, rfl⟩
            | exact ⟨by rw [if_neg h0, flo_t h0, if_pos ⟨by assumption, by omega⟩], rfl, rfl⟩
            | exact ⟨by rw [if_neg h0, flo_t h0, if_neg (by omega)], rfl, rfl⟩
            | exact ⟨by rw [if_neg h0, flo_t h0, if_neg (fun r => by omega)], rfl, rfl⟩
          · exact absurd c9 (by omega)
  · skip
    refine zlconst (k := 4) (z := 0) rfl rfl ?_
    refine zlreturn (k := 5) rfl rfl rfl ?_
    rw [← hQ]
    simp only [ne_eq, zcc1, zcc2, zcc3, zcc4, zcc5] at *
    first
    | exact ⟨by rw [if_pos (by assumption)], rfl, rfl⟩
    | exact ⟨by rw [if_neg h0, flo_t h0, if_pos ⟨by assumption, by omega⟩], rfl, rfl⟩
    | exact ⟨by rw [if_neg h0, flo_t h0, if_neg (by omega)], rfl, rfl⟩
    | exact ⟨by rw [if_neg h0, flo_t h0, if_neg (fun r => by omega)], rfl, rfl⟩
theorem fmod_b {x y : Int} (hy : y ≠ 0) (h1 : -1000000 ≤ y ∧ y ≤ 1000000) : x - y * x.fdiv y = x.fmod y ∧ -1000000 ≤ x.fmod y ∧ x.fmod y ≤ 1000000 := by
  have e := Int.mul_fdiv_add_fmod x y
  refine ⟨by omega, ?_⟩
  by_cases h : 0 < y
  · have a := Int.fmod_nonneg_of_pos x h
    have b := Int.fmod_lt_of_pos x h
    omega
  · have hy2 : y < 0 := by omega
    have e2 : x.fmod y = -((-x).fmod (-y)) := by
      have := Int.neg_fmod_neg x y
      omega
    have a := Int.fmod_nonneg_of_pos (-x) (show 0 < -y by omega)
    have b := Int.fmod_lt_of_pos (-x) (show 0 < -y by omega)
    omega
theorem jn_cl {s x y : Int} (hs : s = -15 ∨ s = -16 ∨ s = -17 ∨ s = -18 ∨ s = -19) (hx : -1000000 ≤ x ∧ x ≤ 1000000) (hy : -1000000 ≤ y ∧ y ≤ 1000000) : max (-1000000) (min 1000000 (jn s x y)) = jn s x y := by
  have h : -1000000 ≤ jn s x y ∧ jn s x y ≤ 1000000 := by
    unfold jn
    rcases hs with rfl | rfl | rfl | rfl | rfl <;> simp <;> (repeat' split) <;> omega
  omega
