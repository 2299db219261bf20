set_option maxHeartbeats 4000000 in
set_option maxRecDepth 20000 in
theorem c_M_two {Γ : zv_M} {L : Int} {c x q : Int} {σ : zv_H} (hc : 31 ≤ c ∧ c ≤ 42) (hx : -1000000 ≤ x ∧ x ≤ 1000000) (hq : -1000000 ≤ q ∧ q ≤ 1000000) (hl : 41 ≤ c → (x = 0 ∨ x = 1) ∧ (q = 0 ∨ q = 1)) : zC Γ m_M_two 1 0 0 (GM L) [zI c, zL x, zL q] σ (zFn (some (zL (max (-1000000) (min 1000000 (jn (21 - c) x q))))) (GM L) σ) := by
  refine zC_of (ls0 := [_, _, _, _, _]) zm_M_two (by decide) rfl (Nat.le_of_ble_eq_true rfl) ?_
  generalize hQ : (zFn (some (zL (max (-1000000) (min 1000000 (jn (21 - c) x q))))) (GM L) σ) = Q
  have hm := mul_b6 hx hq
  refine ziload_n (k := 0) rfl rfl ?_
  refine ztabC (k := 1) (v := 31) 0 rfl rfl (by decide) rfl rfl (fun c1 => ?_) (fun c1 => ?_)
  · skip
    refine zlload_n (k := 2) rfl rfl ?_
    refine zlload_n (k := 3) rfl rfl ?_
    refine zladdB (k := 4) rfl (by omega) ?_
    refine zfS1 (k := 5) rfl c_M_held fm_M_held lk_12_427 rfl rfl (Nat.le_of_ble_eq_true rfl) (by decide) ⟨by decide, by decide⟩ ?_
    refine zlreturn (k := 6) rfl rfl rfl ?_
    rw [← hQ]
    refine ⟨?_, rfl, rfl⟩
    try simp only [ne_eq, zcc1, zcc2, zcc3, zcc4, zcc5] at *
    (have e : c = 31 := (by omega); subst e; rfl)
  refine ztabC (k := 1) (v := 32) 1 rfl rfl (by decide) rfl rfl (fun c2 => ?_) (fun c2 => ?_)
  · skip
    refine zlload_n (k := 7) rfl rfl ?_
    refine zlload_n (k := 8) rfl rfl ?_
    refine zlsubB (k := 9) rfl (by omega) ?_
    refine zfS1 (k := 10) rfl c_M_held fm_M_held lk_12_427 rfl rfl (Nat.le_of_ble_eq_true rfl) (by decide) ⟨by decide, by decide⟩ ?_
    refine zlreturn (k := 11) rfl rfl rfl ?_
    rw [← hQ]
    refine ⟨?_, rfl, rfl⟩
    try simp only [ne_eq, zcc1, zcc2, zcc3, zcc4, zcc5] at *
    (have e : c = 32 := (by omega); subst e; rfl)
  refine ztabC (k := 1) (v := 33) 2 rfl rfl (by decide) rfl rfl (fun c3 => ?_) (fun c3 => ?_)
  · skip
    refine zlload_n (k := 12) rfl rfl ?_
    refine zlload_n (k := 13) rfl rfl ?_
    refine zlmulB (k := 14) rfl (by omega) ?_
    refine zfS1 (k := 15) rfl c_M_held fm_M_held lk_12_427 rfl rfl (Nat.le_of_ble_eq_true rfl) (by decide) ⟨by decide, by decide⟩ ?_
    refine zlreturn (k := 16) rfl rfl rfl ?_
    rw [← hQ]
    refine ⟨?_, rfl, rfl⟩
    try simp only [ne_eq, zcc1, zcc2, zcc3, zcc4, zcc5] at *
    (have e : c = 33 := (by omega); subst e; rfl)
  refine ztabC (k := 1) (v := 34) 3 rfl rfl (by decide) rfl rfl (fun c4 => ?_) (fun c4 => ?_)
  · skip
    refine zlload_n (k := 17) rfl rfl ?_
    refine zlload_n (k := 18) rfl rfl ?_
    refine zfS1 (k := 19) rfl (c_M_floor (by omega) (by omega)) fm_M_floor lk_12_431 rfl rfl (Nat.le_of_ble_eq_true rfl) (by decide) ⟨by decide, by decide⟩ ?_
    refine zfS1 (k := 20) rfl c_M_held fm_M_held lk_12_427 rfl rfl (Nat.le_of_ble_eq_true rfl) (by decide) ⟨by decide, by decide⟩ ?_
    refine zlreturn (k := 21) rfl rfl rfl ?_
    rw [← hQ]
    refine ⟨?_, rfl, rfl⟩
    try simp only [ne_eq, zcc1, zcc2, zcc3, zcc4, zcc5] at *
    (have e : c = 34 := (by omega); subst e; rfl)
  refine ztabC (k := 1) (v := 35) 4 rfl rfl (by decide) rfl rfl (fun c5 => ?_) (fun c5 => ?_)
  · skip
    refine zlload_n (k := 22) rfl rfl ?_
    refine zlconst (k := 23) (z := 0) rfl rfl ?_
    refine zlcmp (k := 24) rfl ?_
    refine zif_ne (k := 25) rfl rfl (fun c6 => ?_) (fun c6 => ?_)
    · skip
      refine zlload_n (k := 28) rfl rfl ?_
      refine zlload_n (k := 29) rfl rfl ?_
      refine zlload_n (k := 30) rfl rfl ?_
      refine zlload_n (k := 31) rfl rfl ?_
      refine zfS1 (k := 32) rfl (c_M_floor (by omega) (by omega)) fm_M_floor lk_12_431 rfl rfl (Nat.le_of_ble_eq_true rfl) (by decide) ⟨by decide, by decide⟩ ?_
      have h0 : q ≠ 0 := by simp only [ne_eq, zcc2] at *; assumption
      have fb := fmod_b (x := x) h0 hq
      rw [if_neg h0]
      refine zlmulB (k := 33) rfl (by omega) ?_
      refine zlsubB (k := 34) rfl (by omega) ?_
      refine zfS1 (k := 35) rfl c_M_held fm_M_held lk_12_427 rfl rfl (Nat.le_of_ble_eq_true rfl) (by decide) ⟨by decide, by decide⟩ ?_
      refine zlreturn (k := 36) rfl rfl rfl ?_
      rw [← hQ]
      refine ⟨?_, rfl, rfl⟩
      try simp only [ne_eq, zcc1, zcc2, zcc3, zcc4, zcc5] at *
      (have e : c = 35 := (by omega); subst e; rw [show jn (21 - 35) x q = if q = 0 then 0 else x.fmod q from rfl]; first | (rw [if_pos (by assumption)]; rfl) | (rw [if_neg (by assumption), fb.1]))
    · skip
      refine zlconst (k := 26) (z := 0) rfl rfl ?_
      refine zgoto (k := 27) rfl rfl ?_
      refine zlreturn (k := 36) rfl rfl rfl ?_
      rw [← hQ]
      refine ⟨?_, rfl, rfl⟩
      try simp only [ne_eq, zcc1, zcc2, zcc3, zcc4, zcc5] at *
      (have e : c = 35 := (by omega); subst e; rw [show jn (21 - 35) x q = if q = 0 then 0 else x.fmod q from rfl]; first | (rw [if_pos (by assumption)]; rfl) | (rw [if_neg (by assumption), fb.1]))
  refine ztabC (k := 1) (v := 36) 5 rfl rfl (by decide) rfl rfl (fun c7 => ?_) (fun c7 => ?_)
  · skip
    refine zlload_n (k := 37) rfl rfl ?_
    refine zlload_n (k := 38) rfl rfl ?_
    refine zlcmp (k := 39) rfl ?_
    refine zif_ge (k := 40) rfl rfl (fun c8 => ?_) (fun c8 => ?_)
    · skip
      refine zlload_n (k := 43) rfl rfl ?_
      refine zlreturn (k := 44) rfl rfl rfl ?_
      rw [← hQ]
      refine ⟨?_, rfl, rfl⟩
      try simp only [ne_eq, zcc1, zcc2, zcc3, zcc4, zcc5] at *
      (have e : c = 36 := (by omega); subst e; rw [show max (-1000000) (min 1000000 (jn (21 - 36) x q)) = min x q from jn_cl (Or.inl rfl) hx hq]; first | (rw [show min x q = x by omega]; done) | (rw [show min x q = q by omega]; done))
    · skip
      refine zlload_n (k := 41) rfl rfl ?_
      refine zgoto (k := 42) rfl rfl ?_
      refine zlreturn (k := 44) rfl rfl rfl ?_
      rw [← hQ]
      refine ⟨?_, rfl, rfl⟩
      try simp only [ne_eq, zcc1, zcc2, zcc3, zcc4, zcc5] at *
      (have e : c = 36 := (by omega); subst e; rw [show max (-1000000) (min 1000000 (jn (21 - 36) x q)) = min x q from jn_cl (Or.inl rfl) hx hq]; first | (rw [show min x q = x by omega]; done) | (rw [show min x q = q by omega]; done))
  refine ztabC (k := 1) (v := 37) 6 rfl rfl (by decide) rfl rfl (fun c9 => ?_) (fun c9 => ?_)
  · skip
    refine zlload_n (k := 45) rfl rfl ?_
    refine zlload_n (k := 46) rfl rfl ?_
    refine zlcmp (k := 47) rfl ?_
    refine zif_le (k := 48) rfl rfl (fun c10 => ?_) (fun c10 => ?_)
    · skip
      refine zlload_n (k := 51) rfl rfl ?_
      refine zlreturn (k := 52) rfl rfl rfl ?_
      rw [← hQ]
      refine ⟨?_, rfl, rfl⟩
      try simp only [ne_eq, zcc1, zcc2, zcc3, zcc4, zcc5] at *
      (have e : c = 37 := (by omega); subst e; rw [show max (-1000000) (min 1000000 (jn (21 - 37) x q)) = max x q from jn_cl (Or.inr (Or.inl rfl)) hx hq]; first | (rw [show max x q = x by omega]; done) | (rw [show max x q = q by omega]; done))
    · skip
      refine zlload_n (k := 49) rfl rfl ?_
      refine zgoto (k := 50) rfl rfl ?_
      refine zlreturn (k := 52) rfl rfl rfl ?_
      rw [← hQ]
      refine ⟨?_, rfl, rfl⟩
      try simp only [ne_eq, zcc1, zcc2, zcc3, zcc4, zcc5] at *
      (have e : c = 37 := (by omega); subst e; rw [show max (-1000000) (min 1000000 (jn (21 - 37) x q)) = max x q from jn_cl (Or.inr (Or.inl rfl)) hx hq]; first | (rw [show max x q = x by omega]; done) | (rw [show max x q = q by omega]; done))
  refine ztabC (k := 1) (v := 38) 7 rfl rfl (by decide) rfl rfl (fun c11 => ?_) (fun c11 => ?_)
  · skip
    refine zlload_n (k := 53) rfl rfl ?_
    refine zlload_n (k := 54) rfl rfl ?_
    refine zlcmp (k := 55) rfl ?_
    refine zif_ge (k := 56) rfl rfl (fun c12 => ?_) (fun c12 => ?_)
    · skip
      refine zlconst (k := 59) (z := 0) rfl rfl ?_
      refine zlreturn (k := 60) rfl rfl rfl ?_
      rw [← hQ]
      refine ⟨?_, rfl, rfl⟩
      try simp only [ne_eq, zcc1, zcc2, zcc3, zcc4, zcc5] at *
      (have e : c = 38 := (by omega); subst e; rw [show max (-1000000) (min 1000000 (jn (21 - 38) x q)) = if x < q then 1 else 0 from jn_cl (Or.inr (Or.inr (Or.inl rfl))) hx hq]; first | (rw [if_pos (by omega)]; done) | (rw [if_neg (by omega)]; done))
    · skip
      refine zlconst (k := 57) (z := 1) rfl rfl ?_
      refine zgoto (k := 58) rfl rfl ?_
      refine zlreturn (k := 60) rfl rfl rfl ?_
      rw [← hQ]
      refine ⟨?_, rfl, rfl⟩
      try simp only [ne_eq, zcc1, zcc2, zcc3, zcc4, zcc5] at *
      (have e : c = 38 := (by omega); subst e; rw [show max (-1000000) (min 1000000 (jn (21 - 38) x q)) = if x < q then 1 else 0 from jn_cl (Or.inr (Or.inr (Or.inl rfl))) hx hq]; first | (rw [if_pos (by omega)]; done) | (rw [if_neg (by omega)]; done))
  refine ztabC (k := 1) (v := 39) 8 rfl rfl (by decide) rfl rfl (fun c13 => ?_) (fun c13 => ?_)
  · skip
    refine zlload_n (k := 61) rfl rfl ?_
    refine zlload_n (k := 62) rfl rfl ?_
    refine zlcmp (k := 63) rfl ?_
    refine zif_le (k := 64) rfl rfl (fun c14 => ?_) (fun c14 => ?_)
    · skip
      refine zlconst (k := 67) (z := 0) rfl rfl ?_
      refine zlreturn (k := 68) rfl rfl rfl ?_
      rw [← hQ]
      refine ⟨?_, rfl, rfl⟩
      try simp only [ne_eq, zcc1, zcc2, zcc3, zcc4, zcc5] at *
      (have e : c = 39 := (by omega); subst e; rw [show max (-1000000) (min 1000000 (jn (21 - 39) x q)) = if q < x then 1 else 0 from jn_cl (Or.inr (Or.inr (Or.inr (Or.inl rfl)))) hx hq]; first | (rw [if_pos (by omega)]; done) | (rw [if_neg (by omega)]; done))
    · skip
      refine zlconst (k := 65) (z := 1) rfl rfl ?_
      refine zgoto (k := 66) rfl rfl ?_
      refine zlreturn (k := 68) rfl rfl rfl ?_
      rw [← hQ]
      refine ⟨?_, rfl, rfl⟩
      try simp only [ne_eq, zcc1, zcc2, zcc3, zcc4, zcc5] at *
      (have e : c = 39 := (by omega); subst e; rw [show max (-1000000) (min 1000000 (jn (21 - 39) x q)) = if q < x then 1 else 0 from jn_cl (Or.inr (Or.inr (Or.inr (Or.inl rfl)))) hx hq]; first | (rw [if_pos (by omega)]; done) | (rw [if_neg (by omega)]; done))
  refine ztabC (k := 1) (v := 40) 9 rfl rfl (by decide) rfl rfl (fun c15 => ?_) (fun c15 => ?_)
  · skip
    refine zlload_n (k := 69) rfl rfl ?_
    refine zlload_n (k := 70) rfl rfl ?_
    refine zlcmp (k := 71) rfl ?_
    refine zif_ne (k := 72) rfl rfl (fun c16 => ?_) (fun c16 => ?_)
    · skip
      refine zlconst (k := 75) (z := 0) rfl rfl ?_
      refine zlreturn (k := 76) rfl rfl rfl ?_
      rw [← hQ]
      refine ⟨?_, rfl, rfl⟩
      try simp only [ne_eq, zcc1, zcc2, zcc3, zcc4, zcc5] at *
      (have e : c = 40 := (by omega); subst e; rw [show max (-1000000) (min 1000000 (jn (21 - 40) x q)) = if x = q then 1 else 0 from jn_cl (Or.inr (Or.inr (Or.inr (Or.inr rfl)))) hx hq]; first | (rw [if_pos (by omega)]; done) | (rw [if_neg (by omega)]; done))
    · skip
      refine zlconst (k := 73) (z := 1) rfl rfl ?_
      refine zgoto (k := 74) rfl rfl ?_
      refine zlreturn (k := 76) rfl rfl rfl ?_
      rw [← hQ]
      refine ⟨?_, rfl, rfl⟩
      try simp only [ne_eq, zcc1, zcc2, zcc3, zcc4, zcc5] at *
      (have e : c = 40 := (by omega); subst e; rw [show max (-1000000) (min 1000000 (jn (21 - 40) x q)) = if x = q then 1 else 0 from jn_cl (Or.inr (Or.inr (Or.inr (Or.inr rfl)))) hx hq]; first | (rw [if_pos (by omega)]; done) | (rw [if_neg (by omega)]; done))
  refine ztabC (k := 1) (v := 41) 10 rfl rfl (by decide) rfl rfl (fun c17 => ?_) (fun c17 => ?_)
  · skip
    refine zlload_n (k := 77) rfl rfl ?_
    refine zlload_n (k := 78) rfl rfl ?_
    refine zland (k := 79) rfl ?_
    refine zlreturn (k := 80) rfl rfl rfl ?_
    rw [← hQ]
    refine ⟨?_, rfl, rfl⟩
    try simp only [ne_eq, zcc1, zcc2, zcc3, zcc4, zcc5] at *
    (have e : c = 41 := (by omega); subst e; rcases (hl (by omega)).1 with r | r <;> rcases (hl (by omega)).2 with r2 | r2 <;> rw [r, r2] <;> decide)
  refine ztabOut (k := 1) rfl (by omega) rfl ?_
  refine zlload_n (k := 81) rfl rfl ?_
  refine zlload_n (k := 82) rfl rfl ?_
  refine zlor (k := 83) rfl ?_
  refine zlreturn (k := 84) rfl rfl rfl ?_
  rw [← hQ]
  refine ⟨?_, rfl, rfl⟩
  try simp only [ne_eq, zcc1, zcc2, zcc3, zcc4, zcc5] at *
  (have e : c = 42 := (by omega); subst e; rcases (hl (by omega)).1 with r | r <;> rcases (hl (by omega)).2 with r2 | r2 <;> rw [r, r2] <;> decide)
