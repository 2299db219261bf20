/-! search, round -/
noncomputable def rouB (Wm S : zv_H) (m : Int) : zB3 := extF Wm S m 4 [] 0 ([], 0, 0)
noncomputable def rouQ (Wm S : zv_H) (m k : Int) : Int := if ¬ ((0 ≤ m ∧ m < Wm 0 3) ∧ (0 ≤ k ∧ k ≤ 5) ∧ S 5 m = 0) then -1 else if (rouB Wm S m).1.length = 0 then -1 else if k = 4 then (rouB Wm S m).2.1 else if k = 5 then (rouB Wm S m).2.2 else if k < ((rouB Wm S m).1.length : Int) then (rouB Wm S m).1.getD k.toNat 0 else -1
theorem cmp_len {B : zB3} {p : List (Int × Int)} {g v : Int} (h : B.1.length ≤ 4) (hp : p.length ≤ 4) : (cmpF B p g v).1.length ≤ 4 := by
  unfold cmpF
  split
  · exact h
  · simpa using hp
theorem extL_len {rec : List (Int × Int) → Int → zB3 → zB3} {Wm S : zv_H} {m : Int} {p : List (Int × Int)} {g : Int} {B : zB3} (hp : p.length < 4) (hr : ∀ q g B, q.length = p.length + 1 → B.1.length ≤ 4 → (rec q g B).1.length ≤ 4) (hB : B.1.length ≤ 4) : ∀ c : Nat, (extL rec Wm S m p g c B).1.length ≤ 4
  | 0 => hB
  | c + 1 => by
    have ih := extL_len (Wm := Wm) (S := S) (m := m) (g := g) hp hr hB c
    by_cases h : cmA Wm S m p c ≠ -1 ∧ canP Wm S m p c (cmA Wm S m p c)
    · rw [extL_1 h]
      exact hr _ _ _ rfl (cmp_len ih (by show p.length + 1 ≤ 4; omega))
    · rw [extL_0 h]; exact ih
theorem extF_len {Wm S : zv_H} {m : Int} : ∀ (d : Nat) (p : List (Int × Int)) (g : Int) (B : zB3), p.length + d = 4 → B.1.length ≤ 4 → (extF Wm S m d p g B).1.length ≤ 4
  | 0, _, _, _, _, h => h
  | d + 1, p, g, B, hp, h => extL_len (by omega) (fun q g B hq hB => extF_len d q g B (by omega) hB) h _
theorem rouB_len (Wm S : zv_H) (m : Int) : (rouB Wm S m).1.length ≤ 4 := extF_len 4 [] 0 ([], 0, 0) rfl (by decide)
set_option maxHeartbeats 4000000 in
set_option maxRecDepth 20000 in
theorem c_Rounds_search {Γ : zv_M} {L : Int} {w m : Int} {σ S Wm : zv_H} (hw : w ∈ wrL) (hW : vw 12 σ w = Wm) (hS : vw 10 σ 30 = S) (hSI : SI (Wm 0 1) (Wm 0 3) S) (hWI : WI Wm) (hm : 0 ≤ m ∧ m < Wm 0 3)  : zC Γ m_Rounds_search 14 0 0 (GM L) [zR 58, zR w, zR 30, zI m] σ (zPI (GM L) (fun z σ' => z = (if 0 < (rouB Wm S m).1.length then 1 else 0) ∧ σ' 58 1 = ((rouB Wm S m).1.length : Int) ∧ σ' 58 2 = (rouB Wm S m).2.1 ∧ σ' 58 3 = (rouB Wm S m).2.2 ∧ (∀ k : Nat, k < (rouB Wm S m).1.length → σ' 59 k = (rouB Wm S m).1.getD k 0) ∧ ∀ x k, ¬ (58 ≤ x ∧ x ≤ 61) → σ' x k = σ x k)) := by
  refine zC_of (ls0 := [_, _, _, _]) zm_Rounds_search (by decide) rfl (Nat.le_of_ble_eq_true rfl) ?_
  generalize hQ : (zPI (GM L) (fun z σ' => z = (if 0 < (rouB Wm S m).1.length then 1 else 0) ∧ σ' 58 1 = ((rouB Wm S m).1.length : Int) ∧ σ' 58 2 = (rouB Wm S m).2.1 ∧ σ' 58 3 = (rouB Wm S m).2.2 ∧ (∀ k : Nat, k < (rouB Wm S m).1.length → σ' 59 k = (rouB Wm S m).1.getD k 0) ∧ ∀ x k, ¬ (58 ≤ x ∧ x ≤ 61) → σ' x k = σ x k)) = Q
  have hf := wr_far hw
  have hb1 : vw 12 (zup (zup (zup (zup (zup (zup σ 58 6 w) 58 7 30) 58 8 m) 58 1 0) 58 2 0) 58 3 0) w = Wm := by rw [← hW]; exact vw_eq (fun x k h1 h2 => by rw [zup_n (by omega), zup_n (by omega), zup_n (by omega), zup_n (by omega), zup_n (by omega), zup_n (by omega)]) (by omega)
  have hb2 : vw 10 (zup (zup (zup (zup (zup (zup σ 58 6 w) 58 7 30) 58 8 m) 58 1 0) 58 2 0) 58 3 0) 30 = S := by rw [← hS]; exact vw_eq (fun x k h1 h2 => by rw [zup_n (by omega), zup_n (by omega), zup_n (by omega), zup_n (by omega), zup_n (by omega), zup_n (by omega)]) (by omega)
  refine zaload_n (k := 0) rfl rfl ?_
  refine zaload_n (k := 1) rfl rfl ?_
  refine zpR 6 (k := 2) rfl ob_58 fl_6_21 ⟨_, rfl, rfl⟩ rfl (by omega) rfl fx_58_6 ?_
  refine zaload_n (k := 3) rfl rfl ?_
  refine zaload_n (k := 4) rfl rfl ?_
  refine zpR 7 (k := 5) rfl ob_58 fl_6_25 ⟨_, rfl, rfl⟩ rfl (by omega) rfl fx_58_7 ?_
  refine zaload_n (k := 6) rfl rfl ?_
  refine ziload_n (k := 7) rfl rfl ?_
  refine zpI 8 (k := 8) rfl ob_58 fl_6_29 ⟨_, rfl, rfl⟩ rfl (by omega) rfl fx_58_8 ?_
  refine zaload_n (k := 9) rfl rfl ?_
  refine ziconst (k := 10) rfl (by decide) ?_
  refine zpI 1 (k := 11) rfl ob_58 fl_6_33 ⟨_, rfl, rfl⟩ rfl (by omega) rfl fx_58_1 ?_
  refine zaload_n (k := 12) rfl rfl ?_
  refine ziconst (k := 13) rfl (by decide) ?_
  refine zpI 2 (k := 14) rfl ob_58 fl_6_36 ⟨_, rfl, rfl⟩ rfl (by omega) rfl fx_58_2 ?_
  refine zaload_n (k := 15) rfl rfl ?_
  refine ziconst (k := 16) rfl (by decide) ?_
  refine zpI 3 (k := 17) rfl ob_58 fl_6_39 ⟨_, rfl, rfl⟩ rfl (by omega) rfl fx_58_3 ?_
  refine zaload_n (k := 18) rfl rfl ?_
  refine ziconst (k := 19) rfl (by decide) ?_
  refine ziconst (k := 20) rfl (by decide) ?_
  refine zpV0 (k := 21) rfl (c_ext4 (σ0 := zup (zup (zup (zup (zup (zup σ 58 6 w) 58 7 30) 58 8 m) 58 1 0) 58 2 0) 58 3 0) (by simp [zup]) (by simp [zup]) (by simp [zup]) hw hb1 hb2 hSI hWI hm (⟨trivial, by simp [zup], by simp [zup], by simp [zup], fun k hk => absurd hk (Nat.not_lt_zero _), fun _ _ _ _ => rfl⟩ : rnd (zup (zup (zup (zup (zup (zup σ 58 6 w) 58 7 30) 58 8 m) 58 1 0) 58 2 0) 58 3 0) (zup (zup (zup (zup (zup (zup σ 58 6 w) 58 7 30) 58 8 m) 58 1 0) 58 2 0) 58 3 0) [] ([], 0, 0)) trivial ⟨Int.le_refl _, Int.le_refl _⟩ rfl) fm_Rounds_extend lk_6_42 rfl rfl ob_58 ⟨_, rfl, rfl⟩ (Nat.le_of_ble_eq_true rfl) (by decide) ⟨by decide, by decide⟩ (fun σ2 h2 => ?_)
  rw [show extF Wm S m 4 [] 0 ([], 0, 0) = rouB Wm S m from rfl] at h2
  refine zaload_n (k := 22) rfl rfl ?_
  refine zgI 1 (k := 23) rfl ob_58 fl_6_33 rfl fx_58_1 ?_
  rw [h2.2.1]
  refine zif_le (k := 24) rfl rfl (fun c1 => ?_) (fun c1 => ?_)
  · skip
    refine ziconst (k := 27) rfl (by decide) ?_
    refine zzreturn (k := 28) rfl rfl (by first | exact Or.inl rfl | exact Or.inr rfl | omega) rfl ?_
    rw [← hQ]
    refine ⟨rfl, _, rfl, ?_, h2.2.1, h2.2.2.1, h2.2.2.2.1, h2.2.2.2.2.1, fun x k q => ?_⟩
    · first | (rw [if_pos (by omega)]; done) | (rw [if_neg (by omega)]; done)
    · rw [h2.2.2.2.2.2 x k (by omega) (by omega), zup_n (by omega), zup_n (by omega), zup_n (by omega), zup_n (by omega), zup_n (by omega), zup_n (by omega)]
  · skip
    refine ziconst (k := 25) rfl (by decide) ?_
    refine zgoto (k := 26) rfl rfl ?_
    refine zzreturn (k := 28) rfl rfl (by first | exact Or.inl rfl | exact Or.inr rfl | omega) rfl ?_
    rw [← hQ]
    refine ⟨rfl, _, rfl, ?_, h2.2.1, h2.2.2.1, h2.2.2.2.1, h2.2.2.2.2.1, fun x k q => ?_⟩
    · first | (rw [if_pos (by omega)]; done) | (rw [if_neg (by omega)]; done)
    · rw [h2.2.2.2.2.2 x k (by omega) (by omega), zup_n (by omega), zup_n (by omega), zup_n (by omega), zup_n (by omega), zup_n (by omega), zup_n (by omega)]
set_option maxHeartbeats 4000000 in
set_option maxRecDepth 20000 in
theorem c_NT_round {Γ : zv_M} {L : Int} {w : Int} {σ S Wm : zv_H} (h8 : σ 1 8 = w) (hw : w ∈ wrL) (hW : vw 12 σ w = Wm) (hS : vw 10 σ 30 = S) (hSI : SI (Wm 0 1) (Wm 0 3) S) (hWI : WI Wm) {m k : Int} : zC Γ m_NT_round 16 0 0 (GM L) [zR 1, zI m, zI k] σ (zPI (GM L) (fun z σ' => z = rouQ Wm S m k ∧ ∀ x k, ¬ (58 ≤ x ∧ x ≤ 61) → σ' x k = σ x k)) := by
  refine zC_of (ls0 := [_, _, _]) zm_NT_round (by decide) rfl (Nat.le_of_ble_eq_true rfl) ?_
  generalize hQ : (zPI (GM L) (fun z σ' => z = rouQ Wm S m k ∧ ∀ x k, ¬ (58 ≤ x ∧ x ≤ 61) → σ' x k = σ x k)) = Q
  have ha : (30 : Int) ∈ stL := by decide
  have e30 : σ 30 = S 0 := st_e0 hS
  have e31 : σ 31 = S 1 := st_e (f := 1) hS (by omega)
  have e32 : σ 32 = S 2 := st_e (f := 2) hS (by omega)
  have e33 : σ 33 = S 3 := st_e (f := 3) hS (by omega)
  have e34 : σ 34 = S 4 := st_e (f := 4) hS (by omega)
  have e35 : σ 35 = S 5 := st_e (f := 5) hS (by omega)
  have e36 : σ 36 = S 6 := st_e (f := 6) hS (by omega)
  have e37 : σ 37 = S 7 := st_e (f := 7) hS (by omega)
  have e38 : σ 38 = S 8 := st_e (f := 8) hS (by omega)
  have e39 : σ 39 = S 9 := st_e (f := 9) hS (by omega)
  have e40 : σ 40 = S 10 := st_e (f := 10) hS (by omega)
  have ew0 : σ w = Wm 0 := st_e0 hW
  have ew1 : σ (w + 1) = Wm 1 := st_e (f := 1) hW (by omega)
  have ew2 : σ (w + 2) = Wm 2 := st_e (f := 2) hW (by omega)
  have ew3 : σ (w + 3) = Wm 3 := st_e (f := 3) hW (by omega)
  have ew4 : σ (w + 4) = Wm 4 := st_e (f := 4) hW (by omega)
  have ew5 : σ (w + 5) = Wm 5 := st_e (f := 5) hW (by omega)
  have ew6 : σ (w + 6) = Wm 6 := st_e (f := 6) hW (by omega)
  have ew7 : σ (w + 7) = Wm 7 := st_e (f := 7) hW (by omega)
  have ew8 : σ (w + 8) = Wm 8 := st_e (f := 8) hW (by omega)
  have ew9 : σ (w + 9) = Wm 9 := st_e (f := 9) hW (by omega)
  have ew10 : σ (w + 10) = Wm 10 := st_e (f := 10) hW (by omega)
  have ew11 : σ (w + 11) = Wm 11 := st_e (f := 11) hW (by omega)
  have ew12 : σ (w + 12) = Wm 12 := st_e (f := 12) hW (by omega)
  have hSI0 := hSI
  have hWI0 := hWI
  obtain ⟨b0, b11, b12, bc, bm, bl, br⟩ := hSI
  obtain ⟨w1, w2, w3, w4, w5, w6, w7, w8, w9, w10⟩ := hWI
  refine zaload_n (k := 0) rfl rfl ?_
  refine zgR 8 (k := 1) rfl ob_1 fl_11_19 rfl fx_1_8 ?_
  first | rw [h8] | rw [h0.2 1 8 (by omega) (by omega) (by omega), h8]
  refine ziload_n (k := 2) rfl rfl ?_
  refine zfV1 (k := 3) rfl (c_War_hasMan hw) fm_War_hasMan lk_11_181 rfl rfl (wr_ob hw) ⟨_, rfl, rfl⟩ (Nat.le_of_ble_eq_true rfl) (by decide) ⟨by decide, by decide⟩ ?_
  try simp only [e30, e31, e32, e33, e34, e35, e36, e37, e38, e39, e40, ew0, ew1, ew2, ew3, ew4, ew5, ew6, ew7, ew8, ew9, ew10, ew11, ew12]
  refine zif_eq (k := 4) rfl rfl (fun c1 => ?_) (fun c1 => ?_)
  · skip
    refine ziconst (k := 16) rfl (by decide) ?_
    refine zireturn (k := 17) rfl rfl rfl ?_
    rw [← hQ]
    exact ⟨rfl, _, rfl, by unfold rouQ; rw [if_pos (by (try split at c1) <;> omega)], fun _ _ _ => rfl⟩
  · skip
    have hmm : 0 ≤ m ∧ m < Wm 0 3 := by split at c1 <;> first | assumption | (exfalso; omega)
    refine ziload_n (k := 5) rfl rfl ?_
    refine zif_lt (k := 6) rfl rfl (fun c2 => ?_) (fun c2 => ?_)
    · skip
      refine ziconst (k := 16) rfl (by decide) ?_
      refine zireturn (k := 17) rfl rfl rfl ?_
      rw [← hQ]
      exact ⟨rfl, _, rfl, by unfold rouQ; rw [if_pos (by (try split at c1) <;> omega)], fun _ _ _ => rfl⟩
    · skip
      refine ziload_n (k := 7) rfl rfl ?_
      refine ziconst (k := 8) rfl (by decide) ?_
      refine zicmp_gt (k := 9) rfl rfl (fun c3 => ?_) (fun c3 => ?_)
      · skip
        refine ziconst (k := 16) rfl (by decide) ?_
        refine zireturn (k := 17) rfl rfl rfl ?_
        rw [← hQ]
        exact ⟨rfl, _, rfl, by unfold rouQ; rw [if_pos (by (try split at c1) <;> omega)], fun _ _ _ => rfl⟩
      · skip
        refine zaload_n (k := 10) rfl rfl ?_
        refine zgF 6 (k := 11) rfl ob_1 fl_11_29 rfl fx_1_6 ?_
        refine zgF 5 (k := 12) rfl ob_30 fl_11_149 rfl fx_30_5 ?_
        refine ziload_n (k := 13) rfl rfl ?_
        refine zfS1 (k := 14) rfl (c_NT_at ar_35) fm_NT_at lk_11_174 rfl rfl (Nat.le_of_ble_eq_true rfl) (by decide) ⟨by decide, by decide⟩ ?_
        rw [zat_in (by omega)]
        try simp only [e30, e31, e32, e33, e34, e35, e36, e37, e38, e39, e40, ew0, ew1, ew2, ew3, ew4, ew5, ew6, ew7, ew8, ew9, ew10, ew11, ew12]
        refine zif_eq (k := 15) rfl rfl (fun c4 => ?_) (fun c4 => ?_)
        · skip
          refine zaload_n (k := 18) rfl rfl ?_
          refine zgF 3 (k := 19) rfl ob_1 fl_11_57 rfl fx_1_3 ?_
          refine zaload_n (k := 20) rfl rfl ?_
          refine zgR 8 (k := 21) rfl ob_1 fl_11_19 rfl fx_1_8 ?_
          first | rw [h8] | rw [h0.2 1 8 (by omega) (by omega) (by omega), h8]
          refine zaload_n (k := 22) rfl rfl ?_
          refine zgF 6 (k := 23) rfl ob_1 fl_11_29 rfl fx_1_6 ?_
          refine ziload_n (k := 24) rfl rfl ?_
          refine zpVI (k := 25) rfl (c_Rounds_search hw hW hS hSI0 hWI0 hmm) fm_Rounds_search lk_11_224 rfl rfl ob_58 ⟨_, rfl, rfl⟩ (Nat.le_of_ble_eq_true rfl) (by decide) ⟨by decide, by decide⟩ (fun z σ2 h2 => ?_)
          obtain ⟨g1, g2, g3, g4, g5, g6⟩ := h2
          rw [g1]
          refine zif_ne (k := 26) rfl rfl (fun c5 => ?_) (fun c5 => ?_)
          · skip
            have hcc : 0 < (rouB Wm S m).1.length := by omega
            have hl4 := rouB_len Wm S m
            refine ziload_n (k := 29) rfl rfl ?_
            refine zlookC (k := 30) (v := 4) rfl (by decide) rfl rfl (fun c6 => ?_) (fun c6 => ?_)
            · skip
              refine zaload_n (k := 31) rfl rfl ?_
              refine zgF 3 (k := 32) rfl ob_1 fl_11_57 rfl fx_1_3 ?_
              refine zgI 2 (k := 33) rfl ob_58 fl_11_228 rfl fx_58_2 ?_
              try simp only [e30, e31, e32, e33, e34, e35, e36, e37, e38, e39, e40, ew0, ew1, ew2, ew3, ew4, ew5, ew6, ew7, ew8, ew9, ew10, ew11, ew12]
              rw [g3]
              refine zireturn (k := 34) rfl rfl rfl ?_
              rw [← hQ]
              refine ⟨rfl, _, rfl, ?_, g6⟩
              unfold rouQ
              rw [if_neg (by omega), if_neg (by omega)]
              first
              | (rw [if_pos (by omega)]; done)
              | (rw [if_neg (by omega), if_pos (by omega)]; done)
              | (rw [if_neg (by omega), if_neg (by omega), if_pos (by omega)]; done)
              | (rw [if_neg (by omega), if_neg (by omega), if_neg (by omega)]; done)
            refine zlookC (k := 30) (v := 5) rfl (by decide) rfl rfl (fun c7 => ?_) (fun c7 => ?_)
            · skip
              refine zaload_n (k := 35) rfl rfl ?_
              refine zgF 3 (k := 36) rfl ob_1 fl_11_57 rfl fx_1_3 ?_
              refine zgI 3 (k := 37) rfl ob_58 fl_11_231 rfl fx_58_3 ?_
              try simp only [e30, e31, e32, e33, e34, e35, e36, e37, e38, e39, e40, ew0, ew1, ew2, ew3, ew4, ew5, ew6, ew7, ew8, ew9, ew10, ew11, ew12]
              rw [g4]
              refine zireturn (k := 38) rfl rfl rfl ?_
              rw [← hQ]
              refine ⟨rfl, _, rfl, ?_, g6⟩
              unfold rouQ
              rw [if_neg (by omega), if_neg (by omega)]
              first
              | (rw [if_pos (by omega)]; done)
              | (rw [if_neg (by omega), if_pos (by omega)]; done)
              | (rw [if_neg (by omega), if_neg (by omega), if_pos (by omega)]; done)
              | (rw [if_neg (by omega), if_neg (by omega), if_neg (by omega)]; done)
            refine zlook (k := 30) rfl (by decide) (by simp [Op.lookupswitch.offset, c6, c7, Ne.symm c6, Ne.symm c7]; rfl) rfl ?_
            refine ziload_n (k := 39) rfl rfl ?_
            refine zaload_n (k := 40) rfl rfl ?_
            refine zgF 3 (k := 41) rfl ob_1 fl_11_57 rfl fx_1_3 ?_
            refine zgI 1 (k := 42) rfl ob_58 fl_11_234 rfl fx_58_1 ?_
            try simp only [e30, e31, e32, e33, e34, e35, e36, e37, e38, e39, e40, ew0, ew1, ew2, ew3, ew4, ew5, ew6, ew7, ew8, ew9, ew10, ew11, ew12]
            rw [g2]
            refine zicmp_ge (k := 43) rfl rfl (fun c8 => ?_) (fun c8 => ?_)
            · skip
              refine ziconst (k := 50) rfl (by decide) ?_
              refine zireturn (k := 51) rfl rfl rfl ?_
              rw [← hQ]
              refine ⟨rfl, _, rfl, ?_, g6⟩
              unfold rouQ
              rw [if_neg (by omega), if_neg (by omega)]
              first
              | (rw [if_pos (by omega)]; done)
              | (rw [if_neg (by omega), if_pos (by omega)]; done)
              | (rw [if_neg (by omega), if_neg (by omega), if_pos (by omega)]; done)
              | (rw [if_neg (by omega), if_neg (by omega), if_neg (by omega)]; done)
            · skip
              refine zaload_n (k := 44) rfl rfl ?_
              refine zgF 3 (k := 45) rfl ob_1 fl_11_57 rfl fx_1_3 ?_
              refine zgF 0 (k := 46) rfl ob_58 fl_11_237 rfl fx_58_0 ?_
              refine ziload_n (k := 47) rfl rfl ?_
              refine zfS1 (k := 48) rfl (c_NT_at ar_59) fm_NT_at lk_11_174 rfl rfl (Nat.le_of_ble_eq_true rfl) (by decide) ⟨by decide, by decide⟩ ?_
              rw [zat_in (by omega), show σ2 59 k = (rouB Wm S m).1.getD k.toNat 0 by rw [← g5 k.toNat (by omega)]; congr 1; omega]
              refine zgoto (k := 49) rfl rfl ?_
              refine zireturn (k := 51) rfl rfl rfl ?_
              rw [← hQ]
              refine ⟨rfl, _, rfl, ?_, g6⟩
              unfold rouQ
              rw [if_neg (by omega), if_neg (by omega)]
              first
              | (rw [if_pos (by omega)]; done)
              | (rw [if_neg (by omega), if_pos (by omega)]; done)
              | (rw [if_neg (by omega), if_neg (by omega), if_pos (by omega)]; done)
              | (rw [if_neg (by omega), if_neg (by omega), if_neg (by omega)]; done)
          · skip
            refine ziconst (k := 27) rfl (by decide) ?_
            refine zireturn (k := 28) rfl rfl rfl ?_
            rw [← hQ]
            exact ⟨rfl, _, rfl, by unfold rouQ; rw [if_neg (by omega), if_pos (by omega)], g6⟩
        · skip
          refine ziconst (k := 16) rfl (by decide) ?_
          refine zireturn (k := 17) rfl rfl rfl ?_
          rw [← hQ]
          exact ⟨rfl, _, rfl, by unfold rouQ; rw [if_pos (by (try split at c1) <;> omega)], fun _ _ _ => rfl⟩
