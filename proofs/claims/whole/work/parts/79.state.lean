set_option maxHeartbeats 4000000 in
set_option maxRecDepth 20000 in
theorem c_Reader_readPost {Γ : zv_M} {L : Int} {σ0 σ : zv_H} {T : Int → Int} {n w p : Int} {A : zv_H} (hw : w ∈ wrL) (h0 : stN σ0 σ T n w A p) (hp : 0 ≤ p ∧ p ≤ n) (hA : AI T A)  : zC Γ m_Reader_readPost 4 0 0 (GM L) [zR 52] σ (zPI (GM L) (fun z σ' => (z = 1 ∧ ∃ X, pstF T A p = Sum.inl X ∧ stN σ0 σ' T n w X.2 X.1 ∧ AI T X.2 ∧ (p < X.1 ∧ X.1 ≤ n)) ∨ (z = 0 ∧ ∃ k pl, pstF T A p = Sum.inr (k, pl) ∧ flt σ' k pl ∧ wfr σ0 σ' w))) := by
  refine zC_of (ls0 := [_]) zm_Reader_readPost (by decide) rfl (Nat.le_of_ble_eq_true rfl) ?_
  generalize hQ : (zPI (GM L) (fun z σ' => (z = 1 ∧ ∃ X, pstF T A p = Sum.inl X ∧ stN σ0 σ' T n w X.2 X.1 ∧ AI T X.2 ∧ (p < X.1 ∧ X.1 ≤ n)) ∨ (z = 0 ∧ ∃ k pl, pstF T A p = Sum.inr (k, pl) ∧ flt σ' k pl ∧ wfr σ0 σ' w))) = Q
  have hwf := wr_far hw
  refine zaload_n (k := 0) rfl rfl ?_
  refine ziconst (k := 1) rfl (by decide) ?_
  refine zbipush (k := 2) rfl rfl ?_
  refine zpVI (k := 3) rfl (k_tn (lo := 0) (hi := 9) h0 hp) fm_Reader_takeNumber lk_4_144 rfl rfl ob_52 ⟨_, rfl, rfl⟩ (Nat.le_of_ble_eq_true rfl) (by decide) ⟨by decide, by decide⟩ (fun z1 σ1 h1 => ?_)
  refine zif_ne (k := 4) rfl rfl (fun c1 => ?_) (fun c1 => ?_)
  · skip
    obtain ⟨X1, e1, x1, s1, b1, t1⟩ := or_1 h1 (by assumption)
    clear h0 h1
    have h0 := s1
    clear s1
    refine zaload_n (k := 7) rfl rfl ?_
    refine zgR 1 (k := 8) rfl ob_52 fl_4_20 rfl fx_52_1 ?_
    rw [h0.1.2.2.2.2.2]
    refine zaload_n (k := 9) rfl rfl ?_
    refine zgI 4 (k := 10) rfl ob_52 fl_4_150 rfl fx_52_4 ?_
    rw [x1.1]
    refine zpI 4 (k := 11) rfl (wr_ob hw) fl_4_178 ⟨_, rfl, rfl⟩ rfl (wr_pos hw) rfl (wr_fx_4 hw) ?_
    refine ziconst (k := 12) rfl (by decide) ?_
    refine zzreturn (k := 13) rfl rfl (by first | exact Or.inl rfl | exact Or.inr rfl | omega) rfl ?_
    rw [← hQ]
    have sp := st_pst h0 hA (v := X1.1) ⟨x1.2.1, x1.2.2⟩
    exact ⟨rfl, _, rfl, Or.inl ⟨rfl, (X1.2, zup A 0 4 X1.1), by unfold pstF; rw [e1, bnd_l], sp.1, sp.2, b1⟩⟩
  · skip
    refine ziconst (k := 5) rfl (by decide) ?_
    refine zzreturn (k := 6) rfl rfl (by first | exact Or.inl rfl | exact Or.inr rfl | omega) rfl ?_
    rw [← hQ]
    first
    | (obtain ⟨k, pl, g1, g2, g3⟩ := or_0 h1 (by assumption)
       exact ⟨rfl, _, rfl, Or.inr ⟨rfl, k, pl, by unfold pstF; rw [g1, bnd_r], g2, g3⟩⟩)
set_option maxHeartbeats 4000000 in
set_option maxRecDepth 20000 in
theorem c_Reader_readRail {Γ : zv_M} {L : Int} {σ0 σ : zv_H} {T : Int → Int} {n w p : Int} {A : zv_H} (hw : w ∈ wrL) (h0 : stN σ0 σ T n w A p) (hp : 0 ≤ p ∧ p ≤ n) (hA : AI T A) (hc : A 0 2 < 12) : zC Γ m_Reader_readRail 4 0 0 (GM L) [zR 52] σ (zPI (GM L) (fun z σ' => (z = 1 ∧ ∃ X, ralF T A p = Sum.inl X ∧ stN σ0 σ' T n w X.2 X.1 ∧ AI T X.2 ∧ (p < X.1 ∧ X.1 ≤ n)) ∨ (z = 0 ∧ ∃ k pl, ralF T A p = Sum.inr (k, pl) ∧ flt σ' k pl ∧ wfr σ0 σ' w))) := by
  refine zC_of (ls0 := [_, _, _]) zm_Reader_readRail (by decide) rfl (Nat.le_of_ble_eq_true rfl) ?_
  generalize hQ : (zPI (GM L) (fun z σ' => (z = 1 ∧ ∃ X, ralF T A p = Sum.inl X ∧ stN σ0 σ' T n w X.2 X.1 ∧ AI T X.2 ∧ (p < X.1 ∧ X.1 ≤ n)) ∨ (z = 0 ∧ ∃ k pl, ralF T A p = Sum.inr (k, pl) ∧ flt σ' k pl ∧ wfr σ0 σ' w))) = Q
  have hwf := wr_far hw
  have a1 := hA.2.1
  have a2 := hA.2.2.1
  refine zaload_n (k := 0) rfl rfl ?_
  refine ziconst (k := 1) rfl (by decide) ?_
  refine zpVI (k := 2) rfl (k_tc h0 hp hA (Or.inl rfl)) fm_Reader_takeCounty lk_4_159 rfl rfl ob_52 ⟨_, rfl, rfl⟩ (Nat.le_of_ble_eq_true rfl) (by decide) ⟨by decide, by decide⟩ (fun z1 σ1 h1 => ?_)
  refine zif_ne (k := 3) rfl rfl (fun c1 => ?_) (fun c1 => ?_)
  · skip
    obtain ⟨X1, e1, x1, s1, b1, t1⟩ := or_1 h1 (by assumption)
    clear h0 h1
    have h0 := s1
    clear s1
    refine zaload_n (k := 6) rfl rfl ?_
    refine zgI 6 (k := 7) rfl ob_52 fl_4_162 rfl fx_52_6 ?_
    rw [x1.1]
    refine zistore_n (k := 8) (ls' := [_, _, _]) rfl (Nat.le_of_ble_eq_true rfl) rfl ?_
    refine zaload_n (k := 9) rfl rfl ?_
    refine ziconst (k := 10) rfl (by decide) ?_
    refine zpVI (k := 11) rfl (k_tw h0 ⟨by omega, by omega⟩) fm_Reader_takeWord lk_4_141 rfl rfl ob_52 ⟨_, rfl, rfl⟩ (Nat.le_of_ble_eq_true rfl) (by decide) ⟨by decide, by decide⟩ (fun z2 σ2 h2 => ?_)
    refine zif_eq (k := 12) rfl rfl (fun c2 => ?_) (fun c2 => ?_)
    · skip
      refine ziconst (k := 17) rfl (by decide) ?_
      refine zzreturn (k := 18) rfl rfl (by first | exact Or.inl rfl | exact Or.inr rfl | omega) rfl ?_
      rw [← hQ]
      first
      | (obtain ⟨k, pl, g1, g2, g3⟩ := or_0 h3 (by assumption)
         exact ⟨rfl, _, rfl, Or.inr ⟨rfl, k, pl, by unfold ralF; rw [e1, bnd_l, e2, bnd_l, g1, bnd_r], g2, g3⟩⟩)
      | (obtain ⟨k, pl, g1, g2, g3⟩ := or_0 h2 (by assumption)
         exact ⟨rfl, _, rfl, Or.inr ⟨rfl, k, pl, by unfold ralF; rw [e1, bnd_l, g1, bnd_r], g2, g3⟩⟩)
    · skip
      obtain ⟨X2, e2, x2, s2, b2, t2⟩ := or_1 h2 (by assumption)
      clear h0 h2
      have h0 := s2
      clear s2
      refine zaload_n (k := 13) rfl rfl ?_
      refine ziload_n (k := 14) rfl rfl ?_
      refine zpVI (k := 15) rfl (k_tc h0 ⟨by omega, by omega⟩ hA (Or.inr ⟨by omega, by omega⟩)) fm_Reader_takeCounty lk_4_159 rfl rfl ob_52 ⟨_, rfl, rfl⟩ (Nat.le_of_ble_eq_true rfl) (by decide) ⟨by decide, by decide⟩ (fun z3 σ3 h3 => ?_)
      refine zif_ne (k := 16) rfl rfl (fun c3 => ?_) (fun c3 => ?_)
      · skip
        obtain ⟨X3, e3, x3, s3, b3, t3⟩ := or_1 h3 (by assumption)
        clear h0 h3
        have h0 := s3
        clear s3
        refine zaload_n (k := 19) rfl rfl ?_
        refine zgI 6 (k := 20) rfl ob_52 fl_4_162 rfl fx_52_6 ?_
        rw [x3.1]
        refine zistore_n (k := 21) (ls' := [_, _, _]) rfl (Nat.le_of_ble_eq_true rfl) rfl ?_
        refine zaload_n (k := 22) rfl rfl ?_
        refine zbipush (k := 23) rfl rfl ?_
        refine zpVI (k := 24) rfl (k_tw h0 ⟨by omega, by omega⟩) fm_Reader_takeWord lk_4_141 rfl rfl ob_52 ⟨_, rfl, rfl⟩ (Nat.le_of_ble_eq_true rfl) (by decide) ⟨by decide, by decide⟩ (fun z4 σ4 h4 => ?_)
        refine zif_eq (k := 25) rfl rfl (fun c4 => ?_) (fun c4 => ?_)
        · skip
          refine ziconst (k := 31) rfl (by decide) ?_
          refine zzreturn (k := 32) rfl rfl (by first | exact Or.inl rfl | exact Or.inr rfl | omega) rfl ?_
          rw [← hQ]
          first
          | (obtain ⟨k, pl, g1, g2, g3⟩ := or_0 h5 (by assumption)
             exact ⟨rfl, _, rfl, Or.inr ⟨rfl, k, pl, by unfold ralF; rw [e1, bnd_l, e2, bnd_l, e3, bnd_l, e4, bnd_l, g1, bnd_r], g2, g3⟩⟩)
          | (obtain ⟨k, pl, g1, g2, g3⟩ := or_0 h4 (by assumption)
             exact ⟨rfl, _, rfl, Or.inr ⟨rfl, k, pl, by unfold ralF; rw [e1, bnd_l, e2, bnd_l, e3, bnd_l, g1, bnd_r], g2, g3⟩⟩)
        · skip
          obtain ⟨X4, e4, x4, s4, b4, t4⟩ := or_1 h4 (by assumption)
          clear h0 h4
          have h0 := s4
          clear s4
          refine zaload_n (k := 26) rfl rfl ?_
          refine ziconst (k := 27) rfl (by decide) ?_
          refine zbipush (k := 28) rfl rfl ?_
          refine zpVI (k := 29) rfl (k_tn (lo := 1) (hi := 9) h0 ⟨by omega, by omega⟩) fm_Reader_takeNumber lk_4_144 rfl rfl ob_52 ⟨_, rfl, rfl⟩ (Nat.le_of_ble_eq_true rfl) (by decide) ⟨by decide, by decide⟩ (fun z5 σ5 h5 => ?_)
          refine zif_ne (k := 30) rfl rfl (fun c5 => ?_) (fun c5 => ?_)
          · skip
            obtain ⟨X5, e5, x5, s5, b5, t5⟩ := or_1 h5 (by assumption)
            clear h0 h5
            have h0 := s5
            clear s5
            refine zaload_n (k := 33) rfl rfl ?_
            refine zgR 1 (k := 34) rfl ob_52 fl_4_20 rfl fx_52_1 ?_
            rw [h0.1.2.2.2.2.2]
            refine ziload_n (k := 35) rfl rfl ?_
            refine ziload_n (k := 36) rfl rfl ?_
            refine zaload_n (k := 37) rfl rfl ?_
            refine zgI 4 (k := 38) rfl ob_52 fl_4_150 rfl fx_52_4 ?_
            rw [x5.1]
            refine zfV0 (k := 39) rfl (c_War_addRail hw ⟨by omega, by omega⟩ ⟨by omega, by omega⟩ (by rw [h0.2.2.1.1 2 (by omega) (by omega)]; omega)) fm_War_addRail lk_4_165 rfl rfl (wr_ob hw) ⟨_, rfl, rfl⟩ (Nat.le_of_ble_eq_true rfl) (by decide) ⟨by decide, by decide⟩ ?_
            rw [h0.2.2.1.1 2 (by omega) (by omega)]
            refine ziconst (k := 40) rfl (by decide) ?_
            refine zzreturn (k := 41) rfl rfl (by first | exact Or.inl rfl | exact Or.inr rfl | omega) rfl ?_
            rw [← hQ]
            have sp := st_ral h0 hA (f := X1.1) (t := X3.1) (v := X5.1) ⟨by omega, by omega⟩ ⟨by omega, by omega⟩ ⟨x5.2.1, x5.2.2⟩ hc
            exact ⟨rfl, _, rfl, Or.inl ⟨rfl, (X5.2, zup (zup (zup A 12 (X1.1 * 7 + X3.1) X5.1) 12 (X3.1 * 7 + X1.1) X5.1) 0 2 (A 0 2 + 1)), by unfold ralF; rw [e1, bnd_l, e2, bnd_l, e3, bnd_l, e4, bnd_l, e5, bnd_l], sp.1, sp.2, ⟨by show p < X5.2; omega, by show X5.2 ≤ n; omega⟩⟩⟩
          · skip
            refine ziconst (k := 31) rfl (by decide) ?_
            refine zzreturn (k := 32) rfl rfl (by first | exact Or.inl rfl | exact Or.inr rfl | omega) rfl ?_
            rw [← hQ]
            first
            | (obtain ⟨k, pl, g1, g2, g3⟩ := or_0 h5 (by assumption)
               exact ⟨rfl, _, rfl, Or.inr ⟨rfl, k, pl, by unfold ralF; rw [e1, bnd_l, e2, bnd_l, e3, bnd_l, e4, bnd_l, g1, bnd_r], g2, g3⟩⟩)
            | (obtain ⟨k, pl, g1, g2, g3⟩ := or_0 h4 (by assumption)
               exact ⟨rfl, _, rfl, Or.inr ⟨rfl, k, pl, by unfold ralF; rw [e1, bnd_l, e2, bnd_l, e3, bnd_l, g1, bnd_r], g2, g3⟩⟩)
      · skip
        refine ziconst (k := 17) rfl (by decide) ?_
        refine zzreturn (k := 18) rfl rfl (by first | exact Or.inl rfl | exact Or.inr rfl | omega) rfl ?_
        rw [← hQ]
        first
        | (obtain ⟨k, pl, g1, g2, g3⟩ := or_0 h3 (by assumption)
           exact ⟨rfl, _, rfl, Or.inr ⟨rfl, k, pl, by unfold ralF; rw [e1, bnd_l, e2, bnd_l, g1, bnd_r], g2, g3⟩⟩)
        | (obtain ⟨k, pl, g1, g2, g3⟩ := or_0 h2 (by assumption)
           exact ⟨rfl, _, rfl, Or.inr ⟨rfl, k, pl, by unfold ralF; rw [e1, bnd_l, g1, bnd_r], g2, g3⟩⟩)
  · skip
    refine ziconst (k := 4) rfl (by decide) ?_
    refine zzreturn (k := 5) rfl rfl (by first | exact Or.inl rfl | exact Or.inr rfl | omega) rfl ?_
    rw [← hQ]
    first
    | (obtain ⟨k, pl, g1, g2, g3⟩ := or_0 h1 (by assumption)
       exact ⟨rfl, _, rfl, Or.inr ⟨rfl, k, pl, by unfold ralF; rw [g1, bnd_r], g2, g3⟩⟩)
set_option maxHeartbeats 4000000 in
set_option maxRecDepth 20000 in
theorem c_Reader_readMan {Γ : zv_M} {L : Int} {σ0 σ : zv_H} {T : Int → Int} {n w p : Int} {A : zv_H} (hw : w ∈ wrL) (h0 : stN σ0 σ T n w A p) (hp : 0 ≤ p ∧ p ≤ n) (hA : AI T A) (hc : A 0 3 < 6) : zC Γ m_Reader_readMan 4 0 0 (GM L) [zR 52] σ (zPI (GM L) (fun z σ' => (z = 1 ∧ ∃ X, mnnF T A p = Sum.inl X ∧ stN σ0 σ' T n w X.2 X.1 ∧ AI T X.2 ∧ (p < X.1 ∧ X.1 ≤ n)) ∨ (z = 0 ∧ ∃ k pl, mnnF T A p = Sum.inr (k, pl) ∧ flt σ' k pl ∧ wfr σ0 σ' w))) := by
  refine zC_of (ls0 := [_, _]) zm_Reader_readMan (by decide) rfl (Nat.le_of_ble_eq_true rfl) ?_
  generalize hQ : (zPI (GM L) (fun z σ' => (z = 1 ∧ ∃ X, mnnF T A p = Sum.inl X ∧ stN σ0 σ' T n w X.2 X.1 ∧ AI T X.2 ∧ (p < X.1 ∧ X.1 ≤ n)) ∨ (z = 0 ∧ ∃ k pl, mnnF T A p = Sum.inr (k, pl) ∧ flt σ' k pl ∧ wfr σ0 σ' w))) = Q
  have hwf := wr_far hw
  have a1 := hA.2.1
  have a3 := hA.2.2.2.1
  refine zaload_n (k := 0) rfl rfl ?_
  refine zpVI (k := 1) rfl (k_nn h0 hp hA) fm_Reader_takeNewName lk_4_127 rfl rfl ob_52 ⟨_, rfl, rfl⟩ (Nat.le_of_ble_eq_true rfl) (by decide) ⟨by decide, by decide⟩ (fun z1 σ1 h1 => ?_)
  refine zif_ne (k := 2) rfl rfl (fun c1 => ?_) (fun c1 => ?_)
  · skip
    obtain ⟨X1, e1, x1, s1, b1, t1⟩ := or_1 h1 (by assumption)
    clear h0 h1
    have h0 := s1
    clear s1
    refine zaload_n (k := 5) rfl rfl ?_
    refine zgR 1 (k := 6) rfl ob_52 fl_4_20 rfl fx_52_1 ?_
    rw [h0.1.2.2.2.2.2]
    refine zgI 3 (k := 7) rfl (wr_ob hw) fl_4_119 rfl (wr_fx_3 hw) ?_
    rw [h0.2.2.1.1 3 (by omega) (by omega)]
    refine zistore_n (k := 8) (ls' := [_, _]) rfl (Nat.le_of_ble_eq_true rfl) rfl ?_
    refine zaload_n (k := 9) rfl rfl ?_
    refine zgR 1 (k := 10) rfl ob_52 fl_4_20 rfl fx_52_1 ?_
    rw [h0.1.2.2.2.2.2]
    refine zgF 9 (k := 11) rfl (wr_ob hw) fl_4_169 rfl (wr_fx_9 hw) ?_
    refine ziload_n (k := 12) rfl rfl ?_
    refine zaload_n (k := 13) rfl rfl ?_
    refine zgI 5 (k := 14) rfl ob_52 fl_4_134 rfl fx_52_5 ?_
    rw [x1.1]
    refine zfS0 (k := 15) rfl (c_NT_put (wr_ar_5 hw) (by omega)) fm_NT_put lk_4_137 rfl rfl (Nat.le_of_ble_eq_true rfl) (by decide) ⟨by decide, by decide⟩ ?_
    rw [zpt_in (by omega)]
    have h0 := stN_p (i := A 0 3) (v := tNm T p) (r := 5) h0 (by omega) (by omega) (by omega)
    have f1 : zup σ1 (w + 5) (A 0 3) (tNm T p) (w + 5) (A 0 3) = tNm T p := zup_s _ _ _ _
    refine zaload_n (k := 16) rfl rfl ?_
    refine zbipush (k := 17) rfl rfl ?_
    refine zpVI (k := 18) rfl (k_tw h0 ⟨by omega, by omega⟩) fm_Reader_takeWord lk_4_141 rfl rfl ob_52 ⟨_, rfl, rfl⟩ (Nat.le_of_ble_eq_true rfl) (by decide) ⟨by decide, by decide⟩ (fun z2 σ2 h2 => ?_)
    refine zif_eq (k := 19) rfl rfl (fun c2 => ?_) (fun c2 => ?_)
    · skip
      refine ziconst (k := 24) rfl (by decide) ?_
      refine zzreturn (k := 25) rfl rfl (by first | exact Or.inl rfl | exact Or.inr rfl | omega) rfl ?_
      rw [← hQ]
      first
      | (obtain ⟨k, pl, g1, g2, g3⟩ := or_0 h3 (by assumption)
         exact ⟨rfl, _, rfl, Or.inr ⟨rfl, k, pl, by unfold mnnF; rw [e1, bnd_l, e2, bnd_l, g1, bnd_r], g2, g3⟩⟩)
      | (obtain ⟨k, pl, g1, g2, g3⟩ := or_0 h2 (by assumption)
         exact ⟨rfl, _, rfl, Or.inr ⟨rfl, k, pl, by unfold mnnF; rw [e1, bnd_l, g1, bnd_r], g2, g3⟩⟩)
    · skip
      obtain ⟨X2, e2, x2, s2, b2, t2⟩ := or_1 h2 (by assumption)
      clear h0 h2
      have h0 := s2
      clear s2
      replace f1 := ((t2 _ _ (by omega) (by omega)).trans f1)
      refine zaload_n (k := 20) rfl rfl ?_
      refine ziconst (k := 21) rfl (by decide) ?_
      refine zpVI (k := 22) rfl (k_tc h0 ⟨by omega, by omega⟩ hA (Or.inl rfl)) fm_Reader_takeCounty lk_4_159 rfl rfl ob_52 ⟨_, rfl, rfl⟩ (Nat.le_of_ble_eq_true rfl) (by decide) ⟨by decide, by decide⟩ (fun z3 σ3 h3 => ?_)
      refine zif_ne (k := 23) rfl rfl (fun c3 => ?_) (fun c3 => ?_)
      · skip
        obtain ⟨X3, e3, x3, s3, b3, t3⟩ := or_1 h3 (by assumption)
        clear h0 h3
        have h0 := s3
        clear s3
        replace f1 := ((t3 _ _ (by omega) (by omega)).trans f1)
        refine zaload_n (k := 26) rfl rfl ?_
        refine zgR 1 (k := 27) rfl ob_52 fl_4_20 rfl fx_52_1 ?_
        rw [h0.1.2.2.2.2.2]
        refine zgF 10 (k := 28) rfl (wr_ob hw) fl_4_172 rfl (wr_fx_10 hw) ?_
        refine ziload_n (k := 29) rfl rfl ?_
        refine zaload_n (k := 30) rfl rfl ?_
        refine zgI 6 (k := 31) rfl ob_52 fl_4_162 rfl fx_52_6 ?_
        rw [x3.1]
        refine zfS0 (k := 32) rfl (c_NT_put (wr_ar_6 hw) (by omega)) fm_NT_put lk_4_137 rfl rfl (Nat.le_of_ble_eq_true rfl) (by decide) ⟨by decide, by decide⟩ ?_
        rw [zpt_in (by omega)]
        have h0 := stN_p (i := A 0 3) (v := X3.1) (r := 6) h0 (by omega) (by omega) (by omega)
        replace f1 := (zup_n (σ := σ3) (a := w + 6) (k := A 0 3) (v := X3.1) (by omega)).trans f1
        have f2 : zup σ3 (w + 6) (A 0 3) (X3.1) (w + 6) (A 0 3) = X3.1 := zup_s _ _ _ _
        refine zaload_n (k := 33) rfl rfl ?_
        refine zbipush (k := 34) rfl rfl ?_
        refine zpVI (k := 35) rfl (k_tw h0 ⟨by omega, by omega⟩) fm_Reader_takeWord lk_4_141 rfl rfl ob_52 ⟨_, rfl, rfl⟩ (Nat.le_of_ble_eq_true rfl) (by decide) ⟨by decide, by decide⟩ (fun z4 σ4 h4 => ?_)
        refine zif_eq (k := 36) rfl rfl (fun c4 => ?_) (fun c4 => ?_)
        · skip
          refine ziconst (k := 42) rfl (by decide) ?_
          refine zzreturn (k := 43) rfl rfl (by first | exact Or.inl rfl | exact Or.inr rfl | omega) rfl ?_
          rw [← hQ]
          first
          | (obtain ⟨k, pl, g1, g2, g3⟩ := or_0 h5 (by assumption)
             exact ⟨rfl, _, rfl, Or.inr ⟨rfl, k, pl, by unfold mnnF; rw [e1, bnd_l, e2, bnd_l, e3, bnd_l, e4, bnd_l, g1, bnd_r], g2, g3⟩⟩)
          | (obtain ⟨k, pl, g1, g2, g3⟩ := or_0 h4 (by assumption)
             exact ⟨rfl, _, rfl, Or.inr ⟨rfl, k, pl, by unfold mnnF; rw [e1, bnd_l, e2, bnd_l, e3, bnd_l, g1, bnd_r], g2, g3⟩⟩)
        · skip
          obtain ⟨X4, e4, x4, s4, b4, t4⟩ := or_1 h4 (by assumption)
          clear h0 h4
          have h0 := s4
          clear s4
          replace f1 := ((t4 _ _ (by omega) (by omega)).trans f1)
          replace f2 := ((t4 _ _ (by omega) (by omega)).trans f2)
          refine zaload_n (k := 37) rfl rfl ?_
          refine ziconst (k := 38) rfl (by decide) ?_
          refine zbipush (k := 39) rfl rfl ?_
          refine zpVI (k := 40) rfl (k_tn (lo := 0) (hi := 63) h0 ⟨by omega, by omega⟩) fm_Reader_takeNumber lk_4_144 rfl rfl ob_52 ⟨_, rfl, rfl⟩ (Nat.le_of_ble_eq_true rfl) (by decide) ⟨by decide, by decide⟩ (fun z5 σ5 h5 => ?_)
          refine zif_ne (k := 41) rfl rfl (fun c5 => ?_) (fun c5 => ?_)
          · skip
            obtain ⟨X5, e5, x5, s5, b5, t5⟩ := or_1 h5 (by assumption)
            clear h0 h5
            have h0 := s5
            clear s5
            replace f1 := ((t5 _ _ (by omega) (by omega)).trans f1)
            replace f2 := ((t5 _ _ (by omega) (by omega)).trans f2)
            refine zaload_n (k := 44) rfl rfl ?_
            refine zgR 1 (k := 45) rfl ob_52 fl_4_20 rfl fx_52_1 ?_
            rw [h0.1.2.2.2.2.2]
            refine zgF 11 (k := 46) rfl (wr_ob hw) fl_4_175 rfl (wr_fx_11 hw) ?_
            refine ziload_n (k := 47) rfl rfl ?_
            refine zaload_n (k := 48) rfl rfl ?_
            refine zgI 4 (k := 49) rfl ob_52 fl_4_150 rfl fx_52_4 ?_
            rw [x5.1]
            refine zfS0 (k := 50) rfl (c_NT_put (wr_ar_7 hw) (by omega)) fm_NT_put lk_4_137 rfl rfl (Nat.le_of_ble_eq_true rfl) (by decide) ⟨by decide, by decide⟩ ?_
            rw [zpt_in (by omega)]
            have h0 := stN_p (i := A 0 3) (v := X5.1) (r := 7) h0 (by omega) (by omega) (by omega)
            replace f1 := (zup_n (σ := σ5) (a := w + 7) (k := A 0 3) (v := X5.1) (by omega)).trans f1
            replace f2 := (zup_n (σ := σ5) (a := w + 7) (k := A 0 3) (v := X5.1) (by omega)).trans f2
            have f3 : zup σ5 (w + 7) (A 0 3) (X5.1) (w + 7) (A 0 3) = X5.1 := zup_s _ _ _ _
            refine zaload_n (k := 51) rfl rfl ?_
            refine zgR 1 (k := 52) rfl ob_52 fl_4_20 rfl fx_52_1 ?_
            rw [h0.1.2.2.2.2.2]
            refine zdup (k := 53) rfl rfl ?_
            refine zgI 3 (k := 54) rfl (wr_ob hw) fl_4_119 rfl (wr_fx_3 hw) ?_
            rw [h0.2.2.1.1 3 (by omega) (by omega)]
            refine ziconst (k := 55) rfl (by decide) ?_
            refine ziaddB (k := 56) rfl (by omega) ?_
            refine zpI 3 (k := 57) rfl (wr_ob hw) fl_4_119 ⟨_, rfl, rfl⟩ rfl (wr_pos hw) rfl (wr_fx_3 hw) ?_
            refine ziconst (k := 58) rfl (by decide) ?_
            refine zzreturn (k := 59) rfl rfl (by first | exact Or.inl rfl | exact Or.inr rfl | omega) rfl ?_
            rw [← hQ]
            have sp := st_man h0 hA (p0 := p) (q := X3.1) (y := X5.1) x1.2 ⟨by omega, by omega⟩ ⟨x5.2.1, x5.2.2⟩ hc f1 f2 f3
            exact ⟨rfl, _, rfl, Or.inl ⟨rfl, (X5.2, zup (zup (zup (zup A 5 (A 0 3) p) 6 (A 0 3) X3.1) 7 (A 0 3) X5.1) 0 3 (A 0 3 + 1)), by unfold mnnF; rw [e1, bnd_l, e2, bnd_l, e3, bnd_l, e4, bnd_l, e5, bnd_l], sp.1, sp.2, ⟨by show p < X5.2; omega, by show X5.2 ≤ n; omega⟩⟩⟩
          · skip
            refine ziconst (k := 42) rfl (by decide) ?_
            refine zzreturn (k := 43) rfl rfl (by first | exact Or.inl rfl | exact Or.inr rfl | omega) rfl ?_
            rw [← hQ]
            first
            | (obtain ⟨k, pl, g1, g2, g3⟩ := or_0 h5 (by assumption)
               exact ⟨rfl, _, rfl, Or.inr ⟨rfl, k, pl, by unfold mnnF; rw [e1, bnd_l, e2, bnd_l, e3, bnd_l, e4, bnd_l, g1, bnd_r], g2, g3⟩⟩)
            | (obtain ⟨k, pl, g1, g2, g3⟩ := or_0 h4 (by assumption)
               exact ⟨rfl, _, rfl, Or.inr ⟨rfl, k, pl, by unfold mnnF; rw [e1, bnd_l, e2, bnd_l, e3, bnd_l, g1, bnd_r], g2, g3⟩⟩)
      · skip
        refine ziconst (k := 24) rfl (by decide) ?_
        refine zzreturn (k := 25) rfl rfl (by first | exact Or.inl rfl | exact Or.inr rfl | omega) rfl ?_
        rw [← hQ]
        first
        | (obtain ⟨k, pl, g1, g2, g3⟩ := or_0 h3 (by assumption)
           exact ⟨rfl, _, rfl, Or.inr ⟨rfl, k, pl, by unfold mnnF; rw [e1, bnd_l, e2, bnd_l, g1, bnd_r], g2, g3⟩⟩)
        | (obtain ⟨k, pl, g1, g2, g3⟩ := or_0 h2 (by assumption)
           exact ⟨rfl, _, rfl, Or.inr ⟨rfl, k, pl, by unfold mnnF; rw [e1, bnd_l, g1, bnd_r], g2, g3⟩⟩)
  · skip
    refine ziconst (k := 3) rfl (by decide) ?_
    refine zzreturn (k := 4) rfl rfl (by first | exact Or.inl rfl | exact Or.inr rfl | omega) rfl ?_
    rw [← hQ]
    first
    | (obtain ⟨k, pl, g1, g2, g3⟩ := or_0 h1 (by assumption)
       exact ⟨rfl, _, rfl, Or.inr ⟨rfl, k, pl, by unfold mnnF; rw [g1, bnd_r], g2, g3⟩⟩)
set_option maxHeartbeats 4000000 in
set_option maxRecDepth 20000 in
theorem c_Reader_readCounty {Γ : zv_M} {L : Int} {σ0 σ : zv_H} {T : Int → Int} {n w p : Int} {A : zv_H} (hw : w ∈ wrL) (h0 : stN σ0 σ T n w A p) (hp : 0 ≤ p ∧ p ≤ n) (hA : AI T A) (hc : A 0 1 < 7) : zC Γ m_Reader_readCounty 4 0 0 (GM L) [zR 52] σ (zPI (GM L) (fun z σ' => (z = 1 ∧ ∃ X, ctyF T A p = Sum.inl X ∧ stN σ0 σ' T n w X.2 X.1 ∧ AI T X.2 ∧ (p < X.1 ∧ X.1 ≤ n)) ∨ (z = 0 ∧ ∃ k pl, ctyF T A p = Sum.inr (k, pl) ∧ flt σ' k pl ∧ wfr σ0 σ' w))) := by
  refine zC_of (ls0 := [_, _]) zm_Reader_readCounty (by decide) rfl (Nat.le_of_ble_eq_true rfl) ?_
  generalize hQ : (zPI (GM L) (fun z σ' => (z = 1 ∧ ∃ X, ctyF T A p = Sum.inl X ∧ stN σ0 σ' T n w X.2 X.1 ∧ AI T X.2 ∧ (p < X.1 ∧ X.1 ≤ n)) ∨ (z = 0 ∧ ∃ k pl, ctyF T A p = Sum.inr (k, pl) ∧ flt σ' k pl ∧ wfr σ0 σ' w))) = Q
  have hwf := wr_far hw
  have a1 := hA.2.1
  refine zaload_n (k := 0) rfl rfl ?_
  refine zpVI (k := 1) rfl (k_nn h0 hp hA) fm_Reader_takeNewName lk_4_127 rfl rfl ob_52 ⟨_, rfl, rfl⟩ (Nat.le_of_ble_eq_true rfl) (by decide) ⟨by decide, by decide⟩ (fun z1 σ1 h1 => ?_)
  refine zif_ne (k := 2) rfl rfl (fun c1 => ?_) (fun c1 => ?_)
  · skip
    obtain ⟨X1, e1, x1, s1, b1, t1⟩ := or_1 h1 (by assumption)
    clear h0 h1
    have h0 := s1
    clear s1
    refine zaload_n (k := 5) rfl rfl ?_
    refine zgR 1 (k := 6) rfl ob_52 fl_4_20 rfl fx_52_1 ?_
    rw [h0.1.2.2.2.2.2]
    refine zgI 1 (k := 7) rfl (wr_ob hw) fl_4_113 rfl (wr_fx_1 hw) ?_
    rw [h0.2.2.1.1 1 (by omega) (by omega)]
    refine zistore_n (k := 8) (ls' := [_, _]) rfl (Nat.le_of_ble_eq_true rfl) rfl ?_
    refine zaload_n (k := 9) rfl rfl ?_
    refine zgR 1 (k := 10) rfl ob_52 fl_4_20 rfl fx_52_1 ?_
    rw [h0.1.2.2.2.2.2]
    refine zgF 5 (k := 11) rfl (wr_ob hw) fl_4_130 rfl (wr_fx_5 hw) ?_
    refine ziload_n (k := 12) rfl rfl ?_
    refine zaload_n (k := 13) rfl rfl ?_
    refine zgI 5 (k := 14) rfl ob_52 fl_4_134 rfl fx_52_5 ?_
    rw [x1.1]
    refine zfS0 (k := 15) rfl (c_NT_put (wr_ar_1 hw) (by omega)) fm_NT_put lk_4_137 rfl rfl (Nat.le_of_ble_eq_true rfl) (by decide) ⟨by decide, by decide⟩ ?_
    rw [zpt_in (by omega)]
    have h0 := stN_p (i := A 0 1) (v := tNm T p) (r := 1) h0 (by omega) (by omega) (by omega)
    have f1 : zup σ1 (w + 1) (A 0 1) (tNm T p) (w + 1) (A 0 1) = tNm T p := zup_s _ _ _ _
    refine zaload_n (k := 16) rfl rfl ?_
    refine ziconst (k := 17) rfl (by decide) ?_
    refine zpVI (k := 18) rfl (k_tw h0 ⟨by omega, by omega⟩) fm_Reader_takeWord lk_4_141 rfl rfl ob_52 ⟨_, rfl, rfl⟩ (Nat.le_of_ble_eq_true rfl) (by decide) ⟨by decide, by decide⟩ (fun z2 σ2 h2 => ?_)
    refine zif_eq (k := 19) rfl rfl (fun c2 => ?_) (fun c2 => ?_)
    · skip
      refine ziconst (k := 25) rfl (by decide) ?_
      refine zzreturn (k := 26) rfl rfl (by first | exact Or.inl rfl | exact Or.inr rfl | omega) rfl ?_
      rw [← hQ]
      first
      | (obtain ⟨k, pl, g1, g2, g3⟩ := or_0 h3 (by assumption)
         exact ⟨rfl, _, rfl, Or.inr ⟨rfl, k, pl, by unfold ctyF; rw [e1, bnd_l, e2, bnd_l, g1, bnd_r], g2, g3⟩⟩)
      | (obtain ⟨k, pl, g1, g2, g3⟩ := or_0 h2 (by assumption)
         exact ⟨rfl, _, rfl, Or.inr ⟨rfl, k, pl, by unfold ctyF; rw [e1, bnd_l, g1, bnd_r], g2, g3⟩⟩)
    · skip
      obtain ⟨X2, e2, x2, s2, b2, t2⟩ := or_1 h2 (by assumption)
      clear h0 h2
      have h0 := s2
      clear s2
      replace f1 := ((t2 _ _ (by omega) (by omega)).trans f1)
      refine zaload_n (k := 20) rfl rfl ?_
      refine ziconst (k := 21) rfl (by decide) ?_
      refine zbipush (k := 22) rfl rfl ?_
      refine zpVI (k := 23) rfl (k_tn (lo := 0) (hi := 20) h0 ⟨by omega, by omega⟩) fm_Reader_takeNumber lk_4_144 rfl rfl ob_52 ⟨_, rfl, rfl⟩ (Nat.le_of_ble_eq_true rfl) (by decide) ⟨by decide, by decide⟩ (fun z3 σ3 h3 => ?_)
      refine zif_ne (k := 24) rfl rfl (fun c3 => ?_) (fun c3 => ?_)
      · skip
        obtain ⟨X3, e3, x3, s3, b3, t3⟩ := or_1 h3 (by assumption)
        clear h0 h3
        have h0 := s3
        clear s3
        replace f1 := ((t3 _ _ (by omega) (by omega)).trans f1)
        refine zaload_n (k := 27) rfl rfl ?_
        refine zgR 1 (k := 28) rfl ob_52 fl_4_20 rfl fx_52_1 ?_
        rw [h0.1.2.2.2.2.2]
        refine zgF 6 (k := 29) rfl (wr_ob hw) fl_4_147 rfl (wr_fx_6 hw) ?_
        refine ziload_n (k := 30) rfl rfl ?_
        refine zaload_n (k := 31) rfl rfl ?_
        refine zgI 4 (k := 32) rfl ob_52 fl_4_150 rfl fx_52_4 ?_
        rw [x3.1]
        refine zfS0 (k := 33) rfl (c_NT_put (wr_ar_2 hw) (by omega)) fm_NT_put lk_4_137 rfl rfl (Nat.le_of_ble_eq_true rfl) (by decide) ⟨by decide, by decide⟩ ?_
        rw [zpt_in (by omega)]
        have h0 := stN_p (i := A 0 1) (v := X3.1) (r := 2) h0 (by omega) (by omega) (by omega)
        replace f1 := (zup_n (σ := σ3) (a := w + 2) (k := A 0 1) (v := X3.1) (by omega)).trans f1
        have f2 : zup σ3 (w + 2) (A 0 1) (X3.1) (w + 2) (A 0 1) = X3.1 := zup_s _ _ _ _
        refine zaload_n (k := 34) rfl rfl ?_
        refine ziconst (k := 35) rfl (by decide) ?_
        refine zpVI (k := 36) rfl (k_tw h0 ⟨by omega, by omega⟩) fm_Reader_takeWord lk_4_141 rfl rfl ob_52 ⟨_, rfl, rfl⟩ (Nat.le_of_ble_eq_true rfl) (by decide) ⟨by decide, by decide⟩ (fun z4 σ4 h4 => ?_)
        refine zif_eq (k := 37) rfl rfl (fun c4 => ?_) (fun c4 => ?_)
        · skip
          refine ziconst (k := 43) rfl (by decide) ?_
          refine zzreturn (k := 44) rfl rfl (by first | exact Or.inl rfl | exact Or.inr rfl | omega) rfl ?_
          rw [← hQ]
          first
          | (obtain ⟨k, pl, g1, g2, g3⟩ := or_0 h5 (by assumption)
             exact ⟨rfl, _, rfl, Or.inr ⟨rfl, k, pl, by unfold ctyF; rw [e1, bnd_l, e2, bnd_l, e3, bnd_l, e4, bnd_l, g1, bnd_r], g2, g3⟩⟩)
          | (obtain ⟨k, pl, g1, g2, g3⟩ := or_0 h4 (by assumption)
             exact ⟨rfl, _, rfl, Or.inr ⟨rfl, k, pl, by unfold ctyF; rw [e1, bnd_l, e2, bnd_l, e3, bnd_l, g1, bnd_r], g2, g3⟩⟩)
        · skip
          obtain ⟨X4, e4, x4, s4, b4, t4⟩ := or_1 h4 (by assumption)
          clear h0 h4
          have h0 := s4
          clear s4
          replace f1 := ((t4 _ _ (by omega) (by omega)).trans f1)
          replace f2 := ((t4 _ _ (by omega) (by omega)).trans f2)
          refine zaload_n (k := 38) rfl rfl ?_
          refine ziconst (k := 39) rfl (by decide) ?_
          refine zsipush (k := 40) rfl rfl ?_
          refine zpVI (k := 41) rfl (k_tn (lo := 0) (hi := 999) h0 ⟨by omega, by omega⟩) fm_Reader_takeNumber lk_4_144 rfl rfl ob_52 ⟨_, rfl, rfl⟩ (Nat.le_of_ble_eq_true rfl) (by decide) ⟨by decide, by decide⟩ (fun z5 σ5 h5 => ?_)
          refine zif_ne (k := 42) rfl rfl (fun c5 => ?_) (fun c5 => ?_)
          · skip
            obtain ⟨X5, e5, x5, s5, b5, t5⟩ := or_1 h5 (by assumption)
            clear h0 h5
            have h0 := s5
            clear s5
            replace f1 := ((t5 _ _ (by omega) (by omega)).trans f1)
            replace f2 := ((t5 _ _ (by omega) (by omega)).trans f2)
            refine zaload_n (k := 45) rfl rfl ?_
            refine zgR 1 (k := 46) rfl ob_52 fl_4_20 rfl fx_52_1 ?_
            rw [h0.1.2.2.2.2.2]
            refine zgF 7 (k := 47) rfl (wr_ob hw) fl_4_153 rfl (wr_fx_7 hw) ?_
            refine ziload_n (k := 48) rfl rfl ?_
            refine zaload_n (k := 49) rfl rfl ?_
            refine zgI 4 (k := 50) rfl ob_52 fl_4_150 rfl fx_52_4 ?_
            rw [x5.1]
            refine zfS0 (k := 51) rfl (c_NT_put (wr_ar_3 hw) (by omega)) fm_NT_put lk_4_137 rfl rfl (Nat.le_of_ble_eq_true rfl) (by decide) ⟨by decide, by decide⟩ ?_
            rw [zpt_in (by omega)]
            have h0 := stN_p (i := A 0 1) (v := X5.1) (r := 3) h0 (by omega) (by omega) (by omega)
            replace f1 := (zup_n (σ := σ5) (a := w + 3) (k := A 0 1) (v := X5.1) (by omega)).trans f1
            replace f2 := (zup_n (σ := σ5) (a := w + 3) (k := A 0 1) (v := X5.1) (by omega)).trans f2
            have f3 : zup σ5 (w + 3) (A 0 1) (X5.1) (w + 3) (A 0 1) = X5.1 := zup_s _ _ _ _
            refine zaload_n (k := 52) rfl rfl ?_
            refine ziconst (k := 53) rfl (by decide) ?_
            refine zpVI (k := 54) rfl (k_tw h0 ⟨by omega, by omega⟩) fm_Reader_takeWord lk_4_141 rfl rfl ob_52 ⟨_, rfl, rfl⟩ (Nat.le_of_ble_eq_true rfl) (by decide) ⟨by decide, by decide⟩ (fun z6 σ6 h6 => ?_)
            refine zif_eq (k := 55) rfl rfl (fun c6 => ?_) (fun c6 => ?_)
            · skip
              refine ziconst (k := 61) rfl (by decide) ?_
              refine zzreturn (k := 62) rfl rfl (by first | exact Or.inl rfl | exact Or.inr rfl | omega) rfl ?_
              rw [← hQ]
              first
              | (obtain ⟨k, pl, g1, g2, g3⟩ := or_0 h7 (by assumption)
                 exact ⟨rfl, _, rfl, Or.inr ⟨rfl, k, pl, by unfold ctyF; rw [e1, bnd_l, e2, bnd_l, e3, bnd_l, e4, bnd_l, e5, bnd_l, e6, bnd_l, g1, bnd_r], g2, g3⟩⟩)
              | (obtain ⟨k, pl, g1, g2, g3⟩ := or_0 h6 (by assumption)
                 exact ⟨rfl, _, rfl, Or.inr ⟨rfl, k, pl, by unfold ctyF; rw [e1, bnd_l, e2, bnd_l, e3, bnd_l, e4, bnd_l, e5, bnd_l, g1, bnd_r], g2, g3⟩⟩)
            · skip
              obtain ⟨X6, e6, x6, s6, b6, t6⟩ := or_1 h6 (by assumption)
              clear h0 h6
              have h0 := s6
              clear s6
              replace f1 := ((t6 _ _ (by omega) (by omega)).trans f1)
              replace f2 := ((t6 _ _ (by omega) (by omega)).trans f2)
              replace f3 := ((t6 _ _ (by omega) (by omega)).trans f3)
              refine zaload_n (k := 56) rfl rfl ?_
              refine ziconst (k := 57) rfl (by decide) ?_
              refine zbipush (k := 58) rfl rfl ?_
              refine zpVI (k := 59) rfl (k_tn (lo := 0) (hi := 9) h0 ⟨by omega, by omega⟩) fm_Reader_takeNumber lk_4_144 rfl rfl ob_52 ⟨_, rfl, rfl⟩ (Nat.le_of_ble_eq_true rfl) (by decide) ⟨by decide, by decide⟩ (fun z7 σ7 h7 => ?_)
              refine zif_ne (k := 60) rfl rfl (fun c7 => ?_) (fun c7 => ?_)
              · skip
                obtain ⟨X7, e7, x7, s7, b7, t7⟩ := or_1 h7 (by assumption)
                clear h0 h7
                have h0 := s7
                clear s7
                replace f1 := ((t7 _ _ (by omega) (by omega)).trans f1)
                replace f2 := ((t7 _ _ (by omega) (by omega)).trans f2)
                replace f3 := ((t7 _ _ (by omega) (by omega)).trans f3)
                refine zaload_n (k := 63) rfl rfl ?_
                refine zgR 1 (k := 64) rfl ob_52 fl_4_20 rfl fx_52_1 ?_
                rw [h0.1.2.2.2.2.2]
                refine zgF 8 (k := 65) rfl (wr_ob hw) fl_4_156 rfl (wr_fx_8 hw) ?_
                refine ziload_n (k := 66) rfl rfl ?_
                refine zaload_n (k := 67) rfl rfl ?_
                refine zgI 4 (k := 68) rfl ob_52 fl_4_150 rfl fx_52_4 ?_
                rw [x7.1]
                refine zfS0 (k := 69) rfl (c_NT_put (wr_ar_4 hw) (by omega)) fm_NT_put lk_4_137 rfl rfl (Nat.le_of_ble_eq_true rfl) (by decide) ⟨by decide, by decide⟩ ?_
                rw [zpt_in (by omega)]
                have h0 := stN_p (i := A 0 1) (v := X7.1) (r := 4) h0 (by omega) (by omega) (by omega)
                replace f1 := (zup_n (σ := σ7) (a := w + 4) (k := A 0 1) (v := X7.1) (by omega)).trans f1
                replace f2 := (zup_n (σ := σ7) (a := w + 4) (k := A 0 1) (v := X7.1) (by omega)).trans f2
                replace f3 := (zup_n (σ := σ7) (a := w + 4) (k := A 0 1) (v := X7.1) (by omega)).trans f3
                have f4 : zup σ7 (w + 4) (A 0 1) (X7.1) (w + 4) (A 0 1) = X7.1 := zup_s _ _ _ _
                refine zaload_n (k := 70) rfl rfl ?_
                refine zgR 1 (k := 71) rfl ob_52 fl_4_20 rfl fx_52_1 ?_
                rw [h0.1.2.2.2.2.2]
                refine zdup (k := 72) rfl rfl ?_
                refine zgI 1 (k := 73) rfl (wr_ob hw) fl_4_113 rfl (wr_fx_1 hw) ?_
                rw [h0.2.2.1.1 1 (by omega) (by omega)]
                refine ziconst (k := 74) rfl (by decide) ?_
                refine ziaddB (k := 75) rfl (by omega) ?_
                refine zpI 1 (k := 76) rfl (wr_ob hw) fl_4_113 ⟨_, rfl, rfl⟩ rfl (wr_pos hw) rfl (wr_fx_1 hw) ?_
                refine ziconst (k := 77) rfl (by decide) ?_
                refine zzreturn (k := 78) rfl rfl (by first | exact Or.inl rfl | exact Or.inr rfl | omega) rfl ?_
                rw [← hQ]
                have sp := st_cty h0 hA (p0 := p) (q := X3.1) (y := X5.1) (g := X7.1) x1.2 x3.2 x5.2 x7.2 hc f1 f2 f3 f4
                exact ⟨rfl, _, rfl, Or.inl ⟨rfl, (X7.2, zup (zup (zup (zup (zup A 1 (A 0 1) p) 2 (A 0 1) X3.1) 3 (A 0 1) X5.1) 4 (A 0 1) X7.1) 0 1 (A 0 1 + 1)), by unfold ctyF; rw [e1, bnd_l, e2, bnd_l, e3, bnd_l, e4, bnd_l, e5, bnd_l, e6, bnd_l, e7, bnd_l], sp.1, sp.2, ⟨by show p < X7.2; omega, by show X7.2 ≤ n; omega⟩⟩⟩
              · skip
                refine ziconst (k := 61) rfl (by decide) ?_
                refine zzreturn (k := 62) rfl rfl (by first | exact Or.inl rfl | exact Or.inr rfl | omega) rfl ?_
                rw [← hQ]
                first
                | (obtain ⟨k, pl, g1, g2, g3⟩ := or_0 h7 (by assumption)
                   exact ⟨rfl, _, rfl, Or.inr ⟨rfl, k, pl, by unfold ctyF; rw [e1, bnd_l, e2, bnd_l, e3, bnd_l, e4, bnd_l, e5, bnd_l, e6, bnd_l, g1, bnd_r], g2, g3⟩⟩)
                | (obtain ⟨k, pl, g1, g2, g3⟩ := or_0 h6 (by assumption)
                   exact ⟨rfl, _, rfl, Or.inr ⟨rfl, k, pl, by unfold ctyF; rw [e1, bnd_l, e2, bnd_l, e3, bnd_l, e4, bnd_l, e5, bnd_l, g1, bnd_r], g2, g3⟩⟩)
          · skip
            refine ziconst (k := 43) rfl (by decide) ?_
            refine zzreturn (k := 44) rfl rfl (by first | exact Or.inl rfl | exact Or.inr rfl | omega) rfl ?_
            rw [← hQ]
            first
            | (obtain ⟨k, pl, g1, g2, g3⟩ := or_0 h5 (by assumption)
               exact ⟨rfl, _, rfl, Or.inr ⟨rfl, k, pl, by unfold ctyF; rw [e1, bnd_l, e2, bnd_l, e3, bnd_l, e4, bnd_l, g1, bnd_r], g2, g3⟩⟩)
            | (obtain ⟨k, pl, g1, g2, g3⟩ := or_0 h4 (by assumption)
               exact ⟨rfl, _, rfl, Or.inr ⟨rfl, k, pl, by unfold ctyF; rw [e1, bnd_l, e2, bnd_l, e3, bnd_l, g1, bnd_r], g2, g3⟩⟩)
      · skip
        refine ziconst (k := 25) rfl (by decide) ?_
        refine zzreturn (k := 26) rfl rfl (by first | exact Or.inl rfl | exact Or.inr rfl | omega) rfl ?_
        rw [← hQ]
        first
        | (obtain ⟨k, pl, g1, g2, g3⟩ := or_0 h3 (by assumption)
           exact ⟨rfl, _, rfl, Or.inr ⟨rfl, k, pl, by unfold ctyF; rw [e1, bnd_l, e2, bnd_l, g1, bnd_r], g2, g3⟩⟩)
        | (obtain ⟨k, pl, g1, g2, g3⟩ := or_0 h2 (by assumption)
           exact ⟨rfl, _, rfl, Or.inr ⟨rfl, k, pl, by unfold ctyF; rw [e1, bnd_l, g1, bnd_r], g2, g3⟩⟩)
  · skip
    refine ziconst (k := 3) rfl (by decide) ?_
    refine zzreturn (k := 4) rfl rfl (by first | exact Or.inl rfl | exact Or.inr rfl | omega) rfl ?_
    rw [← hQ]
    first
    | (obtain ⟨k, pl, g1, g2, g3⟩ := or_0 h1 (by assumption)
       exact ⟨rfl, _, rfl, Or.inr ⟨rfl, k, pl, by unfold ctyF; rw [g1, bnd_r], g2, g3⟩⟩)
