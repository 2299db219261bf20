set_option maxHeartbeats 4000000 in
set_option maxRecDepth 20000 in
theorem d_Reader_takeNewName {Γ : zv_M} {L : Int} {σ : zv_H} {T : Int → Int} {n w p : Int} (hE : RW σ T n w) (h0 : SCp σ T p) (hp : 0 ≤ p ∧ p ≤ n) {A : zv_H} (hN : wrN σ w T A) (hA : AI T A)  : zC Γ m_Reader_takeNewName 3 0 0 (GM L) [zR 52] σ (zPI (GM L) (fun z σ' => (z = 1 ∧ ∃ X, tkNew T A p = Sum.inl X ∧ σ' 52 5 = tNm T p ∧ tK T p = 1 ∧ SCp σ' T X ∧ (p < X ∧ X ≤ n) ∧ tks σ σ') ∨ (z = 0 ∧ ∃ k pl, tkNew T A p = Sum.inr (k, pl) ∧ flt σ' k pl ∧ tkf σ σ'))) := by
  refine zC_of (ls0 := [_]) zm_Reader_takeNewName (by decide) rfl (Nat.le_of_ble_eq_true rfl) ?_
  generalize hQ : (zPI (GM L) (fun z σ' => (z = 1 ∧ ∃ X, tkNew T A p = Sum.inl X ∧ σ' 52 5 = tNm T p ∧ tK T p = 1 ∧ SCp σ' T X ∧ (p < X ∧ X ≤ n) ∧ tks σ σ') ∨ (z = 0 ∧ ∃ k pl, tkNew T A p = Sum.inr (k, pl) ∧ flt σ' k pl ∧ tkf σ σ'))) = Q
  refine zaload_n (k := 0) rfl rfl ?_
  refine zgF 0 (k := 1) rfl ob_52 fl_4_14 rfl fx_52_0 ?_
  refine zpVI (k := 2) rfl (c_Scanner_isName h0) fm_Scanner_isName lk_4_190 rfl rfl ob_53 ⟨_, rfl, rfl⟩ (Nat.le_of_ble_eq_true rfl) (by decide) ⟨by decide, by decide⟩ (fun z2 σ2 h2 => ?_)
  obtain ⟨he, h2⟩ := h2
  rw [he]
  clear he
  refine zif_ne (k := 3) rfl rfl (fun c1 => ?_) (fun c1 => ?_)
  · skip
    have hs : isOw T p (-1) := or_1 h2 (by assumption)
    clear h2
    have tb := tN_c hE.2.2.1 hp (Or.inl hs.1)
    refine zaload_n (k := 8) rfl rfl ?_
    refine zgR 1 (k := 9) rfl ob_52 fl_4_20 rfl fx_52_1 ?_
    rw [hE.2.2.2.2.2]
    refine zaload_n (k := 10) rfl rfl ?_
    refine zgF 0 (k := 11) rfl ob_52 fl_4_14 rfl fx_52_0 ?_
    refine zgI 7 (k := 12) rfl ob_53 fl_4_193 rfl fx_53_7 ?_
    rw [h0.2.2.2.2.2.1 hs.1]
    refine zfV1 (k := 13) rfl (c_War_countyNamed hE.2.2.2.2.1) fm_War_countyNamed lk_4_194 rfl rfl (wr_ob hE.2.2.2.2.1) ⟨_, rfl, rfl⟩ (Nat.le_of_ble_eq_true rfl) (by decide) ⟨by decide, by decide⟩ ?_
    rw [show σ w 1 = A 0 1 from hN.1 1 (by omega) (by omega), cyI_e hN hA, show ixF (fun i => tNm T (A 1 i)) (tNm T p) (A 0 1).toNat 0 = cyI T A p from rfl]
    refine ziconst (k := 14) rfl (by decide) ?_
    refine zicmp_ne (k := 15) rfl rfl (fun c2 => ?_) (fun c2 => ?_)
    · skip
      refine zaload_n (k := 24) rfl rfl ?_
      refine ziconst (k := 25) rfl (by decide) ?_
      refine zpVI (k := 26) rfl (k_wrong3 h0) fm_Reader_wrong lk_4_79 rfl rfl ob_52 ⟨_, rfl, rfl⟩ (Nat.le_of_ble_eq_true rfl) (by decide) ⟨by decide, by decide⟩ (fun z9 σ9 h9 => ?_)
      rw [h9.1]
      refine zzreturn (k := 27) rfl rfl (by first | exact Or.inl rfl | exact Or.inr rfl | omega) rfl ?_
      rw [← hQ]
      exact ⟨rfl, _, rfl, Or.inr ⟨rfl, _, _, by unfold tkNew; rw [if_neg (fun q => q hs), if_pos (by omega)], h9.2⟩⟩
    · skip
      refine zaload_n (k := 16) rfl rfl ?_
      refine zgR 1 (k := 17) rfl ob_52 fl_4_20 rfl fx_52_1 ?_
      rw [hE.2.2.2.2.2]
      refine zaload_n (k := 18) rfl rfl ?_
      refine zgF 0 (k := 19) rfl ob_52 fl_4_14 rfl fx_52_0 ?_
      refine zgI 7 (k := 20) rfl ob_53 fl_4_193 rfl fx_53_7 ?_
      rw [h0.2.2.2.2.2.1 hs.1]
      refine zfV1 (k := 21) rfl (c_War_manNamed hE.2.2.2.2.1) fm_War_manNamed lk_4_198 rfl rfl (wr_ob hE.2.2.2.2.1) ⟨_, rfl, rfl⟩ (Nat.le_of_ble_eq_true rfl) (by decide) ⟨by decide, by decide⟩ ?_
      rw [show σ w 3 = A 0 3 from hN.1 3 (by omega) (by omega), mnI_e hN hA, show ixF (fun i => tNm T (A 5 i)) (tNm T p) (A 0 3).toNat 0 = mnI T A p from rfl]
      refine ziconst (k := 22) rfl (by decide) ?_
      refine zicmp_eq (k := 23) rfl rfl (fun c3 => ?_) (fun c3 => ?_)
      · skip
        refine zaload_n (k := 28) rfl rfl ?_
        refine zaload_n (k := 29) rfl rfl ?_
        refine zgF 0 (k := 30) rfl ob_52 fl_4_14 rfl fx_52_0 ?_
        refine zgI 7 (k := 31) rfl ob_53 fl_4_193 rfl fx_53_7 ?_
        rw [h0.2.2.2.2.2.1 hs.1]
        refine zpI 5 (k := 32) rfl ob_52 fl_4_134 ⟨_, rfl, rfl⟩ rfl (by omega) rfl fx_52_5 ?_
        have h1 : SCp (zup σ 52 5 (tNm T p)) T p := by
          unfold SCp
          rw [zup_n (by omega), zup_n (by omega), zup_n (by omega), zup_n (by omega), zup_n (by omega), zup_n (by omega), zup_n (by omega)]
          exact h0
        have t1 : tks σ (zup σ 52 5 (tNm T p)) := fun x k a b => zup_n (by omega)
        have hE1 := RW_t hE t1
        refine zaload_n (k := 33) rfl rfl ?_
        refine zgF 0 (k := 34) rfl ob_52 fl_4_14 rfl fx_52_0 ?_
        refine zpV0 (k := 35) rfl (k_adv3 hE1 h1 hp (Or.inl hs.1)) fm_Scanner_advance lk_4_85 rfl rfl ob_53 ⟨_, rfl, rfl⟩ (Nat.le_of_ble_eq_true rfl) (by decide) ⟨by decide, by decide⟩ (fun σ3 h3 => ?_)
        refine ziconst (k := 36) rfl (by decide) ?_
        refine zzreturn (k := 37) rfl rfl (by first | exact Or.inl rfl | exact Or.inr rfl | omega) rfl ?_
        rw [← hQ]
        exact ⟨rfl, _, rfl, Or.inl ⟨rfl, _, by unfold tkNew; rw [if_neg (fun q => q hs), if_neg (by omega)], by rw [h3.2 52 5 (by omega), zup_s], hs.1, h3.1, ⟨tb.1, tb.2.2⟩, fun x k a b => by rw [h3.2 x k a, zup_n (by omega)]⟩⟩
      · skip
        refine zaload_n (k := 24) rfl rfl ?_
        refine ziconst (k := 25) rfl (by decide) ?_
        refine zpVI (k := 26) rfl (k_wrong3 h0) fm_Reader_wrong lk_4_79 rfl rfl ob_52 ⟨_, rfl, rfl⟩ (Nat.le_of_ble_eq_true rfl) (by decide) ⟨by decide, by decide⟩ (fun z9 σ9 h9 => ?_)
        rw [h9.1]
        refine zzreturn (k := 27) rfl rfl (by first | exact Or.inl rfl | exact Or.inr rfl | omega) rfl ?_
        rw [← hQ]
        exact ⟨rfl, _, rfl, Or.inr ⟨rfl, _, _, by unfold tkNew; rw [if_neg (fun q => q hs), if_pos (by omega)], h9.2⟩⟩
  · skip
    have hs : ¬ isOw T p (-1) := or_0 h2 (by assumption)
    clear h2
    refine zaload_n (k := 4) rfl rfl ?_
    refine ziconst (k := 5) rfl (by decide) ?_
    refine zpVI (k := 6) rfl (k_wrong3 h0) fm_Reader_wrong lk_4_79 rfl rfl ob_52 ⟨_, rfl, rfl⟩ (Nat.le_of_ble_eq_true rfl) (by decide) ⟨by decide, by decide⟩ (fun z9 σ9 h9 => ?_)
    rw [h9.1]
    refine zzreturn (k := 7) rfl rfl (by first | exact Or.inl rfl | exact Or.inr rfl | omega) rfl ?_
    rw [← hQ]
    exact ⟨rfl, _, rfl, Or.inr ⟨rfl, _, _, by unfold tkNew; rw [if_pos hs], h9.2⟩⟩
set_option maxHeartbeats 4000000 in
set_option maxRecDepth 20000 in
theorem d_Reader_takeCounty {Γ : zv_M} {L : Int} {σ : zv_H} {T : Int → Int} {n w p : Int} (hE : RW σ T n w) (h0 : SCp σ T p) (hp : 0 ≤ p ∧ p ≤ n) {A : zv_H} (hN : wrN σ w T A) (hA : AI T A) {rf : Int} (hrf : rf = -1 ∨ (0 ≤ rf ∧ rf < 7)) : zC Γ m_Reader_takeCounty 3 0 0 (GM L) [zR 52, zI rf] σ (zPI (GM L) (fun z σ' => (z = 1 ∧ ∃ X, tkCty T A rf p = Sum.inl X ∧ σ' 52 6 = X.1 ∧ (0 ≤ X.1 ∧ X.1 < A 0 1) ∧ (rf ≠ -1 → X.1 ≠ rf) ∧ SCp σ' T X.2 ∧ (p < X.2 ∧ X.2 ≤ n) ∧ tks σ σ') ∨ (z = 0 ∧ ∃ k pl, tkCty T A rf p = Sum.inr (k, pl) ∧ flt σ' k pl ∧ tkf σ σ'))) := by
  refine zC_of (ls0 := [_, _]) zm_Reader_takeCounty (by decide) rfl (Nat.le_of_ble_eq_true rfl) ?_
  generalize hQ : (zPI (GM L) (fun z σ' => (z = 1 ∧ ∃ X, tkCty T A rf p = Sum.inl X ∧ σ' 52 6 = X.1 ∧ (0 ≤ X.1 ∧ X.1 < A 0 1) ∧ (rf ≠ -1 → X.1 ≠ rf) ∧ SCp σ' T X.2 ∧ (p < X.2 ∧ X.2 ≤ n) ∧ tks σ σ') ∨ (z = 0 ∧ ∃ k pl, tkCty T A rf p = Sum.inr (k, pl) ∧ flt σ' k pl ∧ tkf σ σ'))) = Q
  have cb := ixF_b (f := fun i => tNm T (A 1 i)) (v := tNm T p) (A 0 1).toNat 0 (by omega)
  rw [show ixF (fun i => tNm T (A 1 i)) (tNm T p) (A 0 1).toNat 0 = cyI T A p from rfl] at cb
  have a1 := hA.2.1
  have a12 := hA.2.2.2.2.2.2.2
  refine zaload_n (k := 0) rfl rfl ?_
  refine zgF 0 (k := 1) rfl ob_52 fl_4_14 rfl fx_52_0 ?_
  refine zpVI (k := 2) rfl (c_Scanner_isName h0) fm_Scanner_isName lk_4_190 rfl rfl ob_53 ⟨_, rfl, rfl⟩ (Nat.le_of_ble_eq_true rfl) (by decide) ⟨by decide, by decide⟩ (fun z2 σ2 h2 => ?_)
  obtain ⟨he, h2⟩ := h2
  rw [he]
  clear he
  refine zif_ne (k := 3) rfl rfl (fun c1 => ?_) (fun c1 => ?_)
  · skip
    have hs : isOw T p (-1) := or_1 h2 (by assumption)
    clear h2
    have tb := tN_c hE.2.2.1 hp (Or.inl hs.1)
    refine zaload_n (k := 8) rfl rfl ?_
    refine zaload_n (k := 9) rfl rfl ?_
    refine zgR 1 (k := 10) rfl ob_52 fl_4_20 rfl fx_52_1 ?_
    first | rw [hE.2.2.2.2.2] | rw [hE1.2.2.2.2.2]
    refine zaload_n (k := 11) rfl rfl ?_
    refine zgF 0 (k := 12) rfl ob_52 fl_4_14 rfl fx_52_0 ?_
    refine zgI 7 (k := 13) rfl ob_53 fl_4_193 rfl fx_53_7 ?_
    rw [h0.2.2.2.2.2.1 hs.1]
    refine zfV1 (k := 14) rfl (c_War_countyNamed hE.2.2.2.2.1) fm_War_countyNamed lk_4_194 rfl rfl (wr_ob hE.2.2.2.2.1) ⟨_, rfl, rfl⟩ (Nat.le_of_ble_eq_true rfl) (by decide) ⟨by decide, by decide⟩ ?_
    rw [show σ w 1 = A 0 1 from hN.1 1 (by omega) (by omega), cyI_e hN hA, show ixF (fun i => tNm T (A 1 i)) (tNm T p) (A 0 1).toNat 0 = cyI T A p from rfl]
    refine zpI 6 (k := 15) rfl ob_52 fl_4_162 ⟨_, rfl, rfl⟩ rfl (by omega) rfl fx_52_6 ?_
    have h1 : SCp (zup σ 52 6 (cyI T A p)) T p := by
      unfold SCp
      rw [zup_n (by omega), zup_n (by omega), zup_n (by omega), zup_n (by omega), zup_n (by omega), zup_n (by omega), zup_n (by omega)]
      exact h0
    have t1 : tks σ (zup σ 52 6 (cyI T A p)) := fun x k a b => zup_n (by omega)
    have hE1 := RW_t hE t1
    have hwf := wr_far hE.2.2.2.2.1
    refine zaload_n (k := 16) rfl rfl ?_
    refine zgI 6 (k := 17) rfl ob_52 fl_4_162 rfl fx_52_6 ?_
    rw [zup_s]
    refine ziconst (k := 18) rfl (by decide) ?_
    refine zicmp_eq (k := 19) rfl rfl (fun c2 => ?_) (fun c2 => ?_)
    · skip
      refine zaload_n (k := 34) rfl rfl ?_
      refine ziconst (k := 35) rfl (by decide) ?_
      refine zpVI (k := 36) rfl (k_wrong3 h1) fm_Reader_wrong lk_4_79 rfl rfl ob_52 ⟨_, rfl, rfl⟩ (Nat.le_of_ble_eq_true rfl) (by decide) ⟨by decide, by decide⟩ (fun z9 σ9 h9 => ?_)
      rw [h9.1]
      refine zzreturn (k := 37) rfl rfl (by first | exact Or.inl rfl | exact Or.inr rfl | omega) rfl ?_
      rw [← hQ]
      exact ⟨rfl, _, rfl, Or.inr ⟨rfl, _, _, by unfold tkCty; rw [if_neg (fun q => q hs), if_pos (by omega)], h9.2.1, tkf_tr (tks_f t1) h9.2.2⟩⟩
    · skip
      refine ziload_n (k := 20) rfl rfl ?_
      refine ziconst (k := 21) rfl (by decide) ?_
      refine zicmp_eq (k := 22) rfl rfl (fun c3 => ?_) (fun c3 => ?_)
      · skip
        refine zaload_n (k := 38) rfl rfl ?_
        refine zgF 0 (k := 39) rfl ob_52 fl_4_14 rfl fx_52_0 ?_
        refine zpV0 (k := 40) rfl (k_adv3 hE1 h1 hp (Or.inl hs.1)) fm_Scanner_advance lk_4_85 rfl rfl ob_53 ⟨_, rfl, rfl⟩ (Nat.le_of_ble_eq_true rfl) (by decide) ⟨by decide, by decide⟩ (fun σ3 h3 => ?_)
        refine ziconst (k := 41) rfl (by decide) ?_
        refine zzreturn (k := 42) rfl rfl (by first | exact Or.inl rfl | exact Or.inr rfl | omega) rfl ?_
        rw [← hQ]
        exact ⟨rfl, _, rfl, Or.inl ⟨rfl, (cyI T A p, tN T p), by unfold tkCty; rw [if_neg (fun q => q hs), if_neg (by omega)], by rw [h3.2 52 6 (by omega), zup_s], ⟨by show 0 ≤ cyI T A p; omega, by show cyI T A p < A 0 1; omega⟩, by show rf ≠ -1 → cyI T A p ≠ rf; omega, h3.1, ⟨tb.1, tb.2.2⟩, fun x k a b => by rw [h3.2 x k a, zup_n (by omega)]⟩⟩
      · skip
        refine zaload_n (k := 23) rfl rfl ?_
        refine zgI 6 (k := 24) rfl ob_52 fl_4_162 rfl fx_52_6 ?_
        rw [zup_s]
        refine ziload_n (k := 25) rfl rfl ?_
        refine zicmp_eq (k := 26) rfl rfl (fun c4 => ?_) (fun c4 => ?_)
        · skip
          refine zaload_n (k := 34) rfl rfl ?_
          refine ziconst (k := 35) rfl (by decide) ?_
          refine zpVI (k := 36) rfl (k_wrong3 h1) fm_Reader_wrong lk_4_79 rfl rfl ob_52 ⟨_, rfl, rfl⟩ (Nat.le_of_ble_eq_true rfl) (by decide) ⟨by decide, by decide⟩ (fun z9 σ9 h9 => ?_)
          rw [h9.1]
          refine zzreturn (k := 37) rfl rfl (by first | exact Or.inl rfl | exact Or.inr rfl | omega) rfl ?_
          rw [← hQ]
          exact ⟨rfl, _, rfl, Or.inr ⟨rfl, _, _, by unfold tkCty; rw [if_neg (fun q => q hs), if_pos (by omega)], h9.2.1, tkf_tr (tks_f t1) h9.2.2⟩⟩
        · skip
          refine zaload_n (k := 27) rfl rfl ?_
          refine zgR 1 (k := 28) rfl ob_52 fl_4_20 rfl fx_52_1 ?_
          first | rw [hE.2.2.2.2.2] | rw [hE1.2.2.2.2.2]
          refine ziload_n (k := 29) rfl rfl ?_
          refine zaload_n (k := 30) rfl rfl ?_
          refine zgI 6 (k := 31) rfl ob_52 fl_4_162 rfl fx_52_6 ?_
          rw [zup_s]
          refine zfV1 (k := 32) rfl (c_War_hasRail hE.2.2.2.2.1 (by omega) (by omega)) fm_War_hasRail lk_4_201 rfl rfl (wr_ob hE.2.2.2.2.1) ⟨_, rfl, rfl⟩ (Nat.le_of_ble_eq_true rfl) (by decide) ⟨by decide, by decide⟩ ?_
          have ra := a12 (rf * 7 + cyI T A p) (by omega) (by omega)
          rw [zup_n (by omega), hN.2.2.2 _ (by omega) (by omega)]
          refine zif_eq (k := 33) rfl rfl (fun c5 => ?_) (fun c5 => ?_)
          · skip
            refine zaload_n (k := 38) rfl rfl ?_
            refine zgF 0 (k := 39) rfl ob_52 fl_4_14 rfl fx_52_0 ?_
            refine zpV0 (k := 40) rfl (k_adv3 hE1 h1 hp (Or.inl hs.1)) fm_Scanner_advance lk_4_85 rfl rfl ob_53 ⟨_, rfl, rfl⟩ (Nat.le_of_ble_eq_true rfl) (by decide) ⟨by decide, by decide⟩ (fun σ3 h3 => ?_)
            refine ziconst (k := 41) rfl (by decide) ?_
            refine zzreturn (k := 42) rfl rfl (by first | exact Or.inl rfl | exact Or.inr rfl | omega) rfl ?_
            rw [← hQ]
            exact ⟨rfl, _, rfl, Or.inl ⟨rfl, (cyI T A p, tN T p), by unfold tkCty; rw [if_neg (fun q => q hs), if_neg (by omega)], by rw [h3.2 52 6 (by omega), zup_s], ⟨by show 0 ≤ cyI T A p; omega, by show cyI T A p < A 0 1; omega⟩, by show rf ≠ -1 → cyI T A p ≠ rf; omega, h3.1, ⟨tb.1, tb.2.2⟩, fun x k a b => by rw [h3.2 x k a, zup_n (by omega)]⟩⟩
          · skip
            refine zaload_n (k := 34) rfl rfl ?_
            refine ziconst (k := 35) rfl (by decide) ?_
            refine zpVI (k := 36) rfl (k_wrong3 h1) fm_Reader_wrong lk_4_79 rfl rfl ob_52 ⟨_, rfl, rfl⟩ (Nat.le_of_ble_eq_true rfl) (by decide) ⟨by decide, by decide⟩ (fun z9 σ9 h9 => ?_)
            rw [h9.1]
            refine zzreturn (k := 37) rfl rfl (by first | exact Or.inl rfl | exact Or.inr rfl | omega) rfl ?_
            rw [← hQ]
            exact ⟨rfl, _, rfl, Or.inr ⟨rfl, _, _, by unfold tkCty; rw [if_neg (fun q => q hs), if_pos (by omega)], h9.2.1, tkf_tr (tks_f t1) h9.2.2⟩⟩
  · skip
    have hs : ¬ isOw T p (-1) := or_0 h2 (by assumption)
    clear h2
    refine zaload_n (k := 4) rfl rfl ?_
    refine ziconst (k := 5) rfl (by decide) ?_
    refine zpVI (k := 6) rfl (k_wrong3 h0) fm_Reader_wrong lk_4_79 rfl rfl ob_52 ⟨_, rfl, rfl⟩ (Nat.le_of_ble_eq_true rfl) (by decide) ⟨by decide, by decide⟩ (fun z9 σ9 h9 => ?_)
    rw [h9.1]
    refine zzreturn (k := 7) rfl rfl (by first | exact Or.inl rfl | exact Or.inr rfl | omega) rfl ?_
    rw [← hQ]
    exact ⟨rfl, _, rfl, Or.inr ⟨rfl, _, _, by unfold tkCty; rw [if_pos hs], h9.2⟩⟩
