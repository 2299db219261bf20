set_option maxHeartbeats 4000000 in
set_option maxRecDepth 20000 in
theorem c_Reader_readComparison {Γ : zv_M} {L : Int} {σ0 σ : zv_H} {T : Int → Int} {n f p : Int} {lk : Bool} {cs0 : List (Int × Int)} (hE : RE σ0 T n f lk) (h0 : prs σ0 σ T p f cs0) (hp : 0 ≤ p ∧ p ≤ n) {o : Int} (ho : 0 ≤ o ∧ o ≤ 7) (hc : (cs0.length : Int) ≤ p) (hS : o < 7 → kS Γ L σ0 T n f lk (o + 1)) (hTt : o < 7 → kT Γ L σ0 T n f lk (o + 1))  : zC Γ m_Reader_readComparison (12 * (8 - o).toNat + 7) 0 0 (GM L) [zR 52, zI o] σ (zPI (GM L) (pst σ0 T n f p cs0 (OkC T lk o p) (CmpBd T lk o p))) := by
  refine zC_of (ls0 := [_, _, _]) zm_Reader_readComparison (by decide) rfl (Nat.le_of_ble_eq_true rfl) ?_
  generalize hQ : (zPI (GM L) (pst σ0 T n f p cs0 (OkC T lk o p) (CmpBd T lk o p))) = Q
  have hn16 := hE.2.2.1.1
  have ebp := Bp_1 (o := o)
  refine zaload_n (k := 0) rfl rfl ?_
  refine ziload_n (k := 1) rfl rfl ?_
  refine zpVI (k := 2) rfl (c_Reader_readSum hE h0 hp ho hc hS hTt) fm_Reader_readSum lk_4_107 rfl rfl ob_52 ⟨_, rfl, rfl⟩ (Nat.le_of_ble_eq_true rfl) (by omega) ⟨by decide, by decide⟩ (fun z1 σ1 h1 => ?_)
  refine zif_ne (k := 3) rfl rfl (fun c1 => ?_) (fun c1 => ?_)
  · skip
    obtain ⟨p1, cs1, hh1, b1, l1, k1⟩ := pst_1 h1 (by assumption)
    clear h0 h1
    have h0 := hh1
    clear hh1
    refine zaload_n (k := 6) rfl rfl ?_
    refine zpVI (k := 7) rfl (c_Reader_comparisonStep hE h0 ⟨by omega, by omega⟩) fm_Reader_comparisonStep lk_4_221 rfl rfl ob_52 ⟨_, rfl, rfl⟩ (Nat.le_of_ble_eq_true rfl) (by omega) ⟨by decide, by decide⟩ (fun z2 σ2 h2 => ?_)
    obtain ⟨he, h2⟩ := h2
    rw [he]
    clear he
    refine zistore_n (k := 8) (ls' := [_, _, _]) rfl (Nat.le_of_ble_eq_true rfl) rfl ?_
    refine ziload_n (k := 9) rfl rfl ?_
    refine zif_ne (k := 10) rfl rfl (fun c2 => ?_) (fun c2 => ?_)
    · skip
      have hst : tK T p1 = 3 ∧ (T (tQ T p1) = 60 ∨ T (tQ T p1) = 62 ∨ T (tQ T p1) = 61) := by
        rcases h2 with q | q
        · exact absurd q.1 (by assumption)
        · exact q.2.2
      have hez : z2 = enS (cmO (T (tQ T p1)), 0) := by
        rcases h2 with q | q
        · exact absurd hst q.2
        · exact q.2.1
      clear h2
      rw [hez]
      have tb := tN_c hE.2.2.1 (p := p1) ⟨by omega, by omega⟩ (Or.inr (Or.inr hst.1))
      refine zaload_n (k := 15) rfl rfl ?_
      refine zgF 0 (k := 16) rfl ob_52 fl_4_14 rfl fx_52_0 ?_
      refine zpV0 (k := 17) rfl (k_adv2 hE h0 ⟨by omega, by omega⟩ (Or.inr (Or.inr hst.1))) fm_Scanner_advance lk_4_85 rfl rfl ob_53 ⟨_, rfl, rfl⟩ (Nat.le_of_ble_eq_true rfl) (by omega) ⟨by decide, by decide⟩ (fun σ4 hh => ?_)
      clear h0
      have h0 := hh
      clear hh
      refine zaload_n (k := 18) rfl rfl ?_
      refine ziload_n (k := 19) rfl rfl ?_
      refine zpVI (k := 20) rfl (c_Reader_readSum hE h0 ⟨by omega, by omega⟩ ho (by simp only [List.length_append]; omega) hS hTt) fm_Reader_readSum lk_4_107 rfl rfl ob_52 ⟨_, rfl, rfl⟩ (Nat.le_of_ble_eq_true rfl) (by omega) ⟨by decide, by decide⟩ (fun z4 σ5 h4 => ?_)
      refine zif_ne (k := 21) rfl rfl (fun c3 => ?_) (fun c3 => ?_)
      · skip
        obtain ⟨p4, cs4, hh4, b4, l4, k4⟩ := pst_1 h4 (by assumption)
        clear h0 h4
        have h0 := hh4
        clear hh4
        refine zaload_n (k := 24) rfl rfl ?_
        refine zgR 2 (k := 25) rfl ob_52 fl_4_30 rfl fx_52_2 ?_
        rw [(RE_o hE (rfs_o h0.2.2.2)).2.2.2.2.2.1]
        refine ziload_n (k := 26) rfl rfl ?_
        refine zpV0 (k := 27) rfl (k_add (cmO (T (tQ T p1)), 0) hE.2.2.2.2.1 h0 rfl (by simp only [List.length_append]; omega)) fm_Formula_add lk_4_207 rfl rfl (fm_ob hE.2.2.2.2.1) ⟨_, rfl, rfl⟩ (Nat.le_of_ble_eq_true rfl) (by omega) ⟨by decide, by decide⟩ (fun σ6 hh => ?_)
        clear h0
        have h0 := hh
        clear hh
        refine ziconst (k := 28) rfl (by decide) ?_
        refine zzreturn (k := 29) rfl rfl (by first | exact Or.inl rfl | exact Or.inr rfl | omega) rfl ?_
        rw [← hQ]
        simp only [List.append_assoc] at h0
        refine ⟨rfl, _, rfl, Or.inl ⟨rfl, p4, _, h0, ⟨by omega, by omega⟩, by simp only [List.length_append, List.length_cons, List.length_nil]; omega, cmp_ok k1.1 ⟨hst.1, rfl⟩ hst.2 k4.1, ?_, k4.2.2⟩⟩
        have hj : enS (cmO (T (tQ T p1)), 0) = -17 ∨ enS (cmO (T (tQ T p1)), 0) = -18 ∨ enS (cmO (T (tQ T p1)), 0) = -19 := by rcases hst.2 with r | r | r <;> rw [r] <;> decide
        rw [List.map_append, List.map_append]
        exact wl_b k1.2.1 k4.2.1 (by omega) ⟨by omega, by omega, by omega⟩ (fun _ x y _ _ => jn_c hj) (fun q => by omega)
      · skip
        refine ziconst (k := 22) rfl (by decide) ?_
        refine zzreturn (k := 23) rfl rfl (by first | exact Or.inl rfl | exact Or.inr rfl | omega) rfl ?_
        rw [← hQ]
        obtain ⟨k, pl, g1, g2⟩ := pst_0 h4 (by assumption)
        exact ⟨rfl, _, rfl, Or.inr ⟨rfl, k, pl, g1, cmb_3 k1.1 ⟨hst.1, rfl⟩ hst.2 g2⟩⟩
    · skip
      have hnc : ¬ isC T p1 := by
        rcases h2 with q | q
        · exact q.2
        · exact absurd (by assumption) q.1
      clear h2
      refine zaload_n (k := 11) rfl rfl ?_
      refine ziconst (k := 12) rfl (by decide) ?_
      refine zpVI (k := 13) rfl (k_wrong h0) fm_Reader_wrong lk_4_79 rfl rfl ob_52 ⟨_, rfl, rfl⟩ (Nat.le_of_ble_eq_true rfl) (by omega) ⟨by decide, by decide⟩ (fun z3 σ3 h3 => ?_)
      rw [h3.1]
      refine zzreturn (k := 14) rfl rfl (by first | exact Or.inl rfl | exact Or.inr rfl | omega) rfl ?_
      rw [← hQ]
      exact ⟨rfl, _, rfl, Or.inr ⟨rfl, _, _, h3.2, cmb_2 k1.1 k1.2.2 hnc⟩⟩
  · skip
    refine ziconst (k := 4) rfl (by decide) ?_
    refine zzreturn (k := 5) rfl rfl (by first | exact Or.inl rfl | exact Or.inr rfl | omega) rfl ?_
    rw [← hQ]
    obtain ⟨k, pl, g1, g2⟩ := pst_0 h1 (by assumption)
    exact ⟨rfl, _, rfl, Or.inr ⟨rfl, k, pl, g1, cmb_1 g2⟩⟩
