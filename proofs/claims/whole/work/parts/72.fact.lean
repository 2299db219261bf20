set_option maxHeartbeats 4000000 in
set_option maxRecDepth 20000 in
theorem c_Reader_readFact {Γ : zv_M} {L : Int} {σ0 σ : zv_H} {T : Int → Int} {n f p : Int} {lk : Bool} {cs0 : List (Int × Int)} (hE : RE σ0 T n f lk) (h0 : prs σ0 σ T p f cs0) (hp : 0 ≤ p ∧ p ≤ n) {o : Int} (ho : 0 ≤ o ∧ o ≤ 7) (hc : (cs0.length : Int) ≤ p) (hS : o < 7 → kS Γ L σ0 T n f lk (o + 1)) (hTt : o < 7 → kT Γ L σ0 T n f lk (o + 1)) (hF : o < 7 → kF Γ L σ0 T n f lk (o + 1))  : zC Γ m_Reader_readFact (12 * (8 - o).toNat + 8) 0 0 (GM L) [zR 52, zI o] σ (zPI (GM L) (pst σ0 T n f p cs0 (OkF T lk o p) (BtBd 4 T lk o p))) := by
  refine zC_of (ls0 := [_, _]) zm_Reader_readFact (by decide) rfl (Nat.le_of_ble_eq_true rfl) ?_
  generalize hQ : (zPI (GM L) (pst σ0 T n f p cs0 (OkF T lk o p) (BtBd 4 T lk o p))) = Q
  have hn16 := hE.2.2.1.1
  have ebp := Bp_1 (o := o)
  have ebp : o < 7 → Bp o = Bp (o + 1) + 5 := fun q => by unfold Bp; omega
  refine zaload_n (k := 0) rfl rfl ?_
  refine zgF 0 (k := 1) rfl ob_52 fl_4_14 rfl fx_52_0 ?_
  refine zbipush (k := 2) rfl rfl ?_
  refine zpVI (k := 3) rfl (c_Scanner_isOwnWord h0.1) fm_Scanner_isOwnWord lk_4_181 rfl rfl ob_53 ⟨_, rfl, rfl⟩ (Nat.le_of_ble_eq_true rfl) (by omega) ⟨by decide, by decide⟩ (fun z1 σ1 h1 => ?_)
  obtain ⟨he, h1⟩ := h1
  rw [he]
  clear he
  refine zif_eq (k := 4) rfl rfl (fun c1 => ?_) (fun c1 => ?_)
  · skip
    have hn1 : ¬ isOw T p 20 := or_0 h1 (by assumption)
    clear h1
    refine zaload_n (k := 24) rfl rfl ?_
    refine zgF 0 (k := 25) rfl ob_52 fl_4_14 rfl fx_52_0 ?_
    refine zbipush (k := 26) rfl rfl ?_
    refine zpVI (k := 27) rfl (c_Scanner_isSign h0.1) fm_Scanner_isSign lk_4_184 rfl rfl ob_53 ⟨_, rfl, rfl⟩ (Nat.le_of_ble_eq_true rfl) (by omega) ⟨by decide, by decide⟩ (fun z5 σ1 h5 => ?_)
    obtain ⟨he, h5⟩ := h5
    rw [he]
    clear he
    refine zif_eq (k := 28) rfl rfl (fun c2 => ?_) (fun c2 => ?_)
    · skip
      have hn2 : ¬ isSg T p 91 := or_0 h5 (by assumption)
      clear h5
      refine zaload_n (k := 48) rfl rfl ?_
      refine zgF 0 (k := 49) rfl ob_52 fl_4_14 rfl fx_52_0 ?_
      refine zbipush (k := 50) rfl rfl ?_
      refine zpVI (k := 51) rfl (c_Scanner_isOwnWord h0.1) fm_Scanner_isOwnWord lk_4_181 rfl rfl ob_53 ⟨_, rfl, rfl⟩ (Nat.le_of_ble_eq_true rfl) (by omega) ⟨by decide, by decide⟩ (fun z9 σ1 h9 => ?_)
      obtain ⟨he, h9⟩ := h9
      rw [he]
      clear he
      refine zif_eq (k := 52) rfl rfl (fun c3 => ?_) (fun c3 => ?_)
      · skip
        have hn3 : ¬ isOw T p 21 := or_0 h9 (by assumption)
        clear h9
        refine zaload_n (k := 62) rfl rfl ?_
        refine ziload_n (k := 63) rfl rfl ?_
        refine zpVI (k := 64) rfl (c_Reader_readComparison hE h0 hp ho hc hS hTt) fm_Reader_readComparison lk_4_218 rfl rfl ob_52 ⟨_, rfl, rfl⟩ (Nat.le_of_ble_eq_true rfl) (by omega) ⟨by decide, by decide⟩ (fun z4 σ4 h4 => ?_)
        refine zzreturn (k := 65) rfl rfl (pst_b h4) rfl ?_
        rw [← hQ]
        exact ⟨rfl, _, rfl, pst_m h4 (fun p' cs k => ⟨fac_cmp k.1 ⟨hn1, hn2, hn3⟩ k.2.2, k.2.1⟩) (fun k pl g => fab_cmp g ⟨hn1, hn2, hn3⟩)⟩
      · skip
        have hs3 : isOw T p 21 := or_1 h9 (by assumption)
        clear h9
        have tb := tN_c hE.2.2.1 hp (Or.inl hs3.1)
        refine zaload_n (k := 53) rfl rfl ?_
        refine zgF 0 (k := 54) rfl ob_52 fl_4_14 rfl fx_52_0 ?_
        refine zpV0 (k := 55) rfl (k_adv2 hE h0 hp (Or.inl hs3.1)) fm_Scanner_advance lk_4_85 rfl rfl ob_53 ⟨_, rfl, rfl⟩ (Nat.le_of_ble_eq_true rfl) (by omega) ⟨by decide, by decide⟩ (fun σ4 hh => ?_)
        clear h0
        have h0 := hh
        clear hh
        refine zaload_n (k := 56) rfl rfl ?_
        refine zgR 2 (k := 57) rfl ob_52 fl_4_30 rfl fx_52_2 ?_
        rw [(RE_o hE (rfs_o h0.2.2.2)).2.2.2.2.2.1]
        refine ziconst (k := 58) rfl (by decide) ?_
        refine zpV0 (k := 59) rfl (k_add (30, 0) hE.2.2.2.2.1 h0 rfl (by omega)) fm_Formula_add lk_4_207 rfl rfl (fm_ob hE.2.2.2.2.1) ⟨_, rfl, rfl⟩ (Nat.le_of_ble_eq_true rfl) (by omega) ⟨by decide, by decide⟩ (fun σ6 hh => ?_)
        clear h0
        have h0 := hh
        clear hh
        refine ziconst (k := 60) rfl (by decide) ?_
        refine zzreturn (k := 61) rfl rfl (by first | exact Or.inl rfl | exact Or.inr rfl | omega) rfl ?_
        rw [← hQ]
        refine ⟨rfl, _, rfl, Or.inl ⟨rfl, _, _, h0, ⟨by omega, by omega⟩, by show (1 : Int) ≤ _; omega, fac_all hs3, ?_⟩⟩
        exact wl_le (wl_1 (v := enS (30, 0)) (by decide) (fun _ => rfl)) (by omega)
    · skip
      have hs2 : isSg T p 91 := or_1 h5 (by assumption)
      clear h5
      have tb := tN_c hE.2.2.1 hp (Or.inr (Or.inr hs2.1))
      refine zaload_n (k := 29) rfl rfl ?_
      refine ziconst (k := 30) rfl (by decide) ?_
      refine ziload_n (k := 31) rfl rfl ?_
      refine zpVI (k := 32) rfl (c_Reader_takeOpening hE h0 hp (Or.inr rfl) (fun _ => Or.inr (Or.inr hs2.1))) fm_Reader_takeOpening lk_4_214 rfl rfl ob_52 ⟨_, rfl, rfl⟩ (Nat.le_of_ble_eq_true rfl) (by omega) ⟨by decide, by decide⟩ (fun z6 σ3 h6 => ?_)
      refine zif_eq (k := 33) rfl rfl (fun c4 => ?_) (fun c4 => ?_)
      · skip
        refine ziconst (k := 46) rfl (by decide) ?_
        refine zzreturn (k := 47) rfl rfl (by first | exact Or.inl rfl | exact Or.inr rfl | omega) rfl ?_
        rw [← hQ]
        first
        | exact ⟨rfl, _, rfl, Or.inl ⟨rfl, _, _, h0, ⟨by omega, by omega⟩, by omega, fac_br hs2 (by omega) k7.1 hs4, wl_le k7.2.1 (by omega)⟩⟩
        | (have g := or_0 h8 (by assumption)
           exact ⟨rfl, _, rfl, Or.inr ⟨rfl, _, _, g.2, fab_brc hs2 (by omega) k7.1 k7.2.2 g.1⟩⟩)
        | (obtain ⟨k, pl, g1, g2⟩ := pst_0 h7 (by assumption)
           exact ⟨rfl, _, rfl, Or.inr ⟨rfl, k, pl, g1, fab_br hs2 (by omega) g2⟩⟩)
        | (rcases or3_0 h6 (by assumption) with q | q
           · have := q.1; exfalso; omega
           · exact ⟨rfl, _, rfl, Or.inr ⟨rfl, _, _, q.2, fab_br7 hs2 (by omega)⟩⟩)
      · skip
        have ho7 : o < 7 := (or3_1 h6 (by assumption)).1.2
        clear h0
        have h0 := (or3_1 h6 (by assumption)).2
        clear h6
        refine zaload_n (k := 34) rfl rfl ?_
        refine ziload_n (k := 35) rfl rfl ?_
        refine ziconst (k := 36) rfl (by decide) ?_
        refine ziaddB (k := 37) rfl (by omega) ?_
        refine zpVI (k := 38) rfl (hTt ho7 hE h0 ⟨by omega, by omega⟩ (by omega)) fm_Reader_readTest lk_4_104 rfl rfl ob_52 ⟨_, rfl, rfl⟩ (Nat.le_of_ble_eq_true rfl) (by omega) ⟨by decide, by decide⟩ (fun z7 σ4 h7 => ?_)
        refine zif_eq (k := 39) rfl rfl (fun c5 => ?_) (fun c5 => ?_)
        · skip
          refine ziconst (k := 46) rfl (by decide) ?_
          refine zzreturn (k := 47) rfl rfl (by first | exact Or.inl rfl | exact Or.inr rfl | omega) rfl ?_
          rw [← hQ]
          first
          | exact ⟨rfl, _, rfl, Or.inl ⟨rfl, _, _, h0, ⟨by omega, by omega⟩, by omega, fac_br hs2 (by omega) k7.1 hs4, wl_le k7.2.1 (by omega)⟩⟩
          | (have g := or_0 h8 (by assumption)
             exact ⟨rfl, _, rfl, Or.inr ⟨rfl, _, _, g.2, fab_brc hs2 (by omega) k7.1 k7.2.2 g.1⟩⟩)
          | (obtain ⟨k, pl, g1, g2⟩ := pst_0 h7 (by assumption)
             exact ⟨rfl, _, rfl, Or.inr ⟨rfl, k, pl, g1, fab_br hs2 (by omega) g2⟩⟩)
          | (rcases or3_0 h6 (by assumption) with q | q
             · have := q.1; exfalso; omega
             · exact ⟨rfl, _, rfl, Or.inr ⟨rfl, _, _, q.2, fab_br7 hs2 (by omega)⟩⟩)
        · skip
          obtain ⟨p7, cs7, hh7, b7, l7, k7⟩ := pst_1 h7 (by assumption)
          clear h0 h7
          have h0 := hh7
          clear hh7
          refine zaload_n (k := 40) rfl rfl ?_
          refine zbipush (k := 41) rfl rfl ?_
          refine zpVI (k := 42) rfl (c_Reader_takeSign hE h0 ⟨by omega, by omega⟩) fm_Reader_takeSign lk_4_53 rfl rfl ob_52 ⟨_, rfl, rfl⟩ (Nat.le_of_ble_eq_true rfl) (by omega) ⟨by decide, by decide⟩ (fun z8 σ8 h8 => ?_)
          refine zif_eq (k := 43) rfl rfl (fun c6 => ?_) (fun c6 => ?_)
          · skip
            refine ziconst (k := 46) rfl (by decide) ?_
            refine zzreturn (k := 47) rfl rfl (by first | exact Or.inl rfl | exact Or.inr rfl | omega) rfl ?_
            rw [← hQ]
            first
            | exact ⟨rfl, _, rfl, Or.inl ⟨rfl, _, _, h0, ⟨by omega, by omega⟩, by omega, fac_br hs2 (by omega) k7.1 hs4, wl_le k7.2.1 (by omega)⟩⟩
            | (have g := or_0 h8 (by assumption)
               exact ⟨rfl, _, rfl, Or.inr ⟨rfl, _, _, g.2, fab_brc hs2 (by omega) k7.1 k7.2.2 g.1⟩⟩)
            | (obtain ⟨k, pl, g1, g2⟩ := pst_0 h7 (by assumption)
               exact ⟨rfl, _, rfl, Or.inr ⟨rfl, k, pl, g1, fab_br hs2 (by omega) g2⟩⟩)
            | (rcases or3_0 h6 (by assumption) with q | q
               · have := q.1; exfalso; omega
               · exact ⟨rfl, _, rfl, Or.inr ⟨rfl, _, _, q.2, fab_br7 hs2 (by omega)⟩⟩)
          · skip
            have hs4 : isSg T p7 93 := (or_1 h8 (by assumption)).1
            clear h0
            have h0 := (or_1 h8 (by assumption)).2
            clear h8
            have tb2 := tN_c hE.2.2.1 (p := p7) ⟨by omega, by omega⟩ (Or.inr (Or.inr hs4.1))
            refine ziconst (k := 44) rfl (by decide) ?_
            refine zgoto (k := 45) rfl rfl ?_
            refine zzreturn (k := 47) rfl rfl (by first | exact Or.inl rfl | exact Or.inr rfl | omega) rfl ?_
            rw [← hQ]
            first
            | exact ⟨rfl, _, rfl, Or.inl ⟨rfl, _, _, h0, ⟨by omega, by omega⟩, by omega, fac_br hs2 (by omega) k7.1 hs4, wl_le k7.2.1 (by omega)⟩⟩
            | (have g := or_0 h8 (by assumption)
               exact ⟨rfl, _, rfl, Or.inr ⟨rfl, _, _, g.2, fab_brc hs2 (by omega) k7.1 k7.2.2 g.1⟩⟩)
            | (obtain ⟨k, pl, g1, g2⟩ := pst_0 h7 (by assumption)
               exact ⟨rfl, _, rfl, Or.inr ⟨rfl, k, pl, g1, fab_br hs2 (by omega) g2⟩⟩)
            | (rcases or3_0 h6 (by assumption) with q | q
               · have := q.1; exfalso; omega
               · exact ⟨rfl, _, rfl, Or.inr ⟨rfl, _, _, q.2, fab_br7 hs2 (by omega)⟩⟩)
  · skip
    have hs1 : isOw T p 20 := or_1 h1 (by assumption)
    clear h1
    have tb := tN_c hE.2.2.1 hp (Or.inl hs1.1)
    refine zaload_n (k := 5) rfl rfl ?_
    refine ziconst (k := 6) rfl (by decide) ?_
    refine ziload_n (k := 7) rfl rfl ?_
    refine zpVI (k := 8) rfl (c_Reader_takeOpening hE h0 hp (Or.inr rfl) (fun _ => Or.inl hs1.1)) fm_Reader_takeOpening lk_4_214 rfl rfl ob_52 ⟨_, rfl, rfl⟩ (Nat.le_of_ble_eq_true rfl) (by omega) ⟨by decide, by decide⟩ (fun z3 σ3 h3 => ?_)
    refine zif_eq (k := 9) rfl rfl (fun c7 => ?_) (fun c7 => ?_)
    · skip
      refine ziconst (k := 16) rfl (by decide) ?_
      refine zzreturn (k := 17) rfl rfl (by first | exact Or.inl rfl | exact Or.inr rfl | omega) rfl ?_
      rw [← hQ]
      first
      | (obtain ⟨k, pl, g1, g2⟩ := pst_0 h4 (by assumption)
         exact ⟨rfl, _, rfl, Or.inr ⟨rfl, k, pl, g1, fab_not hs1 (by omega) g2⟩⟩)
      | (rcases or3_0 h3 (by assumption) with q | q
         · have := q.1; exfalso; omega
         · exact ⟨rfl, _, rfl, Or.inr ⟨rfl, _, _, q.2, fab_not7 hs1 (by omega)⟩⟩)
    · skip
      have ho7 : o < 7 := (or3_1 h3 (by assumption)).1.2
      clear h0
      have h0 := (or3_1 h3 (by assumption)).2
      clear h3
      refine zaload_n (k := 10) rfl rfl ?_
      refine ziload_n (k := 11) rfl rfl ?_
      refine ziconst (k := 12) rfl (by decide) ?_
      refine ziaddB (k := 13) rfl (by omega) ?_
      refine zpVI (k := 14) rfl (hF ho7 hE h0 ⟨by omega, by omega⟩ (by omega)) fm_Reader_readFact lk_4_211 rfl rfl ob_52 ⟨_, rfl, rfl⟩ (Nat.le_of_ble_eq_true rfl) (by omega) ⟨by decide, by decide⟩ (fun z4 σ4 h4 => ?_)
      refine zif_ne (k := 15) rfl rfl (fun c8 => ?_) (fun c8 => ?_)
      · skip
        obtain ⟨p4, cs4, hh4, b4, l4, k4⟩ := pst_1 h4 (by assumption)
        clear h0 h4
        have h0 := hh4
        clear hh4
        refine zaload_n (k := 18) rfl rfl ?_
        refine zgR 2 (k := 19) rfl ob_52 fl_4_30 rfl fx_52_2 ?_
        rw [(RE_o hE (rfs_o h0.2.2.2)).2.2.2.2.2.1]
        refine zbipush (k := 20) rfl rfl ?_
        refine zpV0 (k := 21) rfl (k_add (43, 0) hE.2.2.2.2.1 h0 rfl (by simp only [List.length_append]; omega)) fm_Formula_add lk_4_207 rfl rfl (fm_ob hE.2.2.2.2.1) ⟨_, rfl, rfl⟩ (Nat.le_of_ble_eq_true rfl) (by omega) ⟨by decide, by decide⟩ (fun σ6 hh => ?_)
        clear h0
        have h0 := hh
        clear hh
        refine ziconst (k := 22) rfl (by decide) ?_
        refine zzreturn (k := 23) rfl rfl (by first | exact Or.inl rfl | exact Or.inr rfl | omega) rfl ?_
        rw [← hQ]
        simp only [List.append_assoc] at h0
        refine ⟨rfl, _, rfl, Or.inl ⟨rfl, p4, _, h0, ⟨by omega, by omega⟩, by simp only [List.length_append, List.length_cons, List.length_nil]; omega, fac_not hs1 (by omega) k4.1, ?_⟩⟩
        rw [List.map_append]
        exact wl_le (wl_n (by omega) k4.2) (by omega)
      · skip
        refine ziconst (k := 16) rfl (by decide) ?_
        refine zzreturn (k := 17) rfl rfl (by first | exact Or.inl rfl | exact Or.inr rfl | omega) rfl ?_
        rw [← hQ]
        first
        | (obtain ⟨k, pl, g1, g2⟩ := pst_0 h4 (by assumption)
           exact ⟨rfl, _, rfl, Or.inr ⟨rfl, k, pl, g1, fab_not hs1 (by omega) g2⟩⟩)
        | (rcases or3_0 h3 (by assumption) with q | q
           · have := q.1; exfalso; omega
           · exact ⟨rfl, _, rfl, Or.inr ⟨rfl, _, _, q.2, fab_not7 hs1 (by omega)⟩⟩)
