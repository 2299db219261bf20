theorem tNv_b {T : Int → Int} {p : Int} (h : tK T p = 2) : 0 ≤ tNv T p ∧ tNv T p ≤ 9999 := by
  have rb := run_b (lo := 48) (hi := 57) (T := T) 4 (tQ T p)
  have nb := nv_b (T := T) (q := tQ T p) (run 48 57 T 4 (tQ T p)) (fun i hi => run_i 4 (tQ T p) i hi)
  have pl := p10_4 rb
  unfold tNv
  omega
theorem askS_n {T : Int → Int} {p : Int} {lk : Bool} (h1 : tK T p ≠ 1) (h2 : tK T p ≠ 2) : askS T p lk = -1 := by
  have h : tO T p = -1 := tO_n h1
  unfold askS
  rw [if_neg h2, if_neg (by omega), if_neg (by omega), if_neg (by omega), if_neg (by omega), if_neg (by omega), if_neg (fun q => by have := q.1; omega), if_neg (fun q => by have := q.1; omega)]
theorem askS_2 {T : Int → Int} {p : Int} {lk : Bool} (h : tK T p = 2) : askS T p lk = 0 ∧ askV T p = tNv T p := ⟨if_pos h, if_pos h⟩
set_option maxHeartbeats 4000000 in
set_option maxRecDepth 20000 in
theorem c_Reader_readPart {Γ : zv_M} {L : Int} {σ0 σ : zv_H} {T : Int → Int} {n f p : Int} {lk : Bool} {cs0 : List (Int × Int)} (hE : RE σ0 T n f lk) (h0 : prs σ0 σ T p f cs0) (hp : 0 ≤ p ∧ p ≤ n) {o : Int} (ho : 0 ≤ o ∧ o ≤ 7) (hc : (cs0.length : Int) ≤ p) (hS : o < 7 → kS Γ L σ0 T n f lk (o + 1)) (hTt : o < 7 → kT Γ L σ0 T n f lk (o + 1))  : zC Γ m_Reader_readPart (12 * (8 - o).toNat + 4) 0 0 (GM L) [zR 52, zI o] σ (zPI (GM L) (pst σ0 T n f p cs0 (OkA T lk o p) (PrtBd T lk o p))) := by
  refine zC_of (ls0 := [_, _]) zm_Reader_readPart (by decide) rfl (Nat.le_of_ble_eq_true rfl) ?_
  generalize hQ : (zPI (GM L) (pst σ0 T n f p cs0 (OkA T lk o p) (PrtBd T lk o p))) = Q
  have ebp : o < 7 → Bp o = Bp (o + 1) + 5 := fun q => by unfold Bp; omega
  have hn16 := hE.2.2.1.1
  refine zaload_n (k := 0) rfl rfl ?_
  refine zgF 0 (k := 1) rfl ob_52 fl_4_14 rfl fx_52_0 ?_
  refine zgI 3 (k := 2) rfl ob_53 fl_4_46 rfl fx_53_3 ?_
  rw [h0.1.2.1]
  refine ziconst (k := 3) rfl (by decide) ?_
  refine zicmp_ne (k := 4) rfl rfl (fun c1 => ?_) (fun c1 => ?_)
  · skip
    refine zaload_n (k := 16) rfl rfl ?_
    refine zgF 0 (k := 17) rfl ob_52 fl_4_14 rfl fx_52_0 ?_
    refine zbipush (k := 18) rfl rfl ?_
    refine zpVI (k := 19) rfl (c_Scanner_isSign h0.1) fm_Scanner_isSign lk_4_184 rfl rfl ob_53 ⟨_, rfl, rfl⟩ (Nat.le_of_ble_eq_true rfl) (by omega) ⟨by decide, by decide⟩ (fun z2 σ2 h2 => ?_)
    obtain ⟨he, h2⟩ := h2
    rw [he]
    refine zif_eq (k := 20) rfl rfl (fun c2 => ?_) (fun c2 => ?_)
    · skip
      have hn40 : ¬ isSg T p 40 := or_0 h2 (by assumption)
      clear h2
      refine zaload_n (k := 40) rfl rfl ?_
      refine zgF 0 (k := 41) rfl ob_52 fl_4_14 rfl fx_52_0 ?_
      refine zgI 3 (k := 42) rfl ob_53 fl_4_46 rfl fx_53_3 ?_
      rw [h0.1.2.1]
      refine ziconst (k := 43) rfl (by decide) ?_
      refine zicmp_eq (k := 44) rfl rfl (fun c3 => ?_) (fun c3 => ?_)
      · skip
        refine zaload_n (k := 49) rfl rfl ?_
        refine zgF 0 (k := 50) rfl ob_52 fl_4_14 rfl fx_52_0 ?_
        refine zgI 6 (k := 51) rfl ob_53 fl_4_73 rfl fx_53_6 ?_
        rw [h0.1.2.2.2.2.1]
        have hk1 : tK T p = 1 := by omega
        refine zlookC (k := 52) (v := 17) rfl (by decide) rfl rfl (fun c4 => ?_) (fun c4 => ?_)
        · skip
          refine zaload_n (k := 63) rfl rfl ?_
          refine ziload_n (k := 64) rfl rfl ?_
          refine zpVI (k := 65) rfl (c_Reader_readIf hE h0 hp ho hc hS hTt ⟨hk1, by omega⟩) fm_Reader_readIf lk_4_237 rfl rfl ob_52 ⟨_, rfl, rfl⟩ (Nat.le_of_ble_eq_true rfl) (by omega) ⟨by decide, by decide⟩ (fun z4 σ4 h4 => ?_)
          refine zzreturn (k := 66) rfl rfl (pst_b h4) rfl ?_
          rw [← hQ]
          exact ⟨rfl, _, rfl, h4⟩
        refine zlookC (k := 52) (v := 22) rfl (by decide) rfl rfl (fun c5 => ?_) (fun c5 => ?_)
        · skip
          refine zaload_n (k := 53) rfl rfl ?_
          refine ziload_n (k := 54) rfl rfl ?_
          refine zbipush (k := 55) rfl rfl ?_
          refine zpVI (k := 56) rfl (c_Reader_readTwo hE h0 hp ho hc hS hTt (Or.inl ⟨⟨hk1, by omega⟩, rfl⟩) rfl) fm_Reader_readTwo lk_4_234 rfl rfl ob_52 ⟨_, rfl, rfl⟩ (Nat.le_of_ble_eq_true rfl) (by omega) ⟨by decide, by decide⟩ (fun z4 σ4 h4 => ?_)
          refine zzreturn (k := 57) rfl rfl (pst_b h4) rfl ?_
          rw [← hQ]
          exact ⟨rfl, _, rfl, h4⟩
        refine zlookC (k := 52) (v := 23) rfl (by decide) rfl rfl (fun c6 => ?_) (fun c6 => ?_)
        · skip
          refine zaload_n (k := 58) rfl rfl ?_
          refine ziload_n (k := 59) rfl rfl ?_
          refine zbipush (k := 60) rfl rfl ?_
          refine zpVI (k := 61) rfl (c_Reader_readTwo hE h0 hp ho hc hS hTt (Or.inr ⟨⟨hk1, by omega⟩, rfl⟩) rfl) fm_Reader_readTwo lk_4_234 rfl rfl ob_52 ⟨_, rfl, rfl⟩ (Nat.le_of_ble_eq_true rfl) (by omega) ⟨by decide, by decide⟩ (fun z4 σ4 h4 => ?_)
          refine zzreturn (k := 62) rfl rfl (pst_b h4) rfl ?_
          rw [← hQ]
          exact ⟨rfl, _, rfl, h4⟩
        refine zlook (k := 52) rfl (by decide) (by simp [Op.lookupswitch.offset, c4, c5, c6, Ne.symm c4, Ne.symm c5, Ne.symm c6]; rfl) rfl ?_
        refine zaload_n (k := 67) rfl rfl ?_
        refine zpVI (k := 68) rfl (c_Reader_readAsked (o := o) hE h0 hp hc hk1 (fun q => by omega)) fm_Reader_readAsked lk_4_240 rfl rfl ob_52 ⟨_, rfl, rfl⟩ (Nat.le_of_ble_eq_true rfl) (by omega) ⟨by decide, by decide⟩ (fun z4 σ4 h4 => ?_)
        refine zzreturn (k := 69) rfl rfl (pst_b h4) rfl ?_
        rw [← hQ]
        exact ⟨rfl, _, rfl, h4⟩
      · skip
        refine zaload_n (k := 45) rfl rfl ?_
        refine ziconst (k := 46) rfl (by decide) ?_
        refine zpVI (k := 47) rfl (k_wrong h0) fm_Reader_wrong lk_4_79 rfl rfl ob_52 ⟨_, rfl, rfl⟩ (Nat.le_of_ble_eq_true rfl) (by omega) ⟨by decide, by decide⟩ (fun z σ2 h2 => ?_)
        rw [h2.1]
        refine zzreturn (k := 48) rfl rfl (by first | exact Or.inl rfl | exact Or.inr rfl | omega) rfl ?_
        rw [← hQ]
        exact ⟨rfl, _, rfl, Or.inr ⟨rfl, _, _, h2.2, prb_ask hn40 (fun q => by omega) (by by_cases h4 : tK T p = 4; exact Or.inl h4; exact Or.inr (askS_n (by omega) (by omega)))⟩⟩
    · skip
      have hs40 : isSg T p 40 := or_1 h2 (by assumption)
      clear h2
      have tb := tN_c hE.2.2.1 hp (Or.inr (Or.inr hs40.1))
      refine zaload_n (k := 21) rfl rfl ?_
      refine ziconst (k := 22) rfl (by decide) ?_
      refine ziload_n (k := 23) rfl rfl ?_
      refine zpVI (k := 24) rfl (c_Reader_takeOpening hE h0 hp (Or.inr rfl) (fun _ => Or.inr (Or.inr hs40.1))) fm_Reader_takeOpening lk_4_214 rfl rfl ob_52 ⟨_, rfl, rfl⟩ (Nat.le_of_ble_eq_true rfl) (by omega) ⟨by decide, by decide⟩ (fun z3 σ3 h3 => ?_)
      refine zif_eq (k := 25) rfl rfl (fun c7 => ?_) (fun c7 => ?_)
      · skip
        refine ziconst (k := 38) rfl (by decide) ?_
        refine zzreturn (k := 39) rfl rfl (by first | exact Or.inl rfl | exact Or.inr rfl | omega) rfl ?_
        rw [← hQ]
        first
        | exact ⟨rfl, _, rfl, Or.inl ⟨rfl, _, _, h0, ⟨by omega, by omega⟩, by omega, prt_par hs40 (by omega) k4.1 hs2, wl_le k4.2.1 (by omega)⟩⟩
        | (have g := or_0 h5 (by assumption)
           exact ⟨rfl, _, rfl, Or.inr ⟨rfl, _, _, g.2, prb_parc hs40 (by omega) k4.1 k4.2.2 g.1⟩⟩)
        | (obtain ⟨k, pl, g1, g2⟩ := pst_0 h4 (by assumption)
           exact ⟨rfl, _, rfl, Or.inr ⟨rfl, k, pl, g1, prb_par hs40 (by omega) g2⟩⟩)
        | (rcases or3_0 h3 (by assumption) with q | q
           · have := q.1; exfalso; omega
           · exact ⟨rfl, _, rfl, Or.inr ⟨rfl, _, _, q.2, prb_par7 hs40 (by omega)⟩⟩)
      · skip
        have ho7 : o < 7 := (or3_1 h3 (by assumption)).1.2
        clear h0
        have h0 := (or3_1 h3 (by assumption)).2
        clear h3
        refine zaload_n (k := 26) rfl rfl ?_
        refine ziload_n (k := 27) rfl rfl ?_
        refine ziconst (k := 28) rfl (by decide) ?_
        refine ziaddB (k := 29) rfl (by omega) ?_
        refine zpVI (k := 30) rfl (hS (by omega) hE h0 (by omega) (by (try simp only [List.length_append]); omega)) fm_Reader_readSum lk_4_107 rfl rfl ob_52 ⟨_, rfl, rfl⟩ (Nat.le_of_ble_eq_true rfl) (by omega) ⟨by decide, by decide⟩ (fun z4 σ4 h4 => ?_)
        refine zif_eq (k := 31) rfl rfl (fun c8 => ?_) (fun c8 => ?_)
        · skip
          refine ziconst (k := 38) rfl (by decide) ?_
          refine zzreturn (k := 39) rfl rfl (by first | exact Or.inl rfl | exact Or.inr rfl | omega) rfl ?_
          rw [← hQ]
          first
          | exact ⟨rfl, _, rfl, Or.inl ⟨rfl, _, _, h0, ⟨by omega, by omega⟩, by omega, prt_par hs40 (by omega) k4.1 hs2, wl_le k4.2.1 (by omega)⟩⟩
          | (have g := or_0 h5 (by assumption)
             exact ⟨rfl, _, rfl, Or.inr ⟨rfl, _, _, g.2, prb_parc hs40 (by omega) k4.1 k4.2.2 g.1⟩⟩)
          | (obtain ⟨k, pl, g1, g2⟩ := pst_0 h4 (by assumption)
             exact ⟨rfl, _, rfl, Or.inr ⟨rfl, k, pl, g1, prb_par hs40 (by omega) g2⟩⟩)
          | (rcases or3_0 h3 (by assumption) with q | q
             · have := q.1; exfalso; omega
             · exact ⟨rfl, _, rfl, Or.inr ⟨rfl, _, _, q.2, prb_par7 hs40 (by omega)⟩⟩)
        · skip
          obtain ⟨p4, cs4, hh4, b4, l4, k4⟩ := pst_1 h4 (by assumption)
          clear h0 h4
          have h0 := hh4
          clear hh4
          refine zaload_n (k := 32) rfl rfl ?_
          refine zbipush (k := 33) rfl rfl ?_
          refine zpVI (k := 34) rfl (c_Reader_takeSign hE h0 (by omega)) fm_Reader_takeSign lk_4_53 rfl rfl ob_52 ⟨_, rfl, rfl⟩ (Nat.le_of_ble_eq_true rfl) (by omega) ⟨by decide, by decide⟩ (fun z5 σ5 h5 => ?_)
          refine zif_eq (k := 35) rfl rfl (fun c9 => ?_) (fun c9 => ?_)
          · skip
            refine ziconst (k := 38) rfl (by decide) ?_
            refine zzreturn (k := 39) rfl rfl (by first | exact Or.inl rfl | exact Or.inr rfl | omega) rfl ?_
            rw [← hQ]
            first
            | exact ⟨rfl, _, rfl, Or.inl ⟨rfl, _, _, h0, ⟨by omega, by omega⟩, by omega, prt_par hs40 (by omega) k4.1 hs2, wl_le k4.2.1 (by omega)⟩⟩
            | (have g := or_0 h5 (by assumption)
               exact ⟨rfl, _, rfl, Or.inr ⟨rfl, _, _, g.2, prb_parc hs40 (by omega) k4.1 k4.2.2 g.1⟩⟩)
            | (obtain ⟨k, pl, g1, g2⟩ := pst_0 h4 (by assumption)
               exact ⟨rfl, _, rfl, Or.inr ⟨rfl, k, pl, g1, prb_par hs40 (by omega) g2⟩⟩)
            | (rcases or3_0 h3 (by assumption) with q | q
               · have := q.1; exfalso; omega
               · exact ⟨rfl, _, rfl, Or.inr ⟨rfl, _, _, q.2, prb_par7 hs40 (by omega)⟩⟩)
          · skip
            have hs2 : isSg T p4 41 := (or_1 h5 (by assumption)).1
            clear h0
            have h0 := (or_1 h5 (by assumption)).2
            clear h5
            have tb2 := tN_c hE.2.2.1 (p := p4) ⟨by omega, by omega⟩ (Or.inr (Or.inr hs2.1))
            refine ziconst (k := 36) rfl (by decide) ?_
            refine zgoto (k := 37) rfl rfl ?_
            refine zzreturn (k := 39) rfl rfl (by first | exact Or.inl rfl | exact Or.inr rfl | omega) rfl ?_
            rw [← hQ]
            first
            | exact ⟨rfl, _, rfl, Or.inl ⟨rfl, _, _, h0, ⟨by omega, by omega⟩, by omega, prt_par hs40 (by omega) k4.1 hs2, wl_le k4.2.1 (by omega)⟩⟩
            | (have g := or_0 h5 (by assumption)
               exact ⟨rfl, _, rfl, Or.inr ⟨rfl, _, _, g.2, prb_parc hs40 (by omega) k4.1 k4.2.2 g.1⟩⟩)
            | (obtain ⟨k, pl, g1, g2⟩ := pst_0 h4 (by assumption)
               exact ⟨rfl, _, rfl, Or.inr ⟨rfl, k, pl, g1, prb_par hs40 (by omega) g2⟩⟩)
            | (rcases or3_0 h3 (by assumption) with q | q
               · have := q.1; exfalso; omega
               · exact ⟨rfl, _, rfl, Or.inr ⟨rfl, _, _, q.2, prb_par7 hs40 (by omega)⟩⟩)
  · skip
    refine zaload_n (k := 5) rfl rfl ?_
    refine zgR 2 (k := 6) rfl ob_52 fl_4_30 rfl fx_52_2 ?_
    rw [(RE_o hE (rfs_o h0.2.2.2)).2.2.2.2.2.1]
    refine zaload_n (k := 7) rfl rfl ?_
    refine zgF 0 (k := 8) rfl ob_52 fl_4_14 rfl fx_52_0 ?_
    refine zgI 8 (k := 9) rfl ob_53 fl_4_187 rfl fx_53_8 ?_
    rw [h0.1.2.2.2.2.2.2.1 (by omega)]
    have hk2 : tK T p = 2 := by omega
    have tb := tN_c hE.2.2.1 hp (by omega)
    have nb := tNv_b hk2
    refine zpV0 (k := 10) rfl (k_add (askS T p lk, askV T p) hE.2.2.2.2.1 h0 (by rw [(askS_2 (lk := lk) hk2).1, (askS_2 (lk := lk) hk2).2]; rfl) (by omega)) fm_Formula_add lk_4_207 rfl rfl (fm_ob hE.2.2.2.2.1) ⟨_, rfl, rfl⟩ (Nat.le_of_ble_eq_true rfl) (by omega) ⟨by decide, by decide⟩ (fun σ3 hh => ?_)
    clear h0
    have h0 := hh
    clear hh
    refine zaload_n (k := 11) rfl rfl ?_
    refine zgF 0 (k := 12) rfl ob_52 fl_4_14 rfl fx_52_0 ?_
    refine zpV0 (k := 13) rfl (k_adv2 hE h0 hp (by omega)) fm_Scanner_advance lk_4_85 rfl rfl ob_53 ⟨_, rfl, rfl⟩ (Nat.le_of_ble_eq_true rfl) (by omega) ⟨by decide, by decide⟩ (fun σ3 hh => ?_)
    clear h0
    have h0 := hh
    clear hh
    refine ziconst (k := 14) rfl (by decide) ?_
    refine zzreturn (k := 15) rfl rfl (by first | exact Or.inl rfl | exact Or.inr rfl | omega) rfl ?_
    rw [← hQ]
    have h40 : ¬ isSg T p 40 := fun q => by have := q.1; omega
    refine ⟨rfl, _, rfl, Or.inl ⟨rfl, _, _, h0, ⟨tb.1, tb.2.2⟩, by show (1 : Int) ≤ _; omega, prt_ask h40 (fun q => by omega) (by omega) (by rw [(askS_2 (lk := lk) hk2).1]; omega), ?_⟩⟩
    refine wl_le (wl_1 (v := enS (askS T p lk, askV T p)) ?_ (fun q => absurd q (by decide))) (by unfold Bp; omega)
    rw [(askS_2 (lk := lk) hk2).1, (askS_2 (lk := lk) hk2).2]
    exact nb
