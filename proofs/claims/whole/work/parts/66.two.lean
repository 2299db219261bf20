set_option maxHeartbeats 4000000 in
set_option maxRecDepth 20000 in
theorem c_Reader_readTwo {Γ : zv_M} {L : Int} {σ0 σ : zv_H} {T : Int → Int} {n f p : Int} {lk : Bool} {cs0 : List (Int × Int)} (hE : RE σ0 T n f lk) (h0 : prs σ0 σ T p f cs0) (hp : 0 ≤ p ∧ p ≤ n) {o e s : Int} (ho : 0 ≤ o ∧ o ≤ 7) (hc : (cs0.length : Int) ≤ p) (hS : o < 7 → kS Γ L σ0 T n f lk (o + 1)) (hTt : o < 7 → kT Γ L σ0 T n f lk (o + 1)) (h : (isOw T p 22 ∧ e = 36) ∨ (isOw T p 23 ∧ e = 37)) (hs : s = enS (e, 0)) : zC Γ m_Reader_readTwo (12 * (8 - o).toNat + 3) 0 0 (GM L) [zR 52, zI o, zI s] σ (zPI (GM L) (pst σ0 T n f p cs0 (OkA T lk o p) (PrtBd T lk o p))) := by
  refine zC_of (ls0 := [_, _, _]) zm_Reader_readTwo (by decide) rfl (Nat.le_of_ble_eq_true rfl) ?_
  generalize hQ : (zPI (GM L) (pst σ0 T n f p cs0 (OkA T lk o p) (PrtBd T lk o p))) = Q
  have hk1 : tK T p = 1 := by rcases h with q | q; exact q.1.1; exact q.1.1
  have tb := tN_c hE.2.2.1 hp (by omega)
  have hn16 := hE.2.2.1.1
  have ebp : o < 7 → Bp o = Bp (o + 1) + 5 := fun q => by unfold Bp; omega
  have hw3 : isOw T p 22 ∨ isOw T p 23 ∨ isOw T p 17 := by rcases h with q | q; exact Or.inl q.1; exact Or.inr (Or.inl q.1)
  have he2 : e = 36 ∨ e = 37 := by rcases h with q | q; exact Or.inl q.2; exact Or.inr q.2
  refine zaload_n (k := 0) rfl rfl ?_
  refine zgF 0 (k := 1) rfl ob_52 fl_4_14 rfl fx_52_0 ?_
  refine zpV0 (k := 2) rfl (k_adv2 hE h0 hp (by omega)) fm_Scanner_advance lk_4_85 rfl rfl ob_53 ⟨_, rfl, rfl⟩ (Nat.le_of_ble_eq_true rfl) (by omega) ⟨by decide, by decide⟩ (fun σ3 hh => ?_)
  clear h0
  have h0 := hh
  clear hh
  refine zaload_n (k := 3) rfl rfl ?_
  refine zaload_n (k := 4) rfl rfl ?_
  refine zgF 0 (k := 5) rfl ob_52 fl_4_14 rfl fx_52_0 ?_
  refine zbipush (k := 6) rfl rfl ?_
  refine zpVI (k := 7) rfl (c_Scanner_isSign h0.1) fm_Scanner_isSign lk_4_184 rfl rfl ob_53 ⟨_, rfl, rfl⟩ (Nat.le_of_ble_eq_true rfl) (by omega) ⟨by decide, by decide⟩ (fun z2 σ2 h2 => ?_)
  obtain ⟨he, h2⟩ := h2
  rw [he]
  refine ziload_n (k := 8) rfl rfl ?_
  refine zpVI (k := 9) rfl (c_Reader_takeOpening hE h0 ⟨by omega, by omega⟩ (by rcases h2 with q | q; exact Or.inr q.1; exact Or.inl q.1) (fun q => by rcases h2 with r | r; exact Or.inr (Or.inr r.2.1); omega)) fm_Reader_takeOpening lk_4_214 rfl rfl ob_52 ⟨_, rfl, rfl⟩ (Nat.le_of_ble_eq_true rfl) (by omega) ⟨by decide, by decide⟩ (fun z3 σ4 h3 => ?_)
  refine zif_eq (k := 10) rfl rfl (fun c1 => ?_) (fun c1 => ?_)
  · skip
    refine ziconst (k := 17) rfl (by decide) ?_
    refine zzreturn (k := 18) rfl rfl (by first | exact Or.inl rfl | exact Or.inr rfl | omega) rfl ?_
    rw [← hQ]
    first
    | (obtain ⟨k, pl, g1, g2⟩ := pst_0 h4 (by assumption)
       exact ⟨rfl, _, rfl, Or.inr ⟨rfl, k, pl, g1, prb_two h hs1 (by omega) (fun R out => two_b1 g2)⟩⟩)
    | (rcases or3_0 h3 (by assumption) with q | q
       · exact ⟨rfl, _, rfl, Or.inr ⟨rfl, _, _, q.2, prb_fn1 hw3 (or_0 h2 q.1)⟩⟩
       · exact ⟨rfl, _, rfl, Or.inr ⟨rfl, _, _, q.2, prb_fn7 hw3 (or_1 h2 (by have := q.1; omega)) (by omega)⟩⟩)
  · skip
    obtain ⟨⟨hz2, ho7⟩, hh0⟩ := or3_1 h3 (by assumption)
    clear h0
    have h0 := hh0
    clear h3 hh0
    have hs1 : isSg T (tN T p) 40 := or_1 h2 (by rw [hz2]; decide)
    clear h2
    have tb1 := tN_c hE.2.2.1 (p := tN T p) ⟨by omega, by omega⟩ (Or.inr (Or.inr hs1.1))
    refine zaload_n (k := 11) rfl rfl ?_
    refine ziload_n (k := 12) rfl rfl ?_
    refine ziconst (k := 13) rfl (by decide) ?_
    refine ziaddB (k := 14) rfl (by omega) ?_
    refine zpVI (k := 15) rfl (hS (by omega) hE h0 (by omega) (by (try simp only [List.length_append]); omega)) fm_Reader_readSum lk_4_107 rfl rfl ob_52 ⟨_, rfl, rfl⟩ (Nat.le_of_ble_eq_true rfl) (by omega) ⟨by decide, by decide⟩ (fun z4 σ4 h4 => ?_)
    refine zif_ne (k := 16) rfl rfl (fun c2 => ?_) (fun c2 => ?_)
    · skip
      obtain ⟨p4, cs4, hh4, b4, l4, k4⟩ := pst_1 h4 (by assumption)
      clear h0 h4
      have h0 := hh4
      clear hh4
      refine zaload_n (k := 19) rfl rfl ?_
      refine zbipush (k := 20) rfl rfl ?_
      refine zpVI (k := 21) rfl (c_Reader_takeSign hE h0 (by omega)) fm_Reader_takeSign lk_4_53 rfl rfl ob_52 ⟨_, rfl, rfl⟩ (Nat.le_of_ble_eq_true rfl) (by omega) ⟨by decide, by decide⟩ (fun z5 σ5 h5 => ?_)
      refine zif_eq (k := 22) rfl rfl (fun c3 => ?_) (fun c3 => ?_)
      · skip
        refine ziconst (k := 33) rfl (by decide) ?_
        refine zzreturn (k := 34) rfl rfl (by first | exact Or.inl rfl | exact Or.inr rfl | omega) rfl ?_
        rw [← hQ]
        first
        | (have g := or_0 h7 (by assumption)
           exact ⟨rfl, _, rfl, Or.inr ⟨rfl, _, _, g.2, prb_two h hs1 (by omega) (fun R out => two_b4 k4.1 hs2 k6.1 k6.2.2 g.1)⟩⟩)
        | (obtain ⟨k, pl, g1, g2⟩ := pst_0 h6 (by assumption)
           exact ⟨rfl, _, rfl, Or.inr ⟨rfl, k, pl, g1, prb_two h hs1 (by omega) (fun R out => two_b3 k4.1 hs2 g2)⟩⟩)
        | (have g := or_0 h5 (by assumption)
           exact ⟨rfl, _, rfl, Or.inr ⟨rfl, _, _, g.2, prb_two h hs1 (by omega) (fun R out => two_b2 k4.1 k4.2.2 g.1)⟩⟩)
      · skip
        have hs2 : isSg T p4 44 := (or_1 h5 (by assumption)).1
        clear h0
        have h0 := (or_1 h5 (by assumption)).2
        clear h5
        have tb2 := tN_c hE.2.2.1 (p := p4) ⟨by omega, by omega⟩ (Or.inr (Or.inr hs2.1))
        refine zaload_n (k := 23) rfl rfl ?_
        refine ziload_n (k := 24) rfl rfl ?_
        refine ziconst (k := 25) rfl (by decide) ?_
        refine ziaddB (k := 26) rfl (by omega) ?_
        refine zpVI (k := 27) rfl (hS (by omega) hE h0 (by omega) (by (try simp only [List.length_append]); omega)) fm_Reader_readSum lk_4_107 rfl rfl ob_52 ⟨_, rfl, rfl⟩ (Nat.le_of_ble_eq_true rfl) (by omega) ⟨by decide, by decide⟩ (fun z6 σ6 h6 => ?_)
        refine zif_eq (k := 28) rfl rfl (fun c4 => ?_) (fun c4 => ?_)
        · skip
          refine ziconst (k := 33) rfl (by decide) ?_
          refine zzreturn (k := 34) rfl rfl (by first | exact Or.inl rfl | exact Or.inr rfl | omega) rfl ?_
          rw [← hQ]
          first
          | (have g := or_0 h7 (by assumption)
             exact ⟨rfl, _, rfl, Or.inr ⟨rfl, _, _, g.2, prb_two h hs1 (by omega) (fun R out => two_b4 k4.1 hs2 k6.1 k6.2.2 g.1)⟩⟩)
          | (obtain ⟨k, pl, g1, g2⟩ := pst_0 h6 (by assumption)
             exact ⟨rfl, _, rfl, Or.inr ⟨rfl, k, pl, g1, prb_two h hs1 (by omega) (fun R out => two_b3 k4.1 hs2 g2)⟩⟩)
          | (have g := or_0 h5 (by assumption)
             exact ⟨rfl, _, rfl, Or.inr ⟨rfl, _, _, g.2, prb_two h hs1 (by omega) (fun R out => two_b2 k4.1 k4.2.2 g.1)⟩⟩)
        · skip
          obtain ⟨p6, cs6, hh6, b6, l6, k6⟩ := pst_1 h6 (by assumption)
          clear h0 h6
          have h0 := hh6
          clear hh6
          refine zaload_n (k := 29) rfl rfl ?_
          refine zbipush (k := 30) rfl rfl ?_
          refine zpVI (k := 31) rfl (c_Reader_takeSign hE h0 (by omega)) fm_Reader_takeSign lk_4_53 rfl rfl ob_52 ⟨_, rfl, rfl⟩ (Nat.le_of_ble_eq_true rfl) (by omega) ⟨by decide, by decide⟩ (fun z7 σ7 h7 => ?_)
          refine zif_ne (k := 32) rfl rfl (fun c5 => ?_) (fun c5 => ?_)
          · skip
            have hs3 : isSg T p6 41 := (or_1 h7 (by assumption)).1
            clear h0
            have h0 := (or_1 h7 (by assumption)).2
            clear h7
            have tb3 := tN_c hE.2.2.1 (p := p6) ⟨by omega, by omega⟩ (Or.inr (Or.inr hs3.1))
            refine zaload_n (k := 35) rfl rfl ?_
            refine zgR 2 (k := 36) rfl ob_52 fl_4_30 rfl fx_52_2 ?_
            rw [(RE_o hE (rfs_o h0.2.2.2)).2.2.2.2.2.1]
            refine ziload_n (k := 37) rfl rfl ?_
            refine zpV0 (k := 38) rfl (k_add (e, 0) hE.2.2.2.2.1 h0 hs.symm (by (try simp only [List.length_append]); omega)) fm_Formula_add lk_4_207 rfl rfl (fm_ob hE.2.2.2.2.1) ⟨_, rfl, rfl⟩ (Nat.le_of_ble_eq_true rfl) (by omega) ⟨by decide, by decide⟩ (fun σ3 hh => ?_)
            clear h0
            have h0 := hh
            clear hh
            refine ziconst (k := 39) rfl (by decide) ?_
            refine zzreturn (k := 40) rfl rfl (by first | exact Or.inl rfl | exact Or.inr rfl | omega) rfl ?_
            rw [← hQ]
            simp only [List.append_assoc] at h0
            refine ⟨rfl, _, rfl, Or.inl ⟨rfl, _, _, h0, ⟨by omega, by omega⟩, by simp only [List.length_append, List.length_cons, List.length_nil]; omega, prt_two h hs1 (by omega) k4.1 hs2 k6.1 hs3, ?_⟩⟩
            rw [List.map_append, List.map_append]
            have hs9 : -16 ≤ enS (e, 0) ∧ enS (e, 0) ≤ -10 := by rcases he2 with r | r <;> rw [r] <;> decide
            exact wl_b k4.2.1 k6.2.1 ⟨by omega, hs9.2⟩ ⟨by omega, by omega, by omega⟩ (fun q => absurd q (by decide)) (fun q => by omega)
          · skip
            refine ziconst (k := 33) rfl (by decide) ?_
            refine zzreturn (k := 34) rfl rfl (by first | exact Or.inl rfl | exact Or.inr rfl | omega) rfl ?_
            rw [← hQ]
            first
            | (have g := or_0 h7 (by assumption)
               exact ⟨rfl, _, rfl, Or.inr ⟨rfl, _, _, g.2, prb_two h hs1 (by omega) (fun R out => two_b4 k4.1 hs2 k6.1 k6.2.2 g.1)⟩⟩)
            | (obtain ⟨k, pl, g1, g2⟩ := pst_0 h6 (by assumption)
               exact ⟨rfl, _, rfl, Or.inr ⟨rfl, k, pl, g1, prb_two h hs1 (by omega) (fun R out => two_b3 k4.1 hs2 g2)⟩⟩)
            | (have g := or_0 h5 (by assumption)
               exact ⟨rfl, _, rfl, Or.inr ⟨rfl, _, _, g.2, prb_two h hs1 (by omega) (fun R out => two_b2 k4.1 k4.2.2 g.1)⟩⟩)
    · skip
      refine ziconst (k := 17) rfl (by decide) ?_
      refine zzreturn (k := 18) rfl rfl (by first | exact Or.inl rfl | exact Or.inr rfl | omega) rfl ?_
      rw [← hQ]
      first
      | (obtain ⟨k, pl, g1, g2⟩ := pst_0 h4 (by assumption)
         exact ⟨rfl, _, rfl, Or.inr ⟨rfl, k, pl, g1, prb_two h hs1 (by omega) (fun R out => two_b1 g2)⟩⟩)
      | (rcases or3_0 h3 (by assumption) with q | q
         · exact ⟨rfl, _, rfl, Or.inr ⟨rfl, _, _, q.2, prb_fn1 hw3 (or_0 h2 q.1)⟩⟩
         · exact ⟨rfl, _, rfl, Or.inr ⟨rfl, _, _, q.2, prb_fn7 hw3 (or_1 h2 (by have := q.1; omega)) (by omega)⟩⟩)
