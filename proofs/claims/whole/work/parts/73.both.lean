set_option maxHeartbeats 4000000 in
set_option maxRecDepth 20000 in
theorem c_Reader_readBoth {Γ : zv_M} {L : Int} {σ0 σ : zv_H} {T : Int → Int} {n f p : Int} {lk : Bool} {cs0 : List (Int × Int)} (hE : RE σ0 T n f lk) (h0 : prs σ0 σ T p f cs0) (hp : 0 ≤ p ∧ p ≤ n) {o : Int} (ho : 0 ≤ o ∧ o ≤ 7) (hc : (cs0.length : Int) ≤ p) (hS : o < 7 → kS Γ L σ0 T n f lk (o + 1)) (hTt : o < 7 → kT Γ L σ0 T n f lk (o + 1)) (hF : o < 7 → kF Γ L σ0 T n f lk (o + 1))  : zC Γ m_Reader_readBoth (12 * (8 - o).toNat + 9) 0 0 (GM L) [zR 52, zI o] σ (zPI (GM L) (pst σ0 T n f p cs0 (OkB T lk o p) (BtBd 2 T lk o p))) := by
  refine zC_of (ls0 := [_, _, _]) zm_Reader_readBoth (by decide) rfl (Nat.le_of_ble_eq_true rfl) ?_
  generalize hQ : (zPI (GM L) (pst σ0 T n f p cs0 (OkB T lk o p) (BtBd 2 T lk o p))) = Q
  have hn16 := hE.2.2.1.1
  have ebp := Bp_1 (o := o)
  refine zaload_n (k := 0) rfl rfl ?_
  refine ziload_n (k := 1) rfl rfl ?_
  refine zpVI (k := 2) rfl (c_Reader_readFact hE h0 hp ho hc hS hTt hF) fm_Reader_readFact lk_4_211 rfl rfl ob_52 ⟨_, rfl, rfl⟩ (Nat.le_of_ble_eq_true rfl) (by omega) ⟨by decide, by decide⟩ (fun z1 σ1 h1 => ?_)
  refine zif_ne (k := 3) rfl rfl (fun c1 => ?_) (fun c1 => ?_)
  · skip
    obtain ⟨p1, cs1, hh1, b1, l1, k1⟩ := pst_1 h1 (by assumption)
    clear h0 h1
    have h0 := hh1
    clear hh1
    have kA := bt_le (b := 2) (s := 2) k1.1 (by decide) (by decide)
    have kw := wl_le (B := Bp o + 4) k1.2 (by omega)
    clear k1
    refine ziconst (k := 6) rfl (by decide) ?_
    refine zistore_n (k := 7) (ls' := [_, _, _]) rfl (Nat.le_of_ble_eq_true rfl) rfl ?_
    have lp12 : ∀ (g : Nat) (k : Nat) (p1 : Int) (cs1 : List (Int × Int)) (σ2 : zv_H), (1600 - k) < g → (k ≤ 1600 ∧ (k : Int) ≤ p1) → (prs σ0 σ2 T p1 f (cs0 ++ cs1)) → (p < p1 ∧ p1 ≤ n) → ((cs1.length : Int) ≤ p1 - p) → (BtOk 2 2 T lk o p p1 cs1) → (wl (cs1.map enS) true (Bp o + 4)) → zV Γ m_Reader_readBoth (12 * (8 - o).toNat + 9) 0 0 Q (GM L) (0, 0) 12 [some (zR 52), some (zI o), some (zI k)] [] σ2 := by
      intro g
      induction g with
      | zero => intro k p1 cs1 σ2 hg; exact absurd hg (Nat.not_lt_zero _)
      | succ g ih12 =>
        intro k p1 cs1 σ2 hg hk h0 b1 l1 kA kw
        refine ziload_n (k := 8) rfl rfl ?_
        refine zsipush (k := 9) rfl rfl ?_
        refine zicmp_ge (k := 10) rfl rfl (fun c2 => ?_) (fun c2 => ?_)
        · skip
          refine ziconst (k := 31) rfl (by decide) ?_
          refine zzreturn (k := 32) rfl rfl (by first | exact Or.inl rfl | exact Or.inr rfl | omega) rfl ?_
          rw [← hQ]
          refine ⟨rfl, _, rfl, Or.inl ⟨rfl, p1, cs1, h0, b1, l1, kA, kw, ?_⟩⟩
          first
          | exact or_0 h2 (by assumption)
          | (have hz := no_k hE.2.2.1 (p := p1) (by omega) (by omega)
             exact fun q => by have := q.1; omega)
        · skip
          refine zaload_n (k := 11) rfl rfl ?_
          refine zgF 0 (k := 12) rfl ob_52 fl_4_14 rfl fx_52_0 ?_
          refine zbipush (k := 13) rfl rfl ?_
          refine zpVI (k := 14) rfl (c_Scanner_isOwnWord h0.1) fm_Scanner_isOwnWord lk_4_181 rfl rfl ob_53 ⟨_, rfl, rfl⟩ (Nat.le_of_ble_eq_true rfl) (by omega) ⟨by decide, by decide⟩ (fun z2 σ3 h2 => ?_)
          obtain ⟨he, h2⟩ := h2
          rw [he]
          clear he
          refine zif_eq (k := 15) rfl rfl (fun c3 => ?_) (fun c3 => ?_)
          · skip
            refine ziconst (k := 31) rfl (by decide) ?_
            refine zzreturn (k := 32) rfl rfl (by first | exact Or.inl rfl | exact Or.inr rfl | omega) rfl ?_
            rw [← hQ]
            refine ⟨rfl, _, rfl, Or.inl ⟨rfl, p1, cs1, h0, b1, l1, kA, kw, ?_⟩⟩
            first
            | exact or_0 h2 (by assumption)
            | (have hz := no_k hE.2.2.1 (p := p1) (by omega) (by omega)
               exact fun q => by have := q.1; omega)
          · skip
            have hst : isOw T p1 19 := or_1 h2 (by assumption)
            clear h2
            have tb := tN_c hE.2.2.1 (p := p1) ⟨by omega, by omega⟩ (Or.inl hst.1)
            refine zaload_n (k := 16) rfl rfl ?_
            refine zgF 0 (k := 17) rfl ob_52 fl_4_14 rfl fx_52_0 ?_
            refine zpV0 (k := 18) rfl (k_adv2 hE h0 ⟨by omega, by omega⟩ (Or.inl hst.1)) fm_Scanner_advance lk_4_85 rfl rfl ob_53 ⟨_, rfl, rfl⟩ (Nat.le_of_ble_eq_true rfl) (by omega) ⟨by decide, by decide⟩ (fun σ4 hh => ?_)
            clear h0
            have h0 := hh
            clear hh
            refine zaload_n (k := 19) rfl rfl ?_
            refine ziload_n (k := 20) rfl rfl ?_
            refine zpVI (k := 21) rfl (c_Reader_readFact hE h0 ⟨by omega, by omega⟩ ho (by simp only [List.length_append]; omega) hS hTt hF) fm_Reader_readFact lk_4_211 rfl rfl ob_52 ⟨_, rfl, rfl⟩ (Nat.le_of_ble_eq_true rfl) (by omega) ⟨by decide, by decide⟩ (fun z4 σ5 h4 => ?_)
            refine zif_ne (k := 22) rfl rfl (fun c4 => ?_) (fun c4 => ?_)
            · skip
              obtain ⟨p4, cs4, hh4, b4, l4, k4⟩ := pst_1 h4 (by assumption)
              clear h0 h4
              have h0 := hh4
              clear hh4
              refine zaload_n (k := 25) rfl rfl ?_
              refine zgR 2 (k := 26) rfl ob_52 fl_4_30 rfl fx_52_2 ?_
              rw [(RE_o hE (rfs_o h0.2.2.2)).2.2.2.2.2.1]
              refine zbipush (k := 27) rfl rfl ?_
              refine zpV0 (k := 28) rfl (k_add (43 - 2, 0) hE.2.2.2.2.1 h0 rfl (by simp only [List.length_append]; omega)) fm_Formula_add lk_4_207 rfl rfl (fm_ob hE.2.2.2.2.1) ⟨_, rfl, rfl⟩ (Nat.le_of_ble_eq_true rfl) (by omega) ⟨by decide, by decide⟩ (fun σ6 hh => ?_)
              clear h0
              have h0 := hh
              clear hh
              refine ziincB (k := 29) (ls' := [_, _, _]) rfl rfl (by decide) (by omega) rfl ?_
              refine zgoto (k := 30) rfl rfl ?_
              simp only [List.append_assoc] at h0
              refine ih12 (k + 1) p4 (cs1 ++ (cs4 ++ [(43 - 2, 0)])) _ (by omega) ⟨by omega, by omega⟩ h0 ⟨by omega, by omega⟩ (by simp only [List.length_append, List.length_cons, List.length_nil]; omega) (bt_and kA (Or.inl ⟨hst, rfl⟩) (by decide) (by decide) k4.1) ?_ 
              rw [List.map_append, List.map_append]
              exact wl_b kw k4.2 (by decide) ⟨by omega, by omega, by omega⟩ (fun _ x y hx hy => jn_l (by decide) (hx rfl) (hy rfl)) (fun _ => ⟨rfl, rfl⟩)
            · skip
              refine ziconst (k := 23) rfl (by decide) ?_
              refine zzreturn (k := 24) rfl rfl (by first | exact Or.inl rfl | exact Or.inr rfl | omega) rfl ?_
              rw [← hQ]
              obtain ⟨k, pl, g1, g2⟩ := pst_0 h4 (by assumption)
              exact ⟨rfl, _, rfl, Or.inr ⟨rfl, k, pl, g1, bb_and kA (Or.inl ⟨hst, rfl⟩) (by decide) g2⟩⟩
    exact lp12 _ 0 p1 cs1 _ (Nat.lt_succ_self _) ⟨by omega, by omega⟩ h0 b1 l1 kA kw
  · skip
    refine ziconst (k := 4) rfl (by decide) ?_
    refine zzreturn (k := 5) rfl rfl (by first | exact Or.inl rfl | exact Or.inr rfl | omega) rfl ?_
    rw [← hQ]
    obtain ⟨k, pl, g1, g2⟩ := pst_0 h1 (by assumption)
    exact ⟨rfl, _, rfl, Or.inr ⟨rfl, k, pl, g1, bb_le g2 (by decide)⟩⟩
