/-! the seed, guards by the seed -/
theorem zandL_m {x m : Int} (k : Nat) (hk : k ≤ 62) (hm : m = 2 ^ k - 1) (hx : 0 ≤ x ∧ x ≤ 9223372036854775807) : zandL x m = x % 2 ^ k := by
  have hp : (2 : Int) ^ k = ((2 ^ k : Nat) : Int) := by simp
  have hpos : 0 < 2 ^ k := Nat.two_pow_pos k
  have hle : 2 ^ k ≤ 2 ^ 62 := Nat.pow_le_pow_right (by decide) hk
  have hmI : m = ((2 ^ k - 1 : Nat) : Int) := by rw [hm, hp]; omega
  have hmN : (Int64.ofInt m).toBitVec.toNat = 2 ^ k - 1 := by
    show (BitVec.ofInt 64 m).toNat = 2 ^ k - 1
    rw [BitVec.toNat_ofInt, hmI]
    omega
  have hxN : (Int64.ofInt x).toBitVec.toNat = x.toNat := by
    show (BitVec.ofInt 64 x).toNat = x.toNat
    rw [BitVec.toNat_ofInt]
    omega
  have hlt : x.toNat % 2 ^ k < 2 ^ k := Nat.mod_lt _ hpos
  unfold zandL
  show (Int64.ofInt x &&& Int64.ofInt m).toBitVec.toInt = _
  rw [Int64.toBitVec_and, BitVec.toInt_eq_toNat_cond, BitVec.toNat_and, hmN, hxN, Nat.and_two_pow_sub_one_eq_mod, if_pos (by omega), Int.natCast_emod, ← hp]
  rw [show ((x.toNat : Nat) : Int) = x by omega]
def drwF (s : Int) : Int := (1103515245 * s + 12345) % 2147483648
theorem drw_b (s : Int) : 0 ≤ drwF s ∧ drwF s ≤ 2147483647 := by unfold drwF; omega
set_option maxHeartbeats 4000000 in
set_option maxRecDepth 20000 in
theorem c_NT_draw {Γ : zv_M} {L : Int} {σ : zv_H} {s k : Int} (hs : σ 1 10 = s) (hb : 0 ≤ s ∧ s ≤ 2147483647) (hk : 0 < k) : zC Γ m_NT_draw 0 0 0 (GM L) [zR 1, zI k] σ (zFn (some (zI (drwF s / 64 % k))) (GM L) (zup σ 1 10 (drwF s))) := by
  refine zC_of (ls0 := [_, _]) zm_NT_draw (by decide) rfl (Nat.le_of_ble_eq_true rfl) ?_
  generalize hQ : (zFn (some (zI (drwF s / 64 % k))) (GM L) (zup σ 1 10 (drwF s))) = Q
  have db := drw_b s
  refine zaload_n (k := 0) rfl rfl ?_
  refine zldc2 (k := 1) (z := 1103515245) rfl kc_11_321 rfl ?_
  refine zaload_n (k := 2) rfl rfl ?_
  refine zgI 10 (k := 3) rfl ob_1 fl_11_77 rfl fx_1_10 ?_
  rw [hs]
  refine zi2l (k := 4) rfl ?_
  refine zlmulB (k := 5) rfl (by omega) ?_
  refine zldc2 (k := 6) (z := 12345) rfl kc_11_323 rfl ?_
  refine zladdB (k := 7) rfl (by omega) ?_
  refine zldc2 (k := 8) (z := 2147483647) rfl kc_11_325 rfl ?_
  refine zland (k := 9) rfl ?_
  rw [zandL_m 31 (by decide) (by decide) (by omega)]
  rw [show (1103515245 * s + 12345) % 2 ^ 31 = drwF s from rfl]
  refine zl2i (k := 10) rfl ?_
  rw [w32_id (by omega) (by omega)]
  refine zpI 10 (k := 11) rfl ob_1 fl_11_77 ⟨_, rfl, rfl⟩ rfl (by omega) rfl fx_1_10 ?_
  refine ziload_n (k := 12) rfl rfl ?_
  refine zif_le (k := 13) rfl rfl (fun c1 => ?_) (fun c1 => ?_)
  · skip
    refine ziconst (k := 21) rfl (by decide) ?_
    refine zireturn (k := 22) rfl rfl rfl ?_
    rw [← hQ]
    first | exact ⟨rfl, rfl, rfl⟩ | (exfalso; omega)
  · skip
    refine zaload_n (k := 14) rfl rfl ?_
    refine zgI 10 (k := 15) rfl ob_1 fl_11_77 rfl fx_1_10 ?_
    rw [zup_s]
    refine zbipush (k := 16) rfl rfl ?_
    refine zidivP (k := 17) rfl (by omega) ?_
    refine ziload_n (k := 18) rfl rfl ?_
    refine ziremP (k := 19) rfl (by omega) ?_
    refine zgoto (k := 20) rfl rfl ?_
    refine zireturn (k := 22) rfl rfl rfl ?_
    rw [← hQ]
    first | exact ⟨rfl, rfl, rfl⟩ | (exfalso; omega)
def gtk1 (X : zv_H × Int × Int) (m : Int) : zv_H × Int × Int := if X.1 5 m = 2 then (if drwF X.2.1 / 64 % 100 < 10 * X.1 3 (X.1 4 m) then (kepF (zup X.1 5 m 4) (entF X.1 m (X.1 4 m) 4), drwF X.2.1, X.2.2 + 1) else (X.1, drwF X.2.1, X.2.2)) else X
def gtkF (S : zv_H) (s : Int) : Nat → zv_H × Int × Int
  | 0 => (S, s, 0)
  | j + 1 => gtk1 (gtkF S s j) j
theorem gtkF_s (S : zv_H) (s : Int) (j : Nat) : gtkF S s (j + 1) = gtk1 (gtkF S s j) j := rfl
theorem gtk_b {nc nm : Int} {S : zv_H} {s : Int} (hc : nc ≤ 7) (hm : nm ≤ 6) (hS : SI nc nm S) (hs : 0 ≤ s ∧ s ≤ 2147483647) : ∀ j : Nat, (j : Int) ≤ nm → SI nc nm (gtkF S s j).1 ∧ (0 ≤ (gtkF S s j).2.1 ∧ (gtkF S s j).2.1 ≤ 2147483647) ∧ (0 ≤ (gtkF S s j).2.2 ∧ (gtkF S s j).2.2 ≤ j)
  | 0, _ => ⟨hS, hs, Int.le_refl _, Int.le_refl _⟩
  | j + 1, h => by
    obtain ⟨i1, i2, i3⟩ := gtk_b hc hm hS hs j (by omega)
    have db := drw_b (gtkF S s j).2.1
    rw [gtkF_s]
    unfold gtk1
    generalize gtkF S s j = X at i1 i2 i3 db ⊢
    have b := i1.2.2.2.2.1 j (by omega) (by omega)
    split
    · split
      · refine ⟨SI_kep (SI_m (m := (j : Int)) i1 _ (fun g k q => zup_n (by omega)) ?_) (entF_b i1.1 (by omega) (by omega) (by omega)), db, by dsimp only; omega⟩
        simp [zup]
        omega
      · exact ⟨i1, db, by dsimp only; omega⟩
    · exact ⟨i1, i2, by omega⟩
theorem SZ_gtk {nc nm : Int} {S : zv_H} {s : Int} (hc : nc ≤ 7) (hm : nm ≤ 6) (hS : SI nc nm S) (hs : 0 ≤ s ∧ s ≤ 2147483647) (hZ : SZ S) : ∀ j : Nat, (j : Int) ≤ nm → SZ (gtkF S s j).1
  | 0, _ => hZ
  | j + 1, h => by
    have ih := SZ_gtk hc hm hS hs hZ j (by omega)
    rw [gtkF_s]
    unfold gtk1
    (repeat' split) <;> first | exact ih | exact SZ_kep (SZ_up ih (by unfold inS; omega))
theorem stp_sd {σ0 σ1 S1 : zv_H} {s s2 : Int} (h : stp (zup σ0 1 10 s) σ1 30 S1) : stp (zup σ0 1 10 s2) (zup σ1 1 10 s2) 30 S1 := by
  refine ⟨by rw [← h.1]; exact vw_eq (fun x k h1 h2 => zup_n (by omega)) (by omega), fun x k q1 q2 q3 => ?_⟩
  by_cases e : x = 1 ∧ k = 10
  · rw [e.1, e.2, zup_s, zup_s]
  · rw [zup_n e, zup_n e, h.2 x k q1 q2 q3, zup_n e]
set_option maxHeartbeats 4000000 in
set_option maxRecDepth 20000 in
theorem c_NT_guardsTake {Γ : zv_M} {L : Int} {w : Int} {σ S Wm : zv_H} (h8 : σ 1 8 = w) (hw : w ∈ wrL) (hW : vw 12 σ w = Wm) (hS : vw 10 σ 30 = S) (hSI : SI (Wm 0 1) (Wm 0 3) S) (hWI : WI Wm) {s : Int} (hsd0 : σ 1 10 = s) (hs : 0 ≤ s ∧ s ≤ 2147483647) : zC Γ m_NT_guardsTake 2 0 0 (GM L) [zR 1] σ (zPI (GM L) (fun z σ' => z = (gtkF S s (Wm 0 3).toNat).2.2 ∧ stp (zup σ 1 10 (gtkF S s (Wm 0 3).toNat).2.1) σ' 30 (gtkF S s (Wm 0 3).toNat).1)) := by
  refine zC_of (ls0 := [_, _, _, _]) zm_NT_guardsTake (by decide) rfl (Nat.le_of_ble_eq_true rfl) ?_
  generalize hQ : (zPI (GM L) (fun z σ' => z = (gtkF S s (Wm 0 3).toNat).2.2 ∧ stp (zup σ 1 10 (gtkF S s (Wm 0 3).toNat).2.1) σ' 30 (gtkF S s (Wm 0 3).toNat).1)) = Q
  have ha : (30 : Int) ∈ stL := by decide
  have e30 : σ 30 = S 0 := st_e0 hS
  have e31 : σ 31 = S 1 := st_e (f := 1) hS (by omega)
  have e32 : σ 32 = S 2 := st_e (f := 2) hS (by omega)
  have e33 : σ 33 = S 3 := st_e (f := 3) hS (by omega)
  have e34 : σ 34 = S 4 := st_e (f := 4) hS (by omega)
  have e35 : σ 35 = S 5 := st_e (f := 5) hS (by omega)
  have e36 : σ 36 = S 6 := st_e (f := 6) hS (by omega)
  have e37 : σ 37 = S 7 := st_e (f := 7) hS (by omega)
  have e38 : σ 38 = S 8 := st_e (f := 8) hS (by omega)
  have e39 : σ 39 = S 9 := st_e (f := 9) hS (by omega)
  have e40 : σ 40 = S 10 := st_e (f := 10) hS (by omega)
  have ew0 : σ w = Wm 0 := st_e0 hW
  have ew1 : σ (w + 1) = Wm 1 := st_e (f := 1) hW (by omega)
  have ew2 : σ (w + 2) = Wm 2 := st_e (f := 2) hW (by omega)
  have ew3 : σ (w + 3) = Wm 3 := st_e (f := 3) hW (by omega)
  have ew4 : σ (w + 4) = Wm 4 := st_e (f := 4) hW (by omega)
  have ew5 : σ (w + 5) = Wm 5 := st_e (f := 5) hW (by omega)
  have ew6 : σ (w + 6) = Wm 6 := st_e (f := 6) hW (by omega)
  have ew7 : σ (w + 7) = Wm 7 := st_e (f := 7) hW (by omega)
  have ew8 : σ (w + 8) = Wm 8 := st_e (f := 8) hW (by omega)
  have ew9 : σ (w + 9) = Wm 9 := st_e (f := 9) hW (by omega)
  have ew10 : σ (w + 10) = Wm 10 := st_e (f := 10) hW (by omega)
  have ew11 : σ (w + 11) = Wm 11 := st_e (f := 11) hW (by omega)
  have ew12 : σ (w + 12) = Wm 12 := st_e (f := 12) hW (by omega)
  have hSI0 := hSI
  have hWI0 := hWI
  obtain ⟨b0, b11, b12, bc, bm, bl, br⟩ := hSI
  obtain ⟨w1, w2, w3, w4, w5, w6, w7, w8, w9, w10⟩ := hWI
  have hfar := wr_far hw
  have hst0 : stp (zup σ 1 10 s) σ 30 S := ⟨hS, fun x k q1 q2 q3 => by
    by_cases e : x = 1 ∧ k = 10
    · rw [e.1, e.2, zup_s]; exact hsd0
    · rw [zup_n e]⟩
  refine ziconst (k := 0) rfl (by decide) ?_
  refine zistore_n (k := 1) (ls' := [_, _, _, _]) rfl (Nat.le_of_ble_eq_true rfl) rfl ?_
  refine ziconst (k := 2) rfl (by decide) ?_
  refine zistore_n (k := 3) (ls' := [_, _, _, _]) rfl (Nat.le_of_ble_eq_true rfl) rfl ?_
  have lp4 : ∀ (g : Nat) (j : Nat) (σ1 : zv_H), ((Wm 0 3).toNat - j) < g → ((j : Int) ≤ Wm 0 3) → (stp (zup σ 1 10 (gtkF S s j).2.1) σ1 30 (gtkF S s j).1) → zV Γ m_NT_guardsTake 2 0 0 Q (GM L) (0, 0) 4 [some (zR 1), some (zI (gtkF S s j).2.2), some (zI j), none] [] σ1 := by
    intro g
    induction g with
    | zero => intro j σ1 hg; exact absurd hg (Nat.not_lt_zero _)
    | succ g ih4 =>
      intro j σ1 hg hj h0
      have f30 : σ1 30 = (gtkF S s j).1 0 := st_e0 h0.1
      have f33 : σ1 33 = (gtkF S s j).1 3 := st_e (f := 3) h0.1 (by omega)
      have f34 : σ1 34 = (gtkF S s j).1 4 := st_e (f := 4) h0.1 (by omega)
      have f35 : σ1 35 = (gtkF S s j).1 5 := st_e (f := 5) h0.1 (by omega)
      have h81 : σ1 1 8 = w := by rw [h0.2 1 8 (by omega) (by omega) (by omega), zup_n (by omega)]; exact h8
      have fw0 : σ1 w 3 = Wm 0 3 := by rw [h0.2 w 3 (by omega) (by omega) (by omega), zup_n (by omega), ew0]
      obtain ⟨g1, g2, g3⟩ := gtk_b w1.2 w3.2 hSI0 hs j hj
      have hsd : σ1 1 10 = (gtkF S s j).2.1 := by rw [h0.2 1 10 (by omega) (by omega) (by omega), zup_s]
      refine ziload_n (k := 4) rfl rfl ?_
      refine zaload_n (k := 5) rfl rfl ?_
      refine zgR 8 (k := 6) rfl ob_1 fl_11_19 rfl fx_1_8 ?_
      first | rw [h81] | rw [h8] | rw [h0.2 1 8 (by omega) (by omega) (by omega), h8]
      refine zgI 3 (k := 7) rfl (wr_ob hw) fl_11_136 rfl (wr_fx_3 hw) ?_
      try simp only [e30, e31, e32, e33, e34, e35, e36, e37, e38, e39, e40, ew0, ew1, ew2, ew3, ew4, ew5, ew6, ew7, ew8, ew9, ew10, ew11, ew12]
      rw [fw0]
      refine zicmp_ge (k := 8) rfl rfl (fun c1 => ?_) (fun c1 => ?_)
      · skip
        rw [show j = (Wm 0 3).toNat by omega] at h0 ⊢
        refine ziload_n (k := 48) rfl rfl ?_
        refine zireturn (k := 49) rfl rfl rfl ?_
        rw [← hQ]
        exact ⟨rfl, _, rfl, rfl, h0⟩
      · skip
        refine zaload_n (k := 9) rfl rfl ?_
        refine zgF 6 (k := 10) rfl ob_1 fl_11_29 rfl fx_1_6 ?_
        refine zgF 5 (k := 11) rfl ob_30 fl_11_149 rfl fx_30_5 ?_
        refine ziload_n (k := 12) rfl rfl ?_
        refine zfS1 (k := 13) rfl (c_NT_at ar_35) fm_NT_at lk_11_174 rfl rfl (Nat.le_of_ble_eq_true rfl) (by decide) ⟨by decide, by decide⟩ ?_
        rw [zat_in (by omega)]
        try simp only [f30, f33, f34, f35, ew0, fw0]
        refine ziconst (k := 14) rfl (by decide) ?_
        have gm := g1.2.2.2.2.1 j (by omega) (by omega)
        refine zicmp_ne (k := 15) rfl rfl (fun c2 => ?_) (fun c2 => ?_)
        · skip
          refine ziincB (k := 46) (ls' := [_, _, _, _]) rfl rfl (by decide) (by omega) rfl ?_
          refine zgoto (k := 47) rfl rfl ?_
          first
          | (have en : gtkF S s (j + 1) = gtkF S s j := if_neg (by assumption)
             have r := ih4 (j + 1) _ (by omega) (by omega) (by rw [en]; exact h0)
             rw [en] at r
             exact r)
          | (have en : gtkF S s (j + 1) = ((gtkF S s j).1, drwF (gtkF S s j).2.1, (gtkF S s j).2.2) := by
               rw [gtkF_s]
               unfold gtk1
               rw [if_pos (by assumption), if_neg (by omega)]
             have r := ih4 (j + 1) _ (by omega) (by omega) (by rw [en]; exact h0)
             rw [en] at r
             exact r)
          | (have en : gtkF S s (j + 1) = (kepF (zup (gtkF S s j).1 5 j 4) (entF (gtkF S s j).1 j ((gtkF S s j).1 4 j) 4), drwF (gtkF S s j).2.1, (gtkF S s j).2.2 + 1) := by
               rw [gtkF_s]
               unfold gtk1
               rw [if_pos (by assumption), if_pos (by assumption)]
             have r := ih4 (j + 1) _ (by omega) (by omega) (by rw [en]; exact h0)
             rw [en] at r
             exact r)
        · skip
          have gm := g1.2.2.2.2.1 j (by omega) (by omega)
          have gc := g1.2.2.2.1 ((gtkF S s j).1 4 j) (by omega) (by omega)
          refine zaload_n (k := 16) rfl rfl ?_
          refine zgF 6 (k := 17) rfl ob_1 fl_11_29 rfl fx_1_6 ?_
          refine zgF 4 (k := 18) rfl ob_30 fl_11_200 rfl fx_30_4 ?_
          refine ziload_n (k := 19) rfl rfl ?_
          refine zfS1 (k := 20) rfl (c_NT_at ar_34) fm_NT_at lk_11_174 rfl rfl (Nat.le_of_ble_eq_true rfl) (by decide) ⟨by decide, by decide⟩ ?_
          rw [zat_in (by omega)]
          try simp only [f30, f33, f34, f35, ew0, fw0]
          refine zistore_n (k := 21) (ls' := [_, _, _, _]) rfl (Nat.le_of_ble_eq_true rfl) rfl ?_
          refine zaload_n (k := 22) rfl rfl ?_
          refine zbipush (k := 23) rfl rfl ?_
          refine zfV1 (k := 24) rfl (c_NT_draw hsd g2 (by omega)) fm_NT_draw lk_11_315 rfl rfl ob_1 ⟨_, rfl, rfl⟩ (Nat.le_of_ble_eq_true rfl) (by decide) ⟨by decide, by decide⟩ ?_
          have h0 := stp_sd (s2 := drwF (gtkF S s j).2.1) h0
          refine zbipush (k := 25) rfl rfl ?_
          refine zaload_n (k := 26) rfl rfl ?_
          refine zgF 6 (k := 27) rfl ob_1 fl_11_29 rfl fx_1_6 ?_
          refine zgF 3 (k := 28) rfl ob_30 fl_11_190 rfl fx_30_3 ?_
          refine ziload_n (k := 29) rfl rfl ?_
          refine zfS1 (k := 30) rfl (c_NT_at ar_33) fm_NT_at lk_11_174 rfl rfl (Nat.le_of_ble_eq_true rfl) (by decide) ⟨by decide, by decide⟩ ?_
          rw [zat_in (by omega), zup_n (by omega), f33]
          refine zimulB (k := 31) rfl (by omega) ?_
          refine zicmp_ge (k := 32) rfl rfl (fun c3 => ?_) (fun c3 => ?_)
          · skip
            refine ziincB (k := 46) (ls' := [_, _, _, _]) rfl rfl (by decide) (by omega) rfl ?_
            refine zgoto (k := 47) rfl rfl ?_
            refine zforget (ls' := [_, _, _, _]) 3 rfl ?_
            first
            | (have en : gtkF S s (j + 1) = gtkF S s j := if_neg (by assumption)
               have r := ih4 (j + 1) _ (by omega) (by omega) (by rw [en]; exact h0)
               rw [en] at r
               exact r)
            | (have en : gtkF S s (j + 1) = ((gtkF S s j).1, drwF (gtkF S s j).2.1, (gtkF S s j).2.2) := by
                 rw [gtkF_s]
                 unfold gtk1
                 rw [if_pos (by assumption), if_neg (by omega)]
               have r := ih4 (j + 1) _ (by omega) (by omega) (by rw [en]; exact h0)
               rw [en] at r
               exact r)
            | (have en : gtkF S s (j + 1) = (kepF (zup (gtkF S s j).1 5 j 4) (entF (gtkF S s j).1 j ((gtkF S s j).1 4 j) 4), drwF (gtkF S s j).2.1, (gtkF S s j).2.2 + 1) := by
                 rw [gtkF_s]
                 unfold gtk1
                 rw [if_pos (by assumption), if_pos (by assumption)]
               have r := ih4 (j + 1) _ (by omega) (by omega) (by rw [en]; exact h0)
               rw [en] at r
               exact r)
          · skip
            refine zaload_n (k := 33) rfl rfl ?_
            refine zgF 6 (k := 34) rfl ob_1 fl_11_29 rfl fx_1_6 ?_
            refine zgF 5 (k := 35) rfl ob_30 fl_11_149 rfl fx_30_5 ?_
            refine ziload_n (k := 36) rfl rfl ?_
            refine ziconst (k := 37) rfl (by decide) ?_
            refine zpS0 (k := 38) rfl (k_put (a := 30) (g := 5) ar_35 (by omega) h0 (by omega) (by omega)) fm_NT_put lk_11_244 rfl rfl (Nat.le_of_ble_eq_true rfl) (by decide) ⟨by decide, by decide⟩ (fun σn hh => ?_)
            clear h0
            have h0 := hh
            clear hh
            refine zaload_n (k := 39) rfl rfl ?_
            refine zgF 6 (k := 40) rfl ob_1 fl_11_29 rfl fx_1_6 ?_
            refine ziload_n (k := 41) rfl rfl ?_
            refine ziload_n (k := 42) rfl rfl ?_
            refine ziconst (k := 43) rfl (by decide) ?_
            refine zpV0 (k := 44) rfl (k_keep (by decide) h0 (by omega) (by omega) (by omega) (by (repeat rw [zup_n (by omega)]); exact g1.1) (by (repeat rw [zup_n (by omega)]); exact g1.2.1) (by (repeat rw [zup_n (by omega)]); exact g1.2.2.1)) fm_State_keep lk_11_318 rfl rfl ob_30 ⟨_, rfl, rfl⟩ (Nat.le_of_ble_eq_true rfl) (by decide) ⟨by decide, by decide⟩ (fun σn hh => ?_)
            clear h0
            have h0 := hh
            clear hh
            rw [entF_n (S := (gtkF S s j).1) (by rw [zup_n (by omega)])] at h0
            refine ziincB (k := 45) (ls' := [_, _, _, _]) rfl rfl (by decide) (by omega) rfl ?_
            refine ziincB (k := 46) (ls' := [_, _, _, _]) rfl rfl (by decide) (by omega) rfl ?_
            refine zgoto (k := 47) rfl rfl ?_
            refine zforget (ls' := [_, _, _, _]) 3 rfl ?_
            first
            | (have en : gtkF S s (j + 1) = gtkF S s j := if_neg (by assumption)
               have r := ih4 (j + 1) _ (by omega) (by omega) (by rw [en]; exact h0)
               rw [en] at r
               exact r)
            | (have en : gtkF S s (j + 1) = ((gtkF S s j).1, drwF (gtkF S s j).2.1, (gtkF S s j).2.2) := by
                 rw [gtkF_s]
                 unfold gtk1
                 rw [if_pos (by assumption), if_neg (by omega)]
               have r := ih4 (j + 1) _ (by omega) (by omega) (by rw [en]; exact h0)
               rw [en] at r
               exact r)
            | (have en : gtkF S s (j + 1) = (kepF (zup (gtkF S s j).1 5 j 4) (entF (gtkF S s j).1 j ((gtkF S s j).1 4 j) 4), drwF (gtkF S s j).2.1, (gtkF S s j).2.2 + 1) := by
                 rw [gtkF_s]
                 unfold gtk1
                 rw [if_pos (by assumption), if_pos (by assumption)]
               have r := ih4 (j + 1) _ (by omega) (by omega) (by rw [en]; exact h0)
               rw [en] at r
               exact r)
  exact lp4 _ 0 _ (Nat.lt_succ_self _) (by omega) hst0
