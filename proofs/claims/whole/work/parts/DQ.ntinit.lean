/-! THE OWN WORDS' NUMBERS; the constructors of the scanner, the reader and the class -/
def wst : Nat → Nat × Int × Nat
  | 0 => (0, 0, 0)
  | i + 1 => if bZ i = 32 then ((wst i).1 + 1, 0, 0) else ((wst i).1, 27 * (wst i).2.1 + (bZ i - 97 + 1), (wst i).2.2 + 1)
def wrw : Nat → Int → Int
  | 0 => fun _ => 0
  | i + 1 => if bZ i = 32 then rup (wrw i) (wst i).1 (fil27 (wst i).2.1 (6 - (wst i).2.2)) else wrw i
theorem wst_b : ∀ i : Nat, i < 116 → (i < 115 → (wst i).1 < 24) ∧ (wst i).1 ≤ 24 ∧ 0 ≤ (wst i).2.1 ∧ (wst i).2.1 < 27 ^ (wst i).2.2 ∧ (wst i).2.2 ≤ 6 ∧ (bZ i ≠ 32 → i < 115 → (wst i).2.1 ≤ 27 ^ 5) := by decide +kernel
theorem wrw_e : ∀ k : Nat, k < 24 → wrw 115 k = ownR k := by decide +kernel
theorem wst_s {i : Nat} (h : bZ i = 32) : wst (i + 1) = ((wst i).1 + 1, 0, 0) := if_pos h
theorem wst_n {i : Nat} (h : bZ i ≠ 32) : wst (i + 1) = ((wst i).1, 27 * (wst i).2.1 + (bZ i - 97 + 1), (wst i).2.2 + 1) := if_neg h
theorem wrw_s {i : Nat} (h : bZ i = 32) : wrw (i + 1) = rup (wrw i) (wst i).1 (fil27 (wst i).2.1 (6 - (wst i).2.2)) := if_pos h
theorem wrw_n {i : Nat} (h : bZ i ≠ 32) : wrw (i + 1) = wrw i := if_neg h
def zWN (L : Int) (σ : zv_H) : zv_P := fun r G' σ' => r = some (zR 54) ∧ G' = GP L 55 ∧ (∀ a k, a < 54 → σ' a k = σ a k) ∧ Dn L EX σ' 54
set_option maxHeartbeats 4000000 in
set_option maxRecDepth 20000 in
theorem c_wordNumbers {Γ : zv_M} {L : Int} {σ : zv_H} {aK aV : Nat} {aF : Int} (hZ : zv_str Γ aK aV aF) : zC Γ m_Scanner_wordNumbers 4 1 24 (GP L 54) [zS aK] σ (zWN L σ) := by
  have hO := hZ.2.1
  refine zC_of (ls0 := [_, _, _, _, _, _, _]) zm_Scanner_wordNumbers (by decide) rfl (Nat.le_of_ble_eq_true rfl) ?_
  refine zbipush (k := 0) rfl rfl ?_
  refine znewarr (k := 1) (ty := .int) rfl rfl (Or.inl rfl) (by decide) (fun _ => rfl) (tin1 43 (by decide +kernel)) (Nat.le_of_ble_eq_true rfl) (Nat.le_of_ble_eq_true rfl) ?_
  rw [GP_len (by decide), GP_push (sh := .inr (.int, 24)) rfl]
  have e0_q : ∀ k, znw σ ((54 : Nat) : Int) (fun _ => 0) 54 k = wrw 0 k := fun k => znw_s _ _ _ _
  have f0_q : ∀ a k, a < 54 → znw σ ((54 : Nat) : Int) (fun _ => 0) a k = σ a k := fun a k h => znw_n (by show ¬ a = 54; omega)
  generalize znw σ ((54 : Nat) : Int) (fun _ => 0) = s0_q at e0_q f0_q ⊢
  refine zastore_n (k := 2) (ls' := [some (zS aK), some (zR 54), none, none, none, none, none]) rfl (Nat.le_of_ble_eq_true rfl) rfl ?_
  refine ziconst (k := 3) rfl (by decide) ?_
  refine zistore_n (k := 4) (ls' := [some (zS aK), some (zR 54), some (zI 0), none, none, none, none]) rfl (Nat.le_of_ble_eq_true rfl) rfl ?_
  refine ziconst (k := 5) rfl (by decide) ?_
  refine zistore_n (k := 6) (ls' := [some (zS aK), some (zR 54), some (zI 0), some (zI 0), none, none, none]) rfl (Nat.le_of_ble_eq_true rfl) rfl ?_
  refine ziconst (k := 7) rfl (by decide) ?_
  refine zistore (k := 8) (ls' := [some (zS aK), some (zR 54), some (zI 0), some (zI 0), some (zI 0), none, none]) rfl (Nat.le_of_ble_eq_true rfl) rfl ?_
  refine ziconst (k := 9) rfl (by decide) ?_
  refine zistore (k := 10) (ls' := [some (zS aK), some (zR 54), some (zI 0), some (zI 0), some (zI 0), some (zI 0), none]) rfl (Nat.le_of_ble_eq_true rfl) rfl ?_
  have har : zv_ar (GP L 55) 54 .int 24 := GP_ar ar_54 (by decide)
  have lp : ∀ (g i : Nat) (x : Option zv_A) (s : zv_H), i ≤ 115 → 115 - i < g → (∀ k, s 54 k = wrw i k) → (∀ a k, a < 54 → s a k = σ a k) → zV Γ m_Scanner_wordNumbers 4 1 24 (zWN L σ) (GP L 55) (1, 24) 15 [some (zS aK), some (zR 54), some (zI ((wst i).1 : Nat)), some (zI (wst i).2.1), some (zI ((wst i).2.2 : Nat)), some (zI (i : Nat)), x] [] s := by
    intro g
    induction g with
    | zero => intro i x s _ hg; exact absurd hg (Nat.not_lt_zero _)
    | succ g ih =>
      intro i x s hi hg hE hF
      obtain ⟨b1_q, b2_q, b3_q, b4_q, b5_q, b6_q⟩ := wst_b i (by omega)
      refine ziload (k := 11) rfl rfl ?_
      refine zaload3 (k := 12) rfl rfl ?_
      refine zf3 (k := 13) (as := []) (rest := [zI (i : Nat)]) rfl (j_length hZ) fm_J0_length_8abf5 lk_7_25 rfl rfl hO (Nat.le_of_ble_eq_true rfl) (by decide) (by decide) ?_
      refine zicmp_ge (k := 14) rfl rfl (fun c1_q => ?_) (fun c1_q => ?_)
      · have ei : i = 115 := by omega
        subst ei
        refine zaload_n (k := 47) rfl rfl ?_
        refine zareturn (k := 48) rfl rfl (Or.inr ⟨_, rfl⟩) rfl ⟨rfl, rfl, hF, fun sh hs k k0_q k1_q => ?_⟩
        cases (ar_54 (L := L)).1.symm.trans hs
        have k1_q : k < 24 := k1_q
        have q := wrw_e k.toNat (by omega)
        rw [show ((k.toNat : Nat) : Int) = k by omega] at q
        rw [hE, q, EX_n ((ar_54 (L := L)).2 k)]
        exact (if_pos rfl).symm
      · have b1_q := b1_q (by omega)
        have hc := bZ_c i (by omega)
        refine zaload3 (k := 15) rfl rfl ?_
        refine ziload (k := 16) rfl rfl ?_
        refine zf3 (k := 17) (as := [zI (i : Nat)]) (rest := []) rfl (j_charAt hZ (by omega)) fm_J0_charAt_5068e lk_7_31 rfl rfl hO (by decide) (by decide) (by decide) ?_
        refine zistore (k := 18) (ls' := [some (zS aK), some (zR 54), some (zI ((wst i).1 : Nat)), some (zI (wst i).2.1), some (zI ((wst i).2.2 : Nat)), some (zI (i : Nat)), some (zI (bZ i))]) rfl (Nat.le_of_ble_eq_true rfl) rfl ?_
        refine ziload (k := 19) rfl rfl ?_
        refine zbipush (k := 20) rfl rfl ?_
        refine zicmp_ne (k := 21) rfl rfl (fun c2_q => ?_) (fun c2_q => ?_)
        · have b6_q := b6_q c2_q (by omega)
          rw [show (27 : Int) ^ 5 = 14348907 from rfl] at b6_q
          refine zbipush (k := 34) rfl rfl ?_
          refine ziload_n (k := 35) rfl rfl ?_
          refine zimulB (k := 36) rfl (by omega) ?_
          refine ziload (k := 37) rfl rfl ?_
          refine zbipush (k := 38) rfl rfl ?_
          refine zisubB (k := 39) rfl (by omega) ?_
          refine ziconst (k := 40) rfl (by decide) ?_
          refine ziaddB (k := 41) rfl (by omega) ?_
          refine ziaddB (k := 42) rfl (by omega) ?_
          refine zistore_n (k := 43) (ls' := [some (zS aK), some (zR 54), some (zI ((wst i).1 : Nat)), some (zI (27 * (wst i).2.1 + (bZ i - 97 + 1))), some (zI ((wst i).2.2 : Nat)), some (zI (i : Nat)), some (zI (bZ i))]) rfl (Nat.le_of_ble_eq_true rfl) rfl ?_
          refine ziincB (k := 44) (ls' := [some (zS aK), some (zR 54), some (zI ((wst i).1 : Nat)), some (zI (27 * (wst i).2.1 + (bZ i - 97 + 1))), some (zI (((wst i).2.2 + 1 : Nat) : Int)), some (zI (i : Nat)), some (zI (bZ i))]) rfl rfl (by decide) (by omega) rfl ?_
          refine ziincB (k := 45) (ls' := [some (zS aK), some (zR 54), some (zI ((wst i).1 : Nat)), some (zI (27 * (wst i).2.1 + (bZ i - 97 + 1))), some (zI (((wst i).2.2 + 1 : Nat) : Int)), some (zI ((i + 1 : Nat) : Int)), some (zI (bZ i))]) rfl rfl (by decide) (by omega) rfl ?_
          refine zgoto (k := 46) rfl rfl ?_
          have r := ih (i + 1) (some (zI (bZ i))) s (by omega) (by omega) (fun k => by rw [wrw_n c2_q]; exact hE k) hF
          rw [wst_n c2_q] at r
          exact r
        · refine zaload_n (k := 22) rfl rfl ?_
          refine ziload_n (k := 23) rfl rfl ?_
          refine ziload_n (k := 24) rfl rfl ?_
          refine ziload (k := 25) rfl rfl ?_
          refine zfS1 (k := 26) (as := [zI (wst i).2.1, zI ((wst i).2.2 : Nat)]) (rest := [zI ((wst i).1 : Nat), zR 54]) rfl (g_c_Scanner_filledUp b5_q ⟨b3_q, b4_q⟩) fm_Scanner_filledUp lk_7_35 rfl rfl (Nat.le_of_ble_eq_true rfl) (by decide) (by decide) ?_
          refine zfS0 (k := 27) (as := [zR 54, zI ((wst i).1 : Nat), zI (fil27 (wst i).2.1 (6 - (wst i).2.2))]) (rest := []) rfl (g_c_NT_put har (by decide)) fm_NT_put lk_7_39 rfl rfl (by decide) (by decide) (by decide) ?_
          refine ziincB (k := 28) (ls' := [some (zS aK), some (zR 54), some (zI (((wst i).1 + 1 : Nat) : Int)), some (zI (wst i).2.1), some (zI ((wst i).2.2 : Nat)), some (zI (i : Nat)), some (zI (bZ i))]) rfl rfl (by decide) (by omega) rfl ?_
          refine ziconst (k := 29) rfl (by decide) ?_
          refine zistore_n (k := 30) (ls' := [some (zS aK), some (zR 54), some (zI (((wst i).1 + 1 : Nat) : Int)), some (zI 0), some (zI ((wst i).2.2 : Nat)), some (zI (i : Nat)), some (zI (bZ i))]) rfl (Nat.le_of_ble_eq_true rfl) rfl ?_
          refine ziconst (k := 31) rfl (by decide) ?_
          refine zistore (k := 32) (ls' := [some (zS aK), some (zR 54), some (zI (((wst i).1 + 1 : Nat) : Int)), some (zI 0), some (zI 0), some (zI (i : Nat)), some (zI (bZ i))]) rfl (Nat.le_of_ble_eq_true rfl) rfl ?_
          refine zgoto (k := 33) rfl rfl ?_
          refine ziincB (k := 45) (ls' := [some (zS aK), some (zR 54), some (zI (((wst i).1 + 1 : Nat) : Int)), some (zI 0), some (zI 0), some (zI ((i + 1 : Nat) : Int)), some (zI (bZ i))]) rfl rfl (by decide) (by omega) rfl ?_
          refine zgoto (k := 46) rfl rfl ?_
          have ez : zpt s 54 24 ((wst i).1 : Nat) (fil27 (wst i).2.1 (6 - (wst i).2.2)) = zup s 54 ((wst i).1 : Nat) (fil27 (wst i).2.1 (6 - (wst i).2.2)) := by
            unfold zpt
            first | exact if_pos (by omega) | exact if_neg (by omega)
          rw [ez]
          have r := ih (i + 1) (some (zI (bZ i))) (zup s 54 ((wst i).1 : Nat) (fil27 (wst i).2.1 (6 - (wst i).2.2))) (by omega) (by omega) (fun k => by
            rw [wrw_s c2_q]
            unfold rup
            by_cases e : k = ((wst i).1 : Nat)
            · rw [if_pos e, e, zup_s]
            · rw [if_neg e, zup_n (by omega)]
              exact hE k) (fun a k h => by rw [zup_n (by omega)]; exact hF a k h)
          rw [wst_s c2_q] at r
          exact r
  exact lp 116 0 none s0_q (by decide) (by decide) e0_q f0_q
set_option maxHeartbeats 4000000 in
set_option maxRecDepth 20000 in
theorem i_Scanner_53 {Γ : zv_M} {L : Int} {σ : zv_H} {aK aV : Nat} {aF : Int} (hZ : zv_str Γ aK aV aF) (h00_q : ∀ k, 0 ≤ k → σ 53 k = zdf 7 k) : zC Γ m_Scanner_init 5 1 24 (GP L 54) [zR 53, zR 2] σ (zIn L 53 55 σ) := by
  refine zC_of (ls0 := [_, _]) zm_Scanner_init (by decide) rfl (Nat.le_of_ble_eq_true rfl) ?_
  have h0_q : CS L EX 53 ((54 : Nat) : Int) (zdf 7) σ σ := CS_0 h00_q rfl
  refine zaload_n (k := 0) rfl rfl ?_
  refine zobjInit (k := 1) rfl (tin1 237 (by decide +kernel)) (tin1 26 (by decide +kernel)) (tin1 27 (by decide +kernel)) (by decide) rfl (Nat.le_of_ble_eq_true rfl) ?_
  refine zaload_n (k := 2) rfl rfl ?_
  refine zaload_n (k := 3) rfl rfl ?_
  refine qput 0 (k := 4)  rfl ob_53 (by decide) fl_7_9 ⟨_, rfl, rfl⟩ (Or.inr (Or.inr (Or.inr (Or.inl ⟨_, rfl⟩)))) True.intro rfl ⟨_, rfl, rfl⟩ h0_q (fun s1_q g1_q => ?_)
  refine zaload_n (k := 5) rfl rfl ?_
  refine zldcS (k := 6) (aK := aK) (tx := TXT) rfl hZ.1 ?_
  refine zcallS (k := 7) (as := [zS aK]) (rest := [zR 53]) rfl (c_wordNumbers (L := L) hZ) fm_Scanner_wordNumbers lk_7_17 rfl rfl (by decide) (Nat.le_of_ble_eq_true rfl) (Nat.le_of_ble_eq_true rfl) (Nat.le_of_ble_eq_true rfl) (fun r G2 s2_q q => ?_)
  obtain ⟨rfl, rfl, q1_q, q2_q⟩ := q
  have g2_q : CS L EX 53 ((55 : Nat) : Int) _ σ s2_q := CS_sub (n := 54) (CS_new g1_q (by decide) q1_q) (fun a a1_q a2_q => by
    have a2_q : a < 55 := a2_q
    have e : a = 54 := by omega
    rw [e]; exact q2_q)
  refine qput 1 (k := 8)  rfl ob_53 (by decide) fl_7_21 ⟨_, rfl, rfl⟩ (Or.inr (Or.inr (Or.inr (Or.inr ⟨_, rfl⟩)))) True.intro rfl ⟨_, rfl, rfl⟩ g2_q (fun s3_q g3_q => ?_)
  refine zreturn (k := 9) rfl rfl rfl ?_
  exact ⟨rfl, rfl, CS_end g3_q ob_53 (by decide +kernel)⟩
set_option maxHeartbeats 4000000 in
set_option maxRecDepth 20000 in
theorem i_Reader_52 {Γ : zv_M} {L : Int} {σ : zv_H} {aK aV : Nat} {aF : Int} (hZ : zv_str Γ aK aV aF) (h00_q : ∀ k, 0 ≤ k → σ 52 k = zdf 4 k) (h17_q : σ 17 12 = 25) : zC Γ m_Reader_init 6 2 33 (GP L 53) [zR 52, zR 2, zR 17] σ (zIn L 52 55 σ) := by
  refine zC_of (ls0 := [_, _, _]) zm_Reader_init (by decide) rfl (Nat.le_of_ble_eq_true rfl) ?_
  have h0_q : CS L EX 52 ((53 : Nat) : Int) (zdf 4) σ σ := CS_0 h00_q rfl
  refine zaload_n (k := 0) rfl rfl ?_
  refine zobjInit (k := 1) rfl (tin1 231 (by decide +kernel)) (tin1 26 (by decide +kernel)) (tin1 27 (by decide +kernel)) (by decide) rfl (Nat.le_of_ble_eq_true rfl) ?_
  refine zaload_n (k := 2) rfl rfl ?_
  refine qnew (k := 3) (ci := 7) (n := 53) (u' := (1, 9)) rfl rfl in_X7 tyX7_ok kd_X7 ob_53 rfl (tin1 232 (by decide +kernel)) (tin1 233 (by decide +kernel)) (tin1 7 (by decide +kernel)) (Nat.le_of_ble_eq_true rfl) (Nat.le_of_ble_eq_true rfl) rfl h0_q (by decide) (fun s1_q g1_q zg1_q fg1_q => ?_)
  refine zdup (k := 4) rfl rfl ?_
  refine zaload_n (k := 5) rfl rfl ?_
  refine qinit (k := 6) (n := 53) (m := 55) (u' := (2, 33)) (as := [zR 2]) rfl (i_Scanner_53 hZ (L := L) zg1_q) fm_Scanner_init lk_4_11 rfl rfl (Nat.le_of_ble_eq_true rfl) (Nat.le_of_ble_eq_true rfl) (Nat.le_of_ble_eq_true rfl) (Nat.le_of_ble_eq_true rfl) rfl rfl g1_q (by decide) (fun _ _ _ _ => rfl) (fun s2_q g2_q => ?_)
  refine qput 0 (k := 7)  rfl ob_52 (by decide) fl_4_14 ⟨_, rfl, rfl⟩ (Or.inr (Or.inr (Or.inr (Or.inl ⟨_, rfl⟩)))) True.intro rfl ⟨_, rfl, rfl⟩ g2_q (fun s3_q g3_q => ?_)
  refine zaload_n (k := 8) rfl rfl ?_
  refine zaload_n (k := 9) rfl rfl ?_
  refine qput 1 (k := 10)  rfl ob_52 (by decide) fl_4_20 ⟨_, rfl, rfl⟩ (Or.inr (Or.inr (Or.inr (Or.inl ⟨_, rfl⟩)))) True.intro rfl ⟨_, rfl, rfl⟩ g3_q (fun s4_q g4_q => ?_)
  refine zaload_n (k := 11) rfl rfl ?_
  refine zaload_n (k := 12) rfl rfl ?_
  refine qgetR (k := 13) (z := 25) (a := 17) rfl ob_17 (by decide) fl_4_24 ((g4_q.1 17 12 (by decide)).trans h17_q) ?_
  refine qput 2 (k := 14)  rfl ob_52 (by decide) fl_4_30 ⟨_, rfl, rfl⟩ (Or.inr (Or.inr (Or.inr (Or.inl ⟨_, rfl⟩)))) True.intro rfl ⟨_, rfl, rfl⟩ g4_q (fun s5_q g5_q => ?_)
  refine zaload_n (k := 15) rfl rfl ?_
  refine ziconst (k := 16) rfl (by decide) ?_
  refine qput 8 (k := 17)  rfl ob_52 (by decide) fl_4_33 ⟨_, rfl, rfl⟩ (Or.inl rfl) True.intro rfl ⟨_, rfl, rfl⟩ g5_q (fun s6_q g6_q => ?_)
  refine zreturn (k := 18) rfl rfl rfl ?_
  exact ⟨rfl, rfl, CS_end g6_q ob_52 (by decide +kernel)⟩
set_option maxHeartbeats 4000000 in
set_option maxRecDepth 20000 in
theorem i_NT_1 {Γ : zv_M} {L : Int} {σ : zv_H} {aK aV : Nat} {aF : Int} (hZ : zv_str Γ aK aV aF) (h00_q : ∀ k, 0 ≤ k → σ 1 k = zdf 11 k) : zC Γ m_NT_init 7 287 12194 (GP L 2) [zR 1] σ (zIn L 1 289 σ) := by
  refine zC_of (ls0 := [_]) zm_NT_init (by decide) rfl (Nat.le_of_ble_eq_true rfl) ?_
  have h0_q : CS L EX 1 ((2 : Nat) : Int) (zdf 11) σ σ := CS_0 h00_q rfl
  refine zaload_n (k := 0) rfl rfl ?_
  refine zobjInit (k := 1) rfl (tin1 25 (by decide +kernel)) (tin1 26 (by decide +kernel)) (tin1 27 (by decide +kernel)) (by decide) rfl (Nat.le_of_ble_eq_true rfl) ?_
  refine zaload_n (k := 2) rfl rfl ?_
  refine qnew (k := 3) (ci := 9) (n := 2) (u' := (1, 2)) rfl rfl in_X9 tyX9_ok kd_X9 ob_2 rfl (tin1 28 (by decide +kernel)) (tin1 29 (by decide +kernel)) (tin1 2 (by decide +kernel)) (Nat.le_of_ble_eq_true rfl) (Nat.le_of_ble_eq_true rfl) rfl h0_q (by decide) (fun s1_q g1_q zg1_q fg1_q => ?_)
  refine zdup (k := 4) rfl rfl ?_
  refine qinit (k := 5) (n := 2) (m := 4) (u' := (2, 1602)) (as := []) rfl (i_Tape_2 (L := L) zg1_q) fm_Tape_init lk_11_9 rfl rfl (Nat.le_of_ble_eq_true rfl) (Nat.le_of_ble_eq_true rfl) (Nat.le_of_ble_eq_true rfl) (Nat.le_of_ble_eq_true rfl) rfl rfl g1_q (by decide) (fun _ _ _ _ => rfl) (fun s2_q g2_q => ?_)
  refine qput 0 (k := 6)  rfl ob_1 (by decide) fl_11_10 ⟨_, rfl, rfl⟩ (Or.inr (Or.inr (Or.inr (Or.inl ⟨_, rfl⟩)))) True.intro rfl ⟨_, rfl, rfl⟩ g2_q (fun s3_q g3_q => ?_)
  refine zaload_n (k := 7) rfl rfl ?_
  refine qnew (k := 8) (ci := 10) (n := 4) (u' := (3, 1617)) rfl rfl in_X10 tyX10_ok kd_X10 ob_4 rfl (tin1 44 (by decide +kernel)) (tin1 45 (by decide +kernel)) (tin1 3 (by decide +kernel)) (Nat.le_of_ble_eq_true rfl) (Nat.le_of_ble_eq_true rfl) rfl g3_q (by decide) (fun s4_q g4_q zg4_q fg4_q => ?_)
  refine zdup (k := 9) rfl rfl ?_
  refine qinit (k := 10) (n := 4) (m := 17) (u' := (15, 4916)) (as := []) rfl (i_War_4 (L := L) zg4_q) fm_War_init lk_11_18 rfl rfl (Nat.le_of_ble_eq_true rfl) (Nat.le_of_ble_eq_true rfl) (Nat.le_of_ble_eq_true rfl) (Nat.le_of_ble_eq_true rfl) rfl rfl g4_q (by decide) (fun _ _ _ _ => rfl) (fun s5_q g5_q => ?_)
  refine qput 8 (k := 11)  rfl ob_1 (by decide) fl_11_19 ⟨_, rfl, rfl⟩ (Or.inr (Or.inr (Or.inr (Or.inl ⟨_, rfl⟩)))) True.intro rfl ⟨_, rfl, rfl⟩ g5_q (fun s6_q g6_q => ?_)
  refine zaload_n (k := 12) rfl rfl ?_
  refine qnew (k := 13) (ci := 10) (n := 17) (u' := (16, 4931)) rfl rfl in_X10 tyX10_ok kd_X10 ob_17 rfl (tin1 44 (by decide +kernel)) (tin1 45 (by decide +kernel)) (tin1 3 (by decide +kernel)) (Nat.le_of_ble_eq_true rfl) (Nat.le_of_ble_eq_true rfl) rfl g6_q (by decide) (fun s7_q g7_q zg7_q fg7_q => ?_)
  refine zdup (k := 14) rfl rfl ?_
  refine qinit (k := 15) (n := 17) (m := 30) (u' := (28, 8230)) (as := []) rfl (i_War_17 (L := L) zg7_q) fm_War_init lk_11_18 rfl rfl (Nat.le_of_ble_eq_true rfl) (Nat.le_of_ble_eq_true rfl) (Nat.le_of_ble_eq_true rfl) (Nat.le_of_ble_eq_true rfl) rfl rfl g7_q (by decide) (fun _ _ _ _ => rfl) (fun s8_q g8_q => ?_)
  refine qput 9 (k := 16)  rfl ob_1 (by decide) fl_11_23 ⟨_, rfl, rfl⟩ (Or.inr (Or.inr (Or.inr (Or.inl ⟨_, rfl⟩)))) True.intro rfl ⟨_, rfl, rfl⟩ g8_q (fun s9_q g9_q => ?_)
  refine zaload_n (k := 17) rfl rfl ?_
  refine qnew (k := 18) (ci := 8) (n := 30) (u' := (29, 8243)) rfl rfl in_X8 tyX8_ok kd_X8 ob_30 rfl (tin1 148 (by decide +kernel)) (tin1 149 (by decide +kernel)) (tin1 5 (by decide +kernel)) (Nat.le_of_ble_eq_true rfl) (Nat.le_of_ble_eq_true rfl) rfl g9_q (by decide) (fun s10_q g10_q zg10_q fg10_q => ?_)
  refine zdup (k := 19) rfl rfl ?_
  refine qinit (k := 20) (n := 30) (m := 41) (u' := (39, 8396)) (as := []) rfl (i_State (n := 30) rfl (by decide) (L := L) zg10_q) fm_State_init lk_11_28 rfl rfl (Nat.le_of_ble_eq_true rfl) (Nat.le_of_ble_eq_true rfl) (Nat.le_of_ble_eq_true rfl) (Nat.le_of_ble_eq_true rfl) rfl rfl g10_q (by decide) (fun _ _ _ _ => rfl) (fun s11_q g11_q => ?_)
  refine qput 6 (k := 21)  rfl ob_1 (by decide) fl_11_29 ⟨_, rfl, rfl⟩ (Or.inr (Or.inr (Or.inr (Or.inl ⟨_, rfl⟩)))) True.intro rfl ⟨_, rfl, rfl⟩ g11_q (fun s12_q g12_q => ?_)
  refine zaload_n (k := 22) rfl rfl ?_
  refine qnew (k := 23) (ci := 8) (n := 41) (u' := (40, 8409)) rfl rfl in_X8 tyX8_ok kd_X8 ob_41 rfl (tin1 148 (by decide +kernel)) (tin1 149 (by decide +kernel)) (tin1 5 (by decide +kernel)) (Nat.le_of_ble_eq_true rfl) (Nat.le_of_ble_eq_true rfl) rfl g12_q (by decide) (fun s13_q g13_q zg13_q fg13_q => ?_)
  refine zdup (k := 24) rfl rfl ?_
  refine qinit (k := 25) (n := 41) (m := 52) (u' := (50, 8562)) (as := []) rfl (i_State (n := 41) rfl (by decide) (L := L) zg13_q) fm_State_init lk_11_28 rfl rfl (Nat.le_of_ble_eq_true rfl) (Nat.le_of_ble_eq_true rfl) (Nat.le_of_ble_eq_true rfl) (Nat.le_of_ble_eq_true rfl) rfl rfl g13_q (by decide) (fun _ _ _ _ => rfl) (fun s14_q g14_q => ?_)
  refine qput 7 (k := 26)  rfl ob_1 (by decide) fl_11_33 ⟨_, rfl, rfl⟩ (Or.inr (Or.inr (Or.inr (Or.inl ⟨_, rfl⟩)))) True.intro rfl ⟨_, rfl, rfl⟩ g14_q (fun s15_q g15_q => ?_)
  refine zaload_n (k := 27) rfl rfl ?_
  refine qnew (k := 28) (ci := 4) (n := 52) (u' := (51, 8571)) rfl rfl in_X4 tyX4_ok kd_X4 ob_52 rfl (tin1 226 (by decide +kernel)) (tin1 227 (by decide +kernel)) (tin1 6 (by decide +kernel)) (Nat.le_of_ble_eq_true rfl) (Nat.le_of_ble_eq_true rfl) rfl g15_q (by decide) (fun s16_q g16_q zg16_q fg16_q => ?_)
  refine zdup (k := 29) rfl rfl ?_
  refine zaload_n (k := 30) rfl rfl ?_
  refine qgetR (k := 31) (z := 2) (a := 1) rfl ob_1 (by decide) fl_11_10 (g16_q.2.1 0 (by decide)) ?_
  refine zaload_n (k := 32) rfl rfl ?_
  refine qgetR (k := 33) (z := 17) (a := 1) rfl ob_1 (by decide) fl_11_23 (g16_q.2.1 9 (by decide)) ?_
  refine qinit (k := 34) (n := 52) (m := 55) (u' := (53, 8604)) (as := [zR 2, zR 17]) rfl (i_Reader_52 hZ (L := L) zg16_q ((g16_q.2.2 17 (by decide) (by decide) _ ob_17 12 (by decide) (by decide)).trans (by decide +kernel))) fm_Reader_init lk_11_38 rfl rfl (Nat.le_of_ble_eq_true rfl) (Nat.le_of_ble_eq_true rfl) (Nat.le_of_ble_eq_true rfl) (Nat.le_of_ble_eq_true rfl) rfl rfl g16_q (by decide) (fun _ _ _ _ => rfl) (fun s17_q g17_q => ?_)
  refine qput 1 (k := 35)  rfl ob_1 (by decide) fl_11_41 ⟨_, rfl, rfl⟩ (Or.inr (Or.inr (Or.inr (Or.inl ⟨_, rfl⟩)))) True.intro rfl ⟨_, rfl, rfl⟩ g17_q (fun s18_q g18_q => ?_)
  refine zaload_n (k := 36) rfl rfl ?_
  refine qnew (k := 37) (ci := 3) (n := 55) (u' := (54, 8605)) rfl rfl in_X3 tyX3_ok kd_X3 ob_55 rfl (tin2 121 (by decide +kernel)) (tin2 122 (by decide +kernel)) (tin1 12 (by decide +kernel)) (Nat.le_of_ble_eq_true rfl) (Nat.le_of_ble_eq_true rfl) rfl g18_q (by decide) (fun s19_q g19_q zg19_q fg19_q => ?_)
  refine zdup (k := 38) rfl rfl ?_
  refine qinit (k := 39) (n := 55) (m := 58) (u' := (56, 8678)) (as := []) rfl (i_March_55 (L := L) zg19_q) fm_March_init lk_11_47 rfl rfl (Nat.le_of_ble_eq_true rfl) (Nat.le_of_ble_eq_true rfl) (Nat.le_of_ble_eq_true rfl) (Nat.le_of_ble_eq_true rfl) rfl rfl g19_q (by decide) (fun _ _ _ _ => rfl) (fun s20_q g20_q => ?_)
  refine qput 2 (k := 40)  rfl ob_1 (by decide) fl_11_48 ⟨_, rfl, rfl⟩ (Or.inr (Or.inr (Or.inr (Or.inl ⟨_, rfl⟩)))) True.intro rfl ⟨_, rfl, rfl⟩ g20_q (fun s21_q g21_q => ?_)
  refine zaload_n (k := 41) rfl rfl ?_
  refine qnew (k := 42) (ci := 6) (n := 58) (u' := (57, 8687)) rfl rfl in_X6 tyX6_ok kd_X6 ob_58 rfl (tin2 173 (by decide +kernel)) (tin2 174 (by decide +kernel)) (tin1 14 (by decide +kernel)) (Nat.le_of_ble_eq_true rfl) (Nat.le_of_ble_eq_true rfl) rfl g21_q (by decide) (fun s22_q g22_q zg22_q fg22_q => ?_)
  refine zdup (k := 43) rfl rfl ?_
  refine zaload_n (k := 44) rfl rfl ?_
  refine qgetR (k := 45) (z := 4) (a := 1) rfl ob_1 (by decide) fl_11_19 (g22_q.2.1 8 (by decide)) ?_
  refine zaload_n (k := 46) rfl rfl ?_
  refine qgetR (k := 47) (z := 30) (a := 1) rfl ob_1 (by decide) fl_11_29 (g22_q.2.1 6 (by decide)) ?_
  refine qinit (k := 48) (n := 58) (m := 62) (u' := (60, 8699)) (as := [zR 4, zR 30]) rfl (i_Rounds_58 (L := L) zg22_q) fm_Rounds_init lk_11_54 rfl rfl (Nat.le_of_ble_eq_true rfl) (Nat.le_of_ble_eq_true rfl) (Nat.le_of_ble_eq_true rfl) (Nat.le_of_ble_eq_true rfl) rfl rfl g22_q (by decide) (fun _ _ _ _ => rfl) (fun s23_q g23_q => ?_)
  refine qput 3 (k := 49)  rfl ob_1 (by decide) fl_11_57 ⟨_, rfl, rfl⟩ (Or.inr (Or.inr (Or.inr (Or.inl ⟨_, rfl⟩)))) True.intro rfl ⟨_, rfl, rfl⟩ g23_q (fun s24_q g24_q => ?_)
  refine zaload_n (k := 50) rfl rfl ?_
  refine qnew (k := 51) (ci := 0) (n := 62) (u' := (61, 8702)) rfl rfl in_X0 tyX0_ok kd_X0 ob_62 rfl (tin2 211 (by decide +kernel)) (tin2 212 (by decide +kernel)) (tin1 15 (by decide +kernel)) (Nat.le_of_ble_eq_true rfl) (Nat.le_of_ble_eq_true rfl) rfl g24_q (by decide) (fun s25_q g25_q zg25_q fg25_q => ?_)
  refine zdup (k := 52) rfl rfl ?_
  refine qinit (k := 53) (n := 62) (m := 284) (u' := (282, 12042)) (as := []) rfl (i_Acts_62 (L := L) zg25_q) fm_Acts_init lk_11_63 rfl rfl (Nat.le_of_ble_eq_true rfl) (Nat.le_of_ble_eq_true rfl) (Nat.le_of_ble_eq_true rfl) (Nat.le_of_ble_eq_true rfl) rfl rfl g25_q (by decide) (fun _ _ _ _ => rfl) (fun s26_q g26_q => ?_)
  refine qput 4 (k := 54)  rfl ob_1 (by decide) fl_11_64 ⟨_, rfl, rfl⟩ (Or.inr (Or.inr (Or.inr (Or.inl ⟨_, rfl⟩)))) True.intro rfl ⟨_, rfl, rfl⟩ g26_q (fun s27_q g27_q => ?_)
  refine zaload_n (k := 55) rfl rfl ?_
  refine qnew (k := 56) (ci := 2) (n := 284) (u' := (283, 12047)) rfl rfl in_X2 tyX2_ok kd_X2 ob_284 rfl (tin2 231 (by decide +kernel)) (tin2 232 (by decide +kernel)) (tin1 16 (by decide +kernel)) (Nat.le_of_ble_eq_true rfl) (Nat.le_of_ble_eq_true rfl) rfl g27_q (by decide) (fun s28_q g28_q zg28_q fg28_q => ?_)
  refine zdup (k := 57) rfl rfl ?_
  refine zaload_n (k := 58) rfl rfl ?_
  refine qgetR (k := 59) (z := 2) (a := 1) rfl ob_1 (by decide) fl_11_10 (g28_q.2.1 0 (by decide)) ?_
  refine qinit (k := 60) (n := 284) (m := 286) (u' := (284, 12156)) (as := [zR 2]) rfl (i_Image_284 (L := L) zg28_q) fm_Image_init lk_11_70 rfl rfl (Nat.le_of_ble_eq_true rfl) (Nat.le_of_ble_eq_true rfl) (Nat.le_of_ble_eq_true rfl) (Nat.le_of_ble_eq_true rfl) rfl rfl g28_q (by decide) (fun _ _ _ _ => rfl) (fun s29_q g29_q => ?_)
  refine qput 5 (k := 61)  rfl ob_1 (by decide) fl_11_73 ⟨_, rfl, rfl⟩ (Or.inr (Or.inr (Or.inr (Or.inl ⟨_, rfl⟩)))) True.intro rfl ⟨_, rfl, rfl⟩ g29_q (fun s30_q g30_q => ?_)
  refine zaload_n (k := 62) rfl rfl ?_
  refine ziconst (k := 63) rfl (by decide) ?_
  refine qput 10 (k := 64)  rfl ob_1 (by decide) fl_11_77 ⟨_, rfl, rfl⟩ (Or.inl rfl) True.intro rfl ⟨_, rfl, rfl⟩ g30_q (fun s31_q g31_q => ?_)
  refine zaload_n (k := 65) rfl rfl ?_
  refine ziconst (k := 66) rfl (by decide) ?_
  refine qput 11 (k := 67)  rfl ob_1 (by decide) fl_11_81 ⟨_, rfl, rfl⟩ (Or.inl rfl) True.intro rfl ⟨_, rfl, rfl⟩ g31_q (fun s32_q g32_q => ?_)
  refine zaload_n (k := 68) rfl rfl ?_
  refine ziconst (k := 69) rfl (by decide) ?_
  refine qput 12 (k := 70)  rfl ob_1 (by decide) fl_11_84 ⟨_, rfl, rfl⟩ (Or.inl rfl) True.intro rfl ⟨_, rfl, rfl⟩ g32_q (fun s33_q g33_q => ?_)
  refine zaload_n (k := 71) rfl rfl ?_
  refine zbipush (k := 72) rfl rfl ?_
  refine qarr (k := 73) (n := 286) (u' := (285, 12172)) rfl rfl (Or.inl rfl) (by decide) ar_286 rfl (EX_ar (L := L) ar_286 (by decide)) (tin1 43 (by decide +kernel)) (Nat.le_of_ble_eq_true rfl) (Nat.le_of_ble_eq_true rfl) rfl g33_q (by decide) (fun s34_q g34_q => ?_)
  refine qput 13 (k := 74)  rfl ob_1 (by decide) fl_11_87 ⟨_, rfl, rfl⟩ (Or.inr (Or.inr (Or.inr (Or.inr ⟨_, rfl⟩)))) True.intro rfl ⟨_, rfl, rfl⟩ g34_q (fun s35_q g35_q => ?_)
  refine zaload_n (k := 75) rfl rfl ?_
  refine zbipush (k := 76) rfl rfl ?_
  refine qarr (k := 77) (n := 287) (u' := (286, 12188)) rfl rfl (Or.inl rfl) (by decide) ar_287 rfl (EX_ar (L := L) ar_287 (by decide)) (tin1 43 (by decide +kernel)) (Nat.le_of_ble_eq_true rfl) (Nat.le_of_ble_eq_true rfl) rfl g35_q (by decide) (fun s36_q g36_q => ?_)
  refine qput 14 (k := 78)  rfl ob_1 (by decide) fl_11_91 ⟨_, rfl, rfl⟩ (Or.inr (Or.inr (Or.inr (Or.inr ⟨_, rfl⟩)))) True.intro rfl ⟨_, rfl, rfl⟩ g36_q (fun s37_q g37_q => ?_)
  refine zaload_n (k := 79) rfl rfl ?_
  refine ziconst (k := 80) rfl (by decide) ?_
  refine qput 15 (k := 81)  rfl ob_1 (by decide) fl_11_94 ⟨_, rfl, rfl⟩ (Or.inl rfl) True.intro rfl ⟨_, rfl, rfl⟩ g37_q (fun s38_q g38_q => ?_)
  refine zaload_n (k := 82) rfl rfl ?_
  refine zbipush (k := 83) rfl rfl ?_
  refine qarr (k := 84) (n := 288) (u' := (287, 12194)) rfl rfl (Or.inl rfl) (by decide) ar_288 rfl (EX_ar (L := L) ar_288 (by decide)) (tin1 43 (by decide +kernel)) (Nat.le_of_ble_eq_true rfl) (Nat.le_of_ble_eq_true rfl) rfl g38_q (by decide) (fun s39_q g39_q => ?_)
  refine qput 16 (k := 85)  rfl ob_1 (by decide) fl_11_97 ⟨_, rfl, rfl⟩ (Or.inr (Or.inr (Or.inr (Or.inr ⟨_, rfl⟩)))) True.intro rfl ⟨_, rfl, rfl⟩ g39_q (fun s40_q g40_q => ?_)
  refine zreturn (k := 86) rfl rfl rfl ?_
  exact ⟨rfl, rfl, CS_end g40_q ob_1 (by decide +kernel)⟩
