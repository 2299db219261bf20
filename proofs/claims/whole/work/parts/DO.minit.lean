/-! THE MODEL'S CONSTRUCTOR -/
/-- behind all constructors -/
def EXF : zv_H := zup (zup (zup (zup (zup (zup EX 302 0 (-1)) 302 1 (-1)) 302 2 (-1)) 302 3 (-1)) 301 0 2) 301 1 2
def zInM (L : Int) (σ : zv_H) : zv_P := fun r G' σ' => r = none ∧ G' = GP L 335 ∧ (∀ a k, a < 289 → σ' a k = σ a k) ∧ ∀ a, 289 ≤ a → a < 335 → Dn L EXF σ' a
theorem CS_endE {L : Int} {E : zv_H} {B n : Int} {R : Int → Int} {σ0 σ : zv_H} {ci : Nat} (h : CS L E B n R σ0 σ) (hs : zv_ob (GM L) B ci) (hR : ∀ j : Nat, j < (((vwCl[ci]?).map (fun r => r.2.2)).getD 0 : Nat) → R j = E B j) : (∀ a k, a < B → σ a k = σ0 a k) ∧ ∀ a, B ≤ a → a < n → Dn L E σ a := by
  refine ⟨h.1, fun a h1_q h2_q => ?_⟩
  by_cases e : a = B
  · rw [e]
    intro sh hs2_q k k0_q k1_q
    have q := hs.symm.trans hs2_q
    cases q
    rw [h.2.1 k k0_q]
    have k1_q : k < (((vwCl[ci]?).map (fun r => r.2.2)).getD 0 : Nat) := k1_q
    have e1_q : ((k.toNat : Nat) : Int) = k := by omega
    rw [← e1_q]
    exact hR k.toNat (by omega)
  · exact h.2.2 a (by omega) h2_q
set_option maxHeartbeats 40000000 in
set_option maxRecDepth 100000 in
theorem i_M {Γ : zv_M} {L : Int} {σ : zv_H} (h00_q : ∀ k, 0 ≤ k → σ 289 k = zdf 12 k) : zC Γ m_M_init 1 45 17158 (GP L 290) [zR 289] σ (zInM L σ) := by
  refine zC_of (ls0 := [_, _]) zm_M_init (by decide) rfl (Nat.le_of_ble_eq_true rfl) ?_
  have h0_q : CS L EX 289 ((290 : Nat) : Int) (zdf 12) σ σ := CS_0 h00_q rfl
  refine zaload_n (k := 0) rfl rfl ?_
  refine zobjInit (k := 1) rfl (tin5 226 (by decide +kernel)) (tin1 26 (by decide +kernel)) (tin1 27 (by decide +kernel)) (by decide) rfl (Nat.le_of_ble_eq_true rfl) ?_
  refine zaload_n (k := 2) rfl rfl ?_
  refine zsipush (k := 3) rfl rfl ?_
  refine qarr (k := 4) (n := 290) (u' := (1, 1800)) rfl rfl (Or.inl rfl) (by decide) ar_290 rfl (EX_ar (L := L) ar_290 (by decide)) (tin1 43 (by decide +kernel)) (Nat.le_of_ble_eq_true rfl) (Nat.le_of_ble_eq_true rfl) rfl h0_q (by decide) (fun s1_q g1_q => ?_)
  refine qput 0 (k := 5)  rfl ob_289 (by decide) fl_12_7 ⟨_, rfl, rfl⟩ (Or.inr (Or.inr (Or.inr (Or.inr ⟨_, rfl⟩)))) True.intro rfl ⟨_, rfl, rfl⟩ g1_q (fun s2_q g2_q => ?_)
  refine zaload_n (k := 6) rfl rfl ?_
  refine ziconst (k := 7) rfl (by decide) ?_
  refine qput 1 (k := 8)  rfl ob_289 (by decide) fl_12_13 ⟨_, rfl, rfl⟩ (Or.inl rfl) True.intro rfl ⟨_, rfl, rfl⟩ g2_q (fun s3_q g3_q => ?_)
  refine zaload_n (k := 9) rfl rfl ?_
  refine ziconst (k := 10) rfl (by decide) ?_
  refine qput 2 (k := 11)  rfl ob_289 (by decide) fl_12_17 ⟨_, rfl, rfl⟩ (Or.inl rfl) True.intro rfl ⟨_, rfl, rfl⟩ g3_q (fun s4_q g4_q => ?_)
  refine zaload_n (k := 12) rfl rfl ?_
  refine ziconst (k := 13) rfl (by decide) ?_
  refine qput 3 (k := 14)  rfl ob_289 (by decide) fl_12_20 ⟨_, rfl, rfl⟩ (Or.inl rfl) True.intro rfl ⟨_, rfl, rfl⟩ g4_q (fun s5_q g5_q => ?_)
  refine zaload_n (k := 15) rfl rfl ?_
  refine ziconst (k := 16) rfl (by decide) ?_
  refine qput 4 (k := 17)  rfl ob_289 (by decide) fl_12_23 ⟨_, rfl, rfl⟩ (Or.inl rfl) True.intro rfl ⟨_, rfl, rfl⟩ g5_q (fun s6_q g6_q => ?_)
  refine zaload_n (k := 18) rfl rfl ?_
  refine ziconst (k := 19) rfl (by decide) ?_
  refine qput 5 (k := 20)  rfl ob_289 (by decide) fl_12_26 ⟨_, rfl, rfl⟩ (Or.inl rfl) True.intro rfl ⟨_, rfl, rfl⟩ g6_q (fun s7_q g7_q => ?_)
  refine zaload_n (k := 21) rfl rfl ?_
  refine ziconst (k := 22) rfl (by decide) ?_
  refine qput 6 (k := 23)  rfl ob_289 (by decide) fl_12_29 ⟨_, rfl, rfl⟩ (Or.inl rfl) True.intro rfl ⟨_, rfl, rfl⟩ g7_q (fun s8_q g8_q => ?_)
  refine zaload_n (k := 24) rfl rfl ?_
  refine zlconst (k := 25) (z := 0) rfl rfl ?_
  refine qput 7 (k := 26)  rfl ob_289 (by decide) fl_12_32 ⟨_, rfl, rfl⟩ (Or.inr (Or.inr (Or.inl rfl))) True.intro rfl ⟨_, rfl, rfl⟩ g8_q (fun s9_q g9_q => ?_)
  refine zaload_n (k := 27) rfl rfl ?_
  refine ziconst (k := 28) rfl (by decide) ?_
  refine qput 8 (k := 29)  rfl ob_289 (by decide) fl_12_36 ⟨_, rfl, rfl⟩ (Or.inl rfl) True.intro rfl ⟨_, rfl, rfl⟩ g9_q (fun s10_q g10_q => ?_)
  refine zaload_n (k := 30) rfl rfl ?_
  refine ziconst (k := 31) rfl (by decide) ?_
  refine qput 9 (k := 32)  rfl ob_289 (by decide) fl_12_39 ⟨_, rfl, rfl⟩ (Or.inl rfl) True.intro rfl ⟨_, rfl, rfl⟩ g10_q (fun s11_q g11_q => ?_)
  refine zaload_n (k := 33) rfl rfl ?_
  refine ziconst (k := 34) rfl (by decide) ?_
  refine qput 10 (k := 35)  rfl ob_289 (by decide) fl_12_42 ⟨_, rfl, rfl⟩ (Or.inl rfl) True.intro rfl ⟨_, rfl, rfl⟩ g11_q (fun s12_q g12_q => ?_)
  refine zaload_n (k := 36) rfl rfl ?_
  refine ziconst (k := 37) rfl (by decide) ?_
  refine qput 11 (k := 38)  rfl ob_289 (by decide) fl_12_45 ⟨_, rfl, rfl⟩ (Or.inl rfl) True.intro rfl ⟨_, rfl, rfl⟩ g12_q (fun s13_q g13_q => ?_)
  refine zaload_n (k := 39) rfl rfl ?_
  refine ziconst (k := 40) rfl (by decide) ?_
  refine qput 12 (k := 41)  rfl ob_289 (by decide) fl_12_48 ⟨_, rfl, rfl⟩ (Or.inl rfl) True.intro rfl ⟨_, rfl, rfl⟩ g13_q (fun s14_q g14_q => ?_)
  refine zaload_n (k := 42) rfl rfl ?_
  refine ziconst (k := 43) rfl (by decide) ?_
  refine qput 13 (k := 44)  rfl ob_289 (by decide) fl_12_51 ⟨_, rfl, rfl⟩ (Or.inl rfl) True.intro rfl ⟨_, rfl, rfl⟩ g14_q (fun s15_q g15_q => ?_)
  refine zaload_n (k := 45) rfl rfl ?_
  refine ziconst (k := 46) rfl (by decide) ?_
  refine qarr (k := 47) (n := 291) (u' := (2, 1802)) rfl rfl (Or.inl rfl) (by decide) ar_291 rfl (EX_ar (L := L) ar_291 (by decide)) (tin1 43 (by decide +kernel)) (Nat.le_of_ble_eq_true rfl) (Nat.le_of_ble_eq_true rfl) rfl g15_q (by decide) (fun s16_q g16_q => ?_)
  refine qput 14 (k := 48)  rfl ob_289 (by decide) fl_12_54 ⟨_, rfl, rfl⟩ (Or.inr (Or.inr (Or.inr (Or.inr ⟨_, rfl⟩)))) True.intro rfl ⟨_, rfl, rfl⟩ g16_q (fun s17_q g17_q => ?_)
  refine zaload_n (k := 49) rfl rfl ?_
  refine zbipush (k := 50) rfl rfl ?_
  refine qarr (k := 51) (n := 292) (u' := (3, 1816)) rfl rfl (Or.inl rfl) (by decide) ar_292 rfl (EX_ar (L := L) ar_292 (by decide)) (tin1 43 (by decide +kernel)) (Nat.le_of_ble_eq_true rfl) (Nat.le_of_ble_eq_true rfl) rfl g17_q (by decide) (fun s18_q g18_q => ?_)
  refine qput 15 (k := 52)  rfl ob_289 (by decide) fl_12_57 ⟨_, rfl, rfl⟩ (Or.inr (Or.inr (Or.inr (Or.inr ⟨_, rfl⟩)))) True.intro rfl ⟨_, rfl, rfl⟩ g18_q (fun s19_q g19_q => ?_)
  refine zaload_n (k := 53) rfl rfl ?_
  refine zbipush (k := 54) rfl rfl ?_
  refine qarr (k := 55) (n := 293) (u' := (4, 1830)) rfl rfl (Or.inl rfl) (by decide) ar_293 rfl (EX_ar (L := L) ar_293 (by decide)) (tin1 43 (by decide +kernel)) (Nat.le_of_ble_eq_true rfl) (Nat.le_of_ble_eq_true rfl) rfl g19_q (by decide) (fun s20_q g20_q => ?_)
  refine qput 16 (k := 56)  rfl ob_289 (by decide) fl_12_60 ⟨_, rfl, rfl⟩ (Or.inr (Or.inr (Or.inr (Or.inr ⟨_, rfl⟩)))) True.intro rfl ⟨_, rfl, rfl⟩ g20_q (fun s21_q g21_q => ?_)
  refine zaload_n (k := 57) rfl rfl ?_
  refine zbipush (k := 58) rfl rfl ?_
  refine qarr (k := 59) (n := 294) (u' := (5, 1844)) rfl rfl (Or.inl rfl) (by decide) ar_294 rfl (EX_ar (L := L) ar_294 (by decide)) (tin1 43 (by decide +kernel)) (Nat.le_of_ble_eq_true rfl) (Nat.le_of_ble_eq_true rfl) rfl g21_q (by decide) (fun s22_q g22_q => ?_)
  refine qput 17 (k := 60)  rfl ob_289 (by decide) fl_12_63 ⟨_, rfl, rfl⟩ (Or.inr (Or.inr (Or.inr (Or.inr ⟨_, rfl⟩)))) True.intro rfl ⟨_, rfl, rfl⟩ g22_q (fun s23_q g23_q => ?_)
  refine zaload_n (k := 61) rfl rfl ?_
  refine ziconst (k := 62) rfl (by decide) ?_
  refine qarr (k := 63) (n := 295) (u' := (6, 1846)) rfl rfl (Or.inl rfl) (by decide) ar_295 rfl (EX_ar (L := L) ar_295 (by decide)) (tin1 43 (by decide +kernel)) (Nat.le_of_ble_eq_true rfl) (Nat.le_of_ble_eq_true rfl) rfl g23_q (by decide) (fun s24_q g24_q => ?_)
  refine qput 18 (k := 64)  rfl ob_289 (by decide) fl_12_66 ⟨_, rfl, rfl⟩ (Or.inr (Or.inr (Or.inr (Or.inr ⟨_, rfl⟩)))) True.intro rfl ⟨_, rfl, rfl⟩ g24_q (fun s25_q g25_q => ?_)
  refine zaload_n (k := 65) rfl rfl ?_
  refine zbipush (k := 66) rfl rfl ?_
  refine qarr (k := 67) (n := 296) (u' := (7, 1944)) rfl rfl (Or.inl rfl) (by decide) ar_296 rfl (EX_ar (L := L) ar_296 (by decide)) (tin1 43 (by decide +kernel)) (Nat.le_of_ble_eq_true rfl) (Nat.le_of_ble_eq_true rfl) rfl g25_q (by decide) (fun s26_q g26_q => ?_)
  refine qput 19 (k := 68)  rfl ob_289 (by decide) fl_12_69 ⟨_, rfl, rfl⟩ (Or.inr (Or.inr (Or.inr (Or.inr ⟨_, rfl⟩)))) True.intro rfl ⟨_, rfl, rfl⟩ g26_q (fun s27_q g27_q => ?_)
  refine zaload_n (k := 69) rfl rfl ?_
  refine zbipush (k := 70) rfl rfl ?_
  refine qarr (k := 71) (n := 297) (u' := (8, 2042)) rfl rfl (Or.inl rfl) (by decide) ar_297 rfl (EX_ar (L := L) ar_297 (by decide)) (tin1 43 (by decide +kernel)) (Nat.le_of_ble_eq_true rfl) (Nat.le_of_ble_eq_true rfl) rfl g27_q (by decide) (fun s28_q g28_q => ?_)
  refine qput 20 (k := 72)  rfl ob_289 (by decide) fl_12_72 ⟨_, rfl, rfl⟩ (Or.inr (Or.inr (Or.inr (Or.inr ⟨_, rfl⟩)))) True.intro rfl ⟨_, rfl, rfl⟩ g28_q (fun s29_q g29_q => ?_)
  refine zaload_n (k := 73) rfl rfl ?_
  refine ziconst (k := 74) rfl (by decide) ?_
  refine qarr (k := 75) (n := 298) (u' := (9, 2044)) rfl rfl (Or.inl rfl) (by decide) ar_298 rfl (EX_ar (L := L) ar_298 (by decide)) (tin1 43 (by decide +kernel)) (Nat.le_of_ble_eq_true rfl) (Nat.le_of_ble_eq_true rfl) rfl g29_q (by decide) (fun s30_q g30_q => ?_)
  refine qput 21 (k := 76)  rfl ob_289 (by decide) fl_12_75 ⟨_, rfl, rfl⟩ (Or.inr (Or.inr (Or.inr (Or.inr ⟨_, rfl⟩)))) True.intro rfl ⟨_, rfl, rfl⟩ g30_q (fun s31_q g31_q => ?_)
  refine zaload_n (k := 77) rfl rfl ?_
  refine zbipush (k := 78) rfl rfl ?_
  refine qarr (k := 79) (n := 299) (u' := (10, 2056)) rfl rfl (Or.inl rfl) (by decide) ar_299 rfl (EX_ar (L := L) ar_299 (by decide)) (tin1 43 (by decide +kernel)) (Nat.le_of_ble_eq_true rfl) (Nat.le_of_ble_eq_true rfl) rfl g31_q (by decide) (fun s32_q g32_q => ?_)
  refine qput 22 (k := 80)  rfl ob_289 (by decide) fl_12_78 ⟨_, rfl, rfl⟩ (Or.inr (Or.inr (Or.inr (Or.inr ⟨_, rfl⟩)))) True.intro rfl ⟨_, rfl, rfl⟩ g32_q (fun s33_q g33_q => ?_)
  refine zaload_n (k := 81) rfl rfl ?_
  refine zbipush (k := 82) rfl rfl ?_
  refine qarr (k := 83) (n := 300) (u' := (11, 2068)) rfl rfl (Or.inl rfl) (by decide) ar_300 rfl (EX_ar (L := L) ar_300 (by decide)) (tin1 43 (by decide +kernel)) (Nat.le_of_ble_eq_true rfl) (Nat.le_of_ble_eq_true rfl) rfl g33_q (by decide) (fun s34_q g34_q => ?_)
  refine qput 23 (k := 84)  rfl ob_289 (by decide) fl_12_81 ⟨_, rfl, rfl⟩ (Or.inr (Or.inr (Or.inr (Or.inr ⟨_, rfl⟩)))) True.intro rfl ⟨_, rfl, rfl⟩ g34_q (fun s35_q g35_q => ?_)
  refine zaload_n (k := 85) rfl rfl ?_
  refine ziconst (k := 86) rfl (by decide) ?_
  refine qarr (k := 87) (n := 301) (u' := (12, 2070)) rfl rfl (Or.inl rfl) (by decide) ar_301 rfl (EX_ar (L := L) ar_301 (by decide)) (tin1 43 (by decide +kernel)) (Nat.le_of_ble_eq_true rfl) (Nat.le_of_ble_eq_true rfl) rfl g35_q (by decide) (fun s36_q g36_q => ?_)
  refine qput 24 (k := 88)  rfl ob_289 (by decide) fl_12_84 ⟨_, rfl, rfl⟩ (Or.inr (Or.inr (Or.inr (Or.inr ⟨_, rfl⟩)))) True.intro rfl ⟨_, rfl, rfl⟩ g36_q (fun s37_q g37_q => ?_)
  refine zaload_n (k := 89) rfl rfl ?_
  refine ziconst (k := 90) rfl (by decide) ?_
  refine qarr (k := 91) (n := 302) (u' := (13, 2074)) rfl rfl (Or.inl rfl) (by decide) ar_302 rfl (EX_ar (L := L) ar_302 (by decide)) (tin1 43 (by decide +kernel)) (Nat.le_of_ble_eq_true rfl) (Nat.le_of_ble_eq_true rfl) rfl g37_q (by decide) (fun s38_q g38_q => ?_)
  refine qput 25 (k := 92)  rfl ob_289 (by decide) fl_12_87 ⟨_, rfl, rfl⟩ (Or.inr (Or.inr (Or.inr (Or.inr ⟨_, rfl⟩)))) True.intro rfl ⟨_, rfl, rfl⟩ g38_q (fun s39_q g39_q => ?_)
  refine zaload_n (k := 93) rfl rfl ?_
  refine ziconst (k := 94) rfl (by decide) ?_
  refine qarr (k := 95) (n := 303) (u' := (14, 2078)) rfl rfl (Or.inl rfl) (by decide) ar_303 rfl (EX_ar (L := L) ar_303 (by decide)) (tin1 43 (by decide +kernel)) (Nat.le_of_ble_eq_true rfl) (Nat.le_of_ble_eq_true rfl) rfl g39_q (by decide) (fun s40_q g40_q => ?_)
  refine qput 26 (k := 96)  rfl ob_289 (by decide) fl_12_90 ⟨_, rfl, rfl⟩ (Or.inr (Or.inr (Or.inr (Or.inr ⟨_, rfl⟩)))) True.intro rfl ⟨_, rfl, rfl⟩ g40_q (fun s41_q g41_q => ?_)
  refine zaload_n (k := 97) rfl rfl ?_
  refine zsipush (k := 98) rfl rfl ?_
  refine qarr (k := 99) (n := 304) (u' := (15, 5278)) rfl rfl (Or.inl rfl) (by decide) ar_304 rfl (EX_ar (L := L) ar_304 (by decide)) (tin1 43 (by decide +kernel)) (Nat.le_of_ble_eq_true rfl) (Nat.le_of_ble_eq_true rfl) rfl g41_q (by decide) (fun s42_q g42_q => ?_)
  refine qput 27 (k := 100)  rfl ob_289 (by decide) fl_12_93 ⟨_, rfl, rfl⟩ (Or.inr (Or.inr (Or.inr (Or.inr ⟨_, rfl⟩)))) True.intro rfl ⟨_, rfl, rfl⟩ g42_q (fun s43_q g43_q => ?_)
  refine zaload_n (k := 101) rfl rfl ?_
  refine zsipush (k := 102) rfl rfl ?_
  refine qarr (k := 103) (n := 305) (u' := (16, 8478)) rfl rfl (Or.inl rfl) (by decide) ar_305 rfl (EX_ar (L := L) ar_305 (by decide)) (tin1 43 (by decide +kernel)) (Nat.le_of_ble_eq_true rfl) (Nat.le_of_ble_eq_true rfl) rfl g43_q (by decide) (fun s44_q g44_q => ?_)
  refine qput 28 (k := 104)  rfl ob_289 (by decide) fl_12_96 ⟨_, rfl, rfl⟩ (Or.inr (Or.inr (Or.inr (Or.inr ⟨_, rfl⟩)))) True.intro rfl ⟨_, rfl, rfl⟩ g44_q (fun s45_q g45_q => ?_)
  refine zaload_n (k := 105) rfl rfl ?_
  refine zbipush (k := 106) rfl rfl ?_
  refine qarr (k := 107) (n := 306) (u' := (17, 8492)) rfl rfl (Or.inr (Or.inr rfl)) (by decide) ar_306 rfl (EX_ar (L := L) ar_306 (by decide)) (tin2 168 (by decide +kernel)) (Nat.le_of_ble_eq_true rfl) (Nat.le_of_ble_eq_true rfl) rfl g45_q (by decide) (fun s46_q g46_q => ?_)
  refine qput 29 (k := 108)  rfl ob_289 (by decide) fl_12_99 ⟨_, rfl, rfl⟩ (Or.inr (Or.inr (Or.inr (Or.inr ⟨_, rfl⟩)))) True.intro rfl ⟨_, rfl, rfl⟩ g46_q (fun s47_q g47_q => ?_)
  refine zaload_n (k := 109) rfl rfl ?_
  refine zbipush (k := 110) rfl rfl ?_
  refine qarr (k := 111) (n := 307) (u' := (18, 8504)) rfl rfl (Or.inr (Or.inr rfl)) (by decide) ar_307 rfl (EX_ar (L := L) ar_307 (by decide)) (tin2 168 (by decide +kernel)) (Nat.le_of_ble_eq_true rfl) (Nat.le_of_ble_eq_true rfl) rfl g47_q (by decide) (fun s48_q g48_q => ?_)
  refine qput 30 (k := 112)  rfl ob_289 (by decide) fl_12_103 ⟨_, rfl, rfl⟩ (Or.inr (Or.inr (Or.inr (Or.inr ⟨_, rfl⟩)))) True.intro rfl ⟨_, rfl, rfl⟩ g48_q (fun s49_q g49_q => ?_)
  refine zaload_n (k := 113) rfl rfl ?_
  refine ziconst (k := 114) rfl (by decide) ?_
  refine qput 31 (k := 115)  rfl ob_289 (by decide) fl_12_106 ⟨_, rfl, rfl⟩ (Or.inl rfl) True.intro rfl ⟨_, rfl, rfl⟩ g49_q (fun s50_q g50_q => ?_)
  refine zaload_n (k := 116) rfl rfl ?_
  refine ziconst (k := 117) rfl (by decide) ?_
  refine qput 32 (k := 118)  rfl ob_289 (by decide) fl_12_109 ⟨_, rfl, rfl⟩ (Or.inl rfl) True.intro rfl ⟨_, rfl, rfl⟩ g50_q (fun s51_q g51_q => ?_)
  refine zaload_n (k := 119) rfl rfl ?_
  refine ziconst (k := 120) rfl (by decide) ?_
  refine qput 33 (k := 121)  rfl ob_289 (by decide) fl_12_112 ⟨_, rfl, rfl⟩ (Or.inr (Or.inl rfl)) (Or.inl rfl) rfl ⟨_, rfl, rfl⟩ g51_q (fun s52_q g52_q => ?_)
  refine zaload_n (k := 122) rfl rfl ?_
  refine zbipush (k := 123) rfl rfl ?_
  refine qarr (k := 124) (n := 308) (u' := (19, 8524)) rfl rfl (Or.inl rfl) (by decide) ar_308 rfl (EX_ar (L := L) ar_308 (by decide)) (tin1 43 (by decide +kernel)) (Nat.le_of_ble_eq_true rfl) (Nat.le_of_ble_eq_true rfl) rfl g52_q (by decide) (fun s53_q g53_q => ?_)
  refine qput 34 (k := 125)  rfl ob_289 (by decide) fl_12_116 ⟨_, rfl, rfl⟩ (Or.inr (Or.inr (Or.inr (Or.inr ⟨_, rfl⟩)))) True.intro rfl ⟨_, rfl, rfl⟩ g53_q (fun s54_q g54_q => ?_)
  refine zaload_n (k := 126) rfl rfl ?_
  refine zbipush (k := 127) rfl rfl ?_
  refine qarr (k := 128) (n := 309) (u' := (20, 8544)) rfl rfl (Or.inl rfl) (by decide) ar_309 rfl (EX_ar (L := L) ar_309 (by decide)) (tin1 43 (by decide +kernel)) (Nat.le_of_ble_eq_true rfl) (Nat.le_of_ble_eq_true rfl) rfl g54_q (by decide) (fun s55_q g55_q => ?_)
  refine qput 35 (k := 129)  rfl ob_289 (by decide) fl_12_119 ⟨_, rfl, rfl⟩ (Or.inr (Or.inr (Or.inr (Or.inr ⟨_, rfl⟩)))) True.intro rfl ⟨_, rfl, rfl⟩ g55_q (fun s56_q g56_q => ?_)
  refine zaload_n (k := 130) rfl rfl ?_
  refine zbipush (k := 131) rfl rfl ?_
  refine qarr (k := 132) (n := 310) (u' := (21, 8564)) rfl rfl (Or.inr (Or.inl rfl)) (by decide) ar_310 rfl (EX_ar (L := L) ar_310 (by decide)) (tin6 204 (by decide +kernel)) (Nat.le_of_ble_eq_true rfl) (Nat.le_of_ble_eq_true rfl) rfl g56_q (by decide) (fun s57_q g57_q => ?_)
  refine qput 36 (k := 133)  rfl ob_289 (by decide) fl_12_122 ⟨_, rfl, rfl⟩ (Or.inr (Or.inr (Or.inr (Or.inr ⟨_, rfl⟩)))) True.intro rfl ⟨_, rfl, rfl⟩ g57_q (fun s58_q g58_q => ?_)
  refine zaload_n (k := 134) rfl rfl ?_
  refine zbipush (k := 135) rfl rfl ?_
  refine qarr (k := 136) (n := 311) (u' := (22, 8584)) rfl rfl (Or.inl rfl) (by decide) ar_311 rfl (EX_ar (L := L) ar_311 (by decide)) (tin1 43 (by decide +kernel)) (Nat.le_of_ble_eq_true rfl) (Nat.le_of_ble_eq_true rfl) rfl g58_q (by decide) (fun s59_q g59_q => ?_)
  refine qput 37 (k := 137)  rfl ob_289 (by decide) fl_12_126 ⟨_, rfl, rfl⟩ (Or.inr (Or.inr (Or.inr (Or.inr ⟨_, rfl⟩)))) True.intro rfl ⟨_, rfl, rfl⟩ g59_q (fun s60_q g60_q => ?_)
  refine zaload_n (k := 138) rfl rfl ?_
  refine zbipush (k := 139) rfl rfl ?_
  refine qarr (k := 140) (n := 312) (u' := (23, 8604)) rfl rfl (Or.inl rfl) (by decide) ar_312 rfl (EX_ar (L := L) ar_312 (by decide)) (tin1 43 (by decide +kernel)) (Nat.le_of_ble_eq_true rfl) (Nat.le_of_ble_eq_true rfl) rfl g60_q (by decide) (fun s61_q g61_q => ?_)
  refine qput 38 (k := 141)  rfl ob_289 (by decide) fl_12_129 ⟨_, rfl, rfl⟩ (Or.inr (Or.inr (Or.inr (Or.inr ⟨_, rfl⟩)))) True.intro rfl ⟨_, rfl, rfl⟩ g61_q (fun s62_q g62_q => ?_)
  refine zaload_n (k := 142) rfl rfl ?_
  refine ziconst (k := 143) rfl (by decide) ?_
  refine qput 39 (k := 144)  rfl ob_289 (by decide) fl_12_132 ⟨_, rfl, rfl⟩ (Or.inl rfl) True.intro rfl ⟨_, rfl, rfl⟩ g62_q (fun s63_q g63_q => ?_)
  refine zaload_n (k := 145) rfl rfl ?_
  refine ziconst (k := 146) rfl (by decide) ?_
  refine qput 40 (k := 147)  rfl ob_289 (by decide) fl_12_135 ⟨_, rfl, rfl⟩ (Or.inl rfl) True.intro rfl ⟨_, rfl, rfl⟩ g63_q (fun s64_q g64_q => ?_)
  refine zaload_n (k := 148) rfl rfl ?_
  refine zsipush (k := 149) rfl rfl ?_
  refine qarr (k := 150) (n := 313) (u' := (24, 9104)) rfl rfl (Or.inl rfl) (by decide) ar_313 rfl (EX_ar (L := L) ar_313 (by decide)) (tin1 43 (by decide +kernel)) (Nat.le_of_ble_eq_true rfl) (Nat.le_of_ble_eq_true rfl) rfl g64_q (by decide) (fun s65_q g65_q => ?_)
  refine qput 41 (k := 151)  rfl ob_289 (by decide) fl_12_138 ⟨_, rfl, rfl⟩ (Or.inr (Or.inr (Or.inr (Or.inr ⟨_, rfl⟩)))) True.intro rfl ⟨_, rfl, rfl⟩ g65_q (fun s66_q g66_q => ?_)
  refine zaload_n (k := 152) rfl rfl ?_
  refine ziconst (k := 153) rfl (by decide) ?_
  refine qput 42 (k := 154)  rfl ob_289 (by decide) fl_12_141 ⟨_, rfl, rfl⟩ (Or.inl rfl) True.intro rfl ⟨_, rfl, rfl⟩ g66_q (fun s67_q g67_q => ?_)
  refine zaload_n (k := 155) rfl rfl ?_
  refine ziconst (k := 156) rfl (by decide) ?_
  refine qput 43 (k := 157)  rfl ob_289 (by decide) fl_12_144 ⟨_, rfl, rfl⟩ (Or.inr (Or.inl rfl)) (Or.inl rfl) rfl ⟨_, rfl, rfl⟩ g67_q (fun s68_q g68_q => ?_)
  refine zaload_n (k := 158) rfl rfl ?_
  refine zbipush (k := 159) rfl rfl ?_
  refine qarr (k := 160) (n := 314) (u' := (25, 9110)) rfl rfl (Or.inl rfl) (by decide) ar_314 rfl (EX_ar (L := L) ar_314 (by decide)) (tin1 43 (by decide +kernel)) (Nat.le_of_ble_eq_true rfl) (Nat.le_of_ble_eq_true rfl) rfl g68_q (by decide) (fun s69_q g69_q => ?_)
  refine qput 44 (k := 161)  rfl ob_289 (by decide) fl_12_147 ⟨_, rfl, rfl⟩ (Or.inr (Or.inr (Or.inr (Or.inr ⟨_, rfl⟩)))) True.intro rfl ⟨_, rfl, rfl⟩ g69_q (fun s70_q g70_q => ?_)
  refine zaload_n (k := 162) rfl rfl ?_
  refine zbipush (k := 163) rfl rfl ?_
  refine qarr (k := 164) (n := 315) (u' := (26, 9132)) rfl rfl (Or.inl rfl) (by decide) ar_315 rfl (EX_ar (L := L) ar_315 (by decide)) (tin1 43 (by decide +kernel)) (Nat.le_of_ble_eq_true rfl) (Nat.le_of_ble_eq_true rfl) rfl g70_q (by decide) (fun s71_q g71_q => ?_)
  refine qput 45 (k := 165)  rfl ob_289 (by decide) fl_12_150 ⟨_, rfl, rfl⟩ (Or.inr (Or.inr (Or.inr (Or.inr ⟨_, rfl⟩)))) True.intro rfl ⟨_, rfl, rfl⟩ g71_q (fun s72_q g72_q => ?_)
  refine zaload_n (k := 166) rfl rfl ?_
  refine zsipush (k := 167) rfl rfl ?_
  refine qarr (k := 168) (n := 316) (u' := (27, 9286)) rfl rfl (Or.inl rfl) (by decide) ar_316 rfl (EX_ar (L := L) ar_316 (by decide)) (tin1 43 (by decide +kernel)) (Nat.le_of_ble_eq_true rfl) (Nat.le_of_ble_eq_true rfl) rfl g72_q (by decide) (fun s73_q g73_q => ?_)
  refine qput 46 (k := 169)  rfl ob_289 (by decide) fl_12_153 ⟨_, rfl, rfl⟩ (Or.inr (Or.inr (Or.inr (Or.inr ⟨_, rfl⟩)))) True.intro rfl ⟨_, rfl, rfl⟩ g73_q (fun s74_q g74_q => ?_)
  refine zaload_n (k := 170) rfl rfl ?_
  refine zsipush (k := 171) rfl rfl ?_
  refine qarr (k := 172) (n := 317) (u' := (28, 9440)) rfl rfl (Or.inl rfl) (by decide) ar_317 rfl (EX_ar (L := L) ar_317 (by decide)) (tin1 43 (by decide +kernel)) (Nat.le_of_ble_eq_true rfl) (Nat.le_of_ble_eq_true rfl) rfl g74_q (by decide) (fun s75_q g75_q => ?_)
  refine qput 47 (k := 173)  rfl ob_289 (by decide) fl_12_156 ⟨_, rfl, rfl⟩ (Or.inr (Or.inr (Or.inr (Or.inr ⟨_, rfl⟩)))) True.intro rfl ⟨_, rfl, rfl⟩ g75_q (fun s76_q g76_q => ?_)
  refine zaload_n (k := 174) rfl rfl ?_
  refine zsipush (k := 175) rfl rfl ?_
  refine qarr (k := 176) (n := 318) (u' := (29, 9594)) rfl rfl (Or.inl rfl) (by decide) ar_318 rfl (EX_ar (L := L) ar_318 (by decide)) (tin1 43 (by decide +kernel)) (Nat.le_of_ble_eq_true rfl) (Nat.le_of_ble_eq_true rfl) rfl g76_q (by decide) (fun s77_q g77_q => ?_)
  refine qput 48 (k := 177)  rfl ob_289 (by decide) fl_12_159 ⟨_, rfl, rfl⟩ (Or.inr (Or.inr (Or.inr (Or.inr ⟨_, rfl⟩)))) True.intro rfl ⟨_, rfl, rfl⟩ g77_q (fun s78_q g78_q => ?_)
  refine zaload_n (k := 178) rfl rfl ?_
  refine zsipush (k := 179) rfl rfl ?_
  refine qarr (k := 180) (n := 319) (u' := (30, 9726)) rfl rfl (Or.inl rfl) (by decide) ar_319 rfl (EX_ar (L := L) ar_319 (by decide)) (tin1 43 (by decide +kernel)) (Nat.le_of_ble_eq_true rfl) (Nat.le_of_ble_eq_true rfl) rfl g78_q (by decide) (fun s79_q g79_q => ?_)
  refine qput 49 (k := 181)  rfl ob_289 (by decide) fl_12_162 ⟨_, rfl, rfl⟩ (Or.inr (Or.inr (Or.inr (Or.inr ⟨_, rfl⟩)))) True.intro rfl ⟨_, rfl, rfl⟩ g79_q (fun s80_q g80_q => ?_)
  refine zaload_n (k := 182) rfl rfl ?_
  refine zsipush (k := 183) rfl rfl ?_
  refine qarr (k := 184) (n := 320) (u' := (31, 9858)) rfl rfl (Or.inl rfl) (by decide) ar_320 rfl (EX_ar (L := L) ar_320 (by decide)) (tin1 43 (by decide +kernel)) (Nat.le_of_ble_eq_true rfl) (Nat.le_of_ble_eq_true rfl) rfl g80_q (by decide) (fun s81_q g81_q => ?_)
  refine qput 50 (k := 185)  rfl ob_289 (by decide) fl_12_165 ⟨_, rfl, rfl⟩ (Or.inr (Or.inr (Or.inr (Or.inr ⟨_, rfl⟩)))) True.intro rfl ⟨_, rfl, rfl⟩ g81_q (fun s82_q g82_q => ?_)
  refine zaload_n (k := 186) rfl rfl ?_
  refine zsipush (k := 187) rfl rfl ?_
  refine qarr (k := 188) (n := 321) (u' := (32, 9990)) rfl rfl (Or.inl rfl) (by decide) ar_321 rfl (EX_ar (L := L) ar_321 (by decide)) (tin1 43 (by decide +kernel)) (Nat.le_of_ble_eq_true rfl) (Nat.le_of_ble_eq_true rfl) rfl g82_q (by decide) (fun s83_q g83_q => ?_)
  refine qput 51 (k := 189)  rfl ob_289 (by decide) fl_12_168 ⟨_, rfl, rfl⟩ (Or.inr (Or.inr (Or.inr (Or.inr ⟨_, rfl⟩)))) True.intro rfl ⟨_, rfl, rfl⟩ g83_q (fun s84_q g84_q => ?_)
  refine zaload_n (k := 190) rfl rfl ?_
  refine zsipush (k := 191) rfl rfl ?_
  refine qarr (k := 192) (n := 322) (u' := (33, 10122)) rfl rfl (Or.inl rfl) (by decide) ar_322 rfl (EX_ar (L := L) ar_322 (by decide)) (tin1 43 (by decide +kernel)) (Nat.le_of_ble_eq_true rfl) (Nat.le_of_ble_eq_true rfl) rfl g84_q (by decide) (fun s85_q g85_q => ?_)
  refine qput 52 (k := 193)  rfl ob_289 (by decide) fl_12_171 ⟨_, rfl, rfl⟩ (Or.inr (Or.inr (Or.inr (Or.inr ⟨_, rfl⟩)))) True.intro rfl ⟨_, rfl, rfl⟩ g85_q (fun s86_q g86_q => ?_)
  refine zaload_n (k := 194) rfl rfl ?_
  refine zsipush (k := 195) rfl rfl ?_
  refine qarr (k := 196) (n := 323) (u' := (34, 10254)) rfl rfl (Or.inl rfl) (by decide) ar_323 rfl (EX_ar (L := L) ar_323 (by decide)) (tin1 43 (by decide +kernel)) (Nat.le_of_ble_eq_true rfl) (Nat.le_of_ble_eq_true rfl) rfl g86_q (by decide) (fun s87_q g87_q => ?_)
  refine qput 53 (k := 197)  rfl ob_289 (by decide) fl_12_174 ⟨_, rfl, rfl⟩ (Or.inr (Or.inr (Or.inr (Or.inr ⟨_, rfl⟩)))) True.intro rfl ⟨_, rfl, rfl⟩ g87_q (fun s88_q g88_q => ?_)
  refine zaload_n (k := 198) rfl rfl ?_
  refine zsipush (k := 199) rfl rfl ?_
  refine qarr (k := 200) (n := 324) (u' := (35, 11178)) rfl rfl (Or.inl rfl) (by decide) ar_324 rfl (EX_ar (L := L) ar_324 (by decide)) (tin1 43 (by decide +kernel)) (Nat.le_of_ble_eq_true rfl) (Nat.le_of_ble_eq_true rfl) rfl g88_q (by decide) (fun s89_q g89_q => ?_)
  refine qput 54 (k := 201)  rfl ob_289 (by decide) fl_12_177 ⟨_, rfl, rfl⟩ (Or.inr (Or.inr (Or.inr (Or.inr ⟨_, rfl⟩)))) True.intro rfl ⟨_, rfl, rfl⟩ g89_q (fun s90_q g90_q => ?_)
  refine zaload_n (k := 202) rfl rfl ?_
  refine zbipush (k := 203) rfl rfl ?_
  refine qarr (k := 204) (n := 325) (u' := (36, 11200)) rfl rfl (Or.inl rfl) (by decide) ar_325 rfl (EX_ar (L := L) ar_325 (by decide)) (tin1 43 (by decide +kernel)) (Nat.le_of_ble_eq_true rfl) (Nat.le_of_ble_eq_true rfl) rfl g90_q (by decide) (fun s91_q g91_q => ?_)
  refine qput 55 (k := 205)  rfl ob_289 (by decide) fl_12_180 ⟨_, rfl, rfl⟩ (Or.inr (Or.inr (Or.inr (Or.inr ⟨_, rfl⟩)))) True.intro rfl ⟨_, rfl, rfl⟩ g91_q (fun s92_q g92_q => ?_)
  refine zaload_n (k := 206) rfl rfl ?_
  refine zsipush (k := 207) rfl rfl ?_
  refine qarr (k := 208) (n := 326) (u' := (37, 16480)) rfl rfl (Or.inl rfl) (by decide) ar_326 rfl (EX_ar (L := L) ar_326 (by decide)) (tin1 43 (by decide +kernel)) (Nat.le_of_ble_eq_true rfl) (Nat.le_of_ble_eq_true rfl) rfl g92_q (by decide) (fun s93_q g93_q => ?_)
  refine qput 56 (k := 209)  rfl ob_289 (by decide) fl_12_183 ⟨_, rfl, rfl⟩ (Or.inr (Or.inr (Or.inr (Or.inr ⟨_, rfl⟩)))) True.intro rfl ⟨_, rfl, rfl⟩ g93_q (fun s94_q g94_q => ?_)
  refine zaload_n (k := 210) rfl rfl ?_
  refine ziconst (k := 211) rfl (by decide) ?_
  refine qput 57 (k := 212)  rfl ob_289 (by decide) fl_12_186 ⟨_, rfl, rfl⟩ (Or.inl rfl) True.intro rfl ⟨_, rfl, rfl⟩ g94_q (fun s95_q g95_q => ?_)
  refine zaload_n (k := 213) rfl rfl ?_
  refine ziconst (k := 214) rfl (by decide) ?_
  refine qput 58 (k := 215)  rfl ob_289 (by decide) fl_12_189 ⟨_, rfl, rfl⟩ (Or.inl rfl) True.intro rfl ⟨_, rfl, rfl⟩ g95_q (fun s96_q g96_q => ?_)
  refine zaload_n (k := 216) rfl rfl ?_
  refine zlconst (k := 217) (z := 1) rfl rfl ?_
  refine qput 59 (k := 218)  rfl ob_289 (by decide) fl_12_192 ⟨_, rfl, rfl⟩ (Or.inr (Or.inr (Or.inl rfl))) True.intro rfl ⟨_, rfl, rfl⟩ g96_q (fun s97_q g97_q => ?_)
  refine zaload_n (k := 219) rfl rfl ?_
  refine zsipush (k := 220) rfl rfl ?_
  refine qarr (k := 221) (n := 327) (u' := (38, 16980)) rfl rfl (Or.inr (Or.inr rfl)) (by decide) ar_327 rfl (EX_ar (L := L) ar_327 (by decide)) (tin2 168 (by decide +kernel)) (Nat.le_of_ble_eq_true rfl) (Nat.le_of_ble_eq_true rfl) rfl g97_q (by decide) (fun s98_q g98_q => ?_)
  refine qput 60 (k := 222)  rfl ob_289 (by decide) fl_12_195 ⟨_, rfl, rfl⟩ (Or.inr (Or.inr (Or.inr (Or.inr ⟨_, rfl⟩)))) True.intro rfl ⟨_, rfl, rfl⟩ g98_q (fun s99_q g99_q => ?_)
  refine zaload_n (k := 223) rfl rfl ?_
  refine zbipush (k := 224) rfl rfl ?_
  refine qarr (k := 225) (n := 328) (u' := (39, 16992)) rfl rfl (Or.inl rfl) (by decide) ar_328 rfl (EX_ar (L := L) ar_328 (by decide)) (tin1 43 (by decide +kernel)) (Nat.le_of_ble_eq_true rfl) (Nat.le_of_ble_eq_true rfl) rfl g99_q (by decide) (fun s100_q g100_q => ?_)
  refine qput 61 (k := 226)  rfl ob_289 (by decide) fl_12_198 ⟨_, rfl, rfl⟩ (Or.inr (Or.inr (Or.inr (Or.inr ⟨_, rfl⟩)))) True.intro rfl ⟨_, rfl, rfl⟩ g100_q (fun s101_q g101_q => ?_)
  refine zaload_n (k := 227) rfl rfl ?_
  refine ziconst (k := 228) rfl (by decide) ?_
  refine qput 62 (k := 229)  rfl ob_289 (by decide) fl_12_201 ⟨_, rfl, rfl⟩ (Or.inl rfl) True.intro rfl ⟨_, rfl, rfl⟩ g101_q (fun s102_q g102_q => ?_)
  refine zaload_n (k := 230) rfl rfl ?_
  refine ziconst (k := 231) rfl (by decide) ?_
  refine qarr (k := 232) (n := 329) (u' := (40, 16996)) rfl rfl (Or.inl rfl) (by decide) ar_329 rfl (EX_ar (L := L) ar_329 (by decide)) (tin1 43 (by decide +kernel)) (Nat.le_of_ble_eq_true rfl) (Nat.le_of_ble_eq_true rfl) rfl g102_q (by decide) (fun s103_q g103_q => ?_)
  refine qput 63 (k := 233)  rfl ob_289 (by decide) fl_12_204 ⟨_, rfl, rfl⟩ (Or.inr (Or.inr (Or.inr (Or.inr ⟨_, rfl⟩)))) True.intro rfl ⟨_, rfl, rfl⟩ g103_q (fun s104_q g104_q => ?_)
  refine zaload_n (k := 234) rfl rfl ?_
  refine ziconst (k := 235) rfl (by decide) ?_
  refine qarr (k := 236) (n := 330) (u' := (41, 17000)) rfl rfl (Or.inl rfl) (by decide) ar_330 rfl (EX_ar (L := L) ar_330 (by decide)) (tin1 43 (by decide +kernel)) (Nat.le_of_ble_eq_true rfl) (Nat.le_of_ble_eq_true rfl) rfl g104_q (by decide) (fun s105_q g105_q => ?_)
  refine qput 64 (k := 237)  rfl ob_289 (by decide) fl_12_207 ⟨_, rfl, rfl⟩ (Or.inr (Or.inr (Or.inr (Or.inr ⟨_, rfl⟩)))) True.intro rfl ⟨_, rfl, rfl⟩ g105_q (fun s106_q g106_q => ?_)
  refine zaload_n (k := 238) rfl rfl ?_
  refine zbipush (k := 239) rfl rfl ?_
  refine qarr (k := 240) (n := 331) (u' := (42, 17006)) rfl rfl (Or.inl rfl) (by decide) ar_331 rfl (EX_ar (L := L) ar_331 (by decide)) (tin1 43 (by decide +kernel)) (Nat.le_of_ble_eq_true rfl) (Nat.le_of_ble_eq_true rfl) rfl g106_q (by decide) (fun s107_q g107_q => ?_)
  refine qput 65 (k := 241)  rfl ob_289 (by decide) fl_12_210 ⟨_, rfl, rfl⟩ (Or.inr (Or.inr (Or.inr (Or.inr ⟨_, rfl⟩)))) True.intro rfl ⟨_, rfl, rfl⟩ g107_q (fun s108_q g108_q => ?_)
  refine zaload_n (k := 242) rfl rfl ?_
  refine ziconst (k := 243) rfl (by decide) ?_
  refine qput 66 (k := 244)  rfl ob_289 (by decide) fl_12_213 ⟨_, rfl, rfl⟩ (Or.inl rfl) True.intro rfl ⟨_, rfl, rfl⟩ g108_q (fun s109_q g109_q => ?_)
  refine zaload_n (k := 245) rfl rfl ?_
  refine ziconst (k := 246) rfl (by decide) ?_
  refine qput 67 (k := 247)  rfl ob_289 (by decide) fl_12_216 ⟨_, rfl, rfl⟩ (Or.inl rfl) True.intro rfl ⟨_, rfl, rfl⟩ g109_q (fun s110_q g110_q => ?_)
  refine zaload_n (k := 248) rfl rfl ?_
  refine zbipush (k := 249) rfl rfl ?_
  refine qarr (k := 250) (n := 332) (u' := (43, 17022)) rfl rfl (Or.inl rfl) (by decide) ar_332 rfl (EX_ar (L := L) ar_332 (by decide)) (tin1 43 (by decide +kernel)) (Nat.le_of_ble_eq_true rfl) (Nat.le_of_ble_eq_true rfl) rfl g110_q (by decide) (fun s111_q g111_q => ?_)
  refine qput 68 (k := 251)  rfl ob_289 (by decide) fl_12_219 ⟨_, rfl, rfl⟩ (Or.inr (Or.inr (Or.inr (Or.inr ⟨_, rfl⟩)))) True.intro rfl ⟨_, rfl, rfl⟩ g111_q (fun s112_q g112_q => ?_)
  refine zaload_n (k := 252) rfl rfl ?_
  refine zbipush (k := 253) rfl rfl ?_
  refine qarr (k := 254) (n := 333) (u' := (44, 17038)) rfl rfl (Or.inl rfl) (by decide) ar_333 rfl (EX_ar (L := L) ar_333 (by decide)) (tin1 43 (by decide +kernel)) (Nat.le_of_ble_eq_true rfl) (Nat.le_of_ble_eq_true rfl) rfl g112_q (by decide) (fun s113_q g113_q => ?_)
  refine qput 69 (k := 255)  rfl ob_289 (by decide) fl_12_222 ⟨_, rfl, rfl⟩ (Or.inr (Or.inr (Or.inr (Or.inr ⟨_, rfl⟩)))) True.intro rfl ⟨_, rfl, rfl⟩ g113_q (fun s114_q g114_q => ?_)
  refine zaload_n (k := 256) rfl rfl ?_
  refine zbipush (k := 257) rfl rfl ?_
  refine qarr (k := 258) (n := 334) (u' := (45, 17158)) rfl rfl (Or.inl rfl) (by decide) ar_334 rfl (EX_ar (L := L) ar_334 (by decide)) (tin1 43 (by decide +kernel)) (Nat.le_of_ble_eq_true rfl) (Nat.le_of_ble_eq_true rfl) rfl g114_q (by decide) (fun s115_q g115_q => ?_)
  refine qput 70 (k := 259)  rfl ob_289 (by decide) fl_12_225 ⟨_, rfl, rfl⟩ (Or.inr (Or.inr (Or.inr (Or.inr ⟨_, rfl⟩)))) True.intro rfl ⟨_, rfl, rfl⟩ g115_q (fun s116_q g116_q => ?_)
  refine zaload_n (k := 260) rfl rfl ?_
  refine ziconst (k := 261) rfl (by decide) ?_
  refine qput 71 (k := 262)  rfl ob_289 (by decide) fl_12_228 ⟨_, rfl, rfl⟩ (Or.inl rfl) True.intro rfl ⟨_, rfl, rfl⟩ g116_q (fun s117_q g117_q => ?_)
  refine ziconst (k := 263) rfl (by decide) ?_
  refine zistore_n (k := 264) (ls' := [some (zR 289), some (zI 0)]) rfl (Nat.le_of_ble_eq_true rfl) rfl ?_
  refine ziload_n (k := 265) rfl rfl ?_
  refine ziconst (k := 266) rfl (by decide) ?_
  refine zicmp_ge (k := 267) rfl rfl (fun c1_q => absurd c1_q (by decide)) (fun _ => ?_)
  refine zaload_n (k := 268) rfl rfl ?_
  refine qgetR (k := 269) (z := 302) rfl ob_289 (by decide) fl_12_87 (g117_q.2.1 25 (by decide)) ?_
  refine ziload_n (k := 270) rfl rfl ?_
  refine ziconst (k := 271) rfl (by decide) ?_
  refine ziastore (k := 272) rfl (GP_ar ar_302 (by decide)) (by decide) (by decide) ?_
  have u0_q := CS_up (a := 302) (k := 0) (v := -1) g117_q (by decide)
  refine ziincB (k := 273) (ls' := [some (zR 289), some (zI 1)]) rfl rfl (by decide) (by decide) rfl ?_
  refine zgoto (k := 274) rfl rfl ?_
  refine ziload_n (k := 265) rfl rfl ?_
  refine ziconst (k := 266) rfl (by decide) ?_
  refine zicmp_ge (k := 267) rfl rfl (fun c1_q => absurd c1_q (by decide)) (fun _ => ?_)
  refine zaload_n (k := 268) rfl rfl ?_
  refine qgetR (k := 269) (z := 302) rfl ob_289 (by decide) fl_12_87 (u0_q.2.1 25 (by decide)) ?_
  refine ziload_n (k := 270) rfl rfl ?_
  refine ziconst (k := 271) rfl (by decide) ?_
  refine ziastore (k := 272) rfl (GP_ar ar_302 (by decide)) (by decide) (by decide) ?_
  have u1_q := CS_up (a := 302) (k := 1) (v := -1) u0_q (by decide)
  refine ziincB (k := 273) (ls' := [some (zR 289), some (zI 2)]) rfl rfl (by decide) (by decide) rfl ?_
  refine zgoto (k := 274) rfl rfl ?_
  refine ziload_n (k := 265) rfl rfl ?_
  refine ziconst (k := 266) rfl (by decide) ?_
  refine zicmp_ge (k := 267) rfl rfl (fun c1_q => absurd c1_q (by decide)) (fun _ => ?_)
  refine zaload_n (k := 268) rfl rfl ?_
  refine qgetR (k := 269) (z := 302) rfl ob_289 (by decide) fl_12_87 (u1_q.2.1 25 (by decide)) ?_
  refine ziload_n (k := 270) rfl rfl ?_
  refine ziconst (k := 271) rfl (by decide) ?_
  refine ziastore (k := 272) rfl (GP_ar ar_302 (by decide)) (by decide) (by decide) ?_
  have u2_q := CS_up (a := 302) (k := 2) (v := -1) u1_q (by decide)
  refine ziincB (k := 273) (ls' := [some (zR 289), some (zI 3)]) rfl rfl (by decide) (by decide) rfl ?_
  refine zgoto (k := 274) rfl rfl ?_
  refine ziload_n (k := 265) rfl rfl ?_
  refine ziconst (k := 266) rfl (by decide) ?_
  refine zicmp_ge (k := 267) rfl rfl (fun c1_q => absurd c1_q (by decide)) (fun _ => ?_)
  refine zaload_n (k := 268) rfl rfl ?_
  refine qgetR (k := 269) (z := 302) rfl ob_289 (by decide) fl_12_87 (u2_q.2.1 25 (by decide)) ?_
  refine ziload_n (k := 270) rfl rfl ?_
  refine ziconst (k := 271) rfl (by decide) ?_
  refine ziastore (k := 272) rfl (GP_ar ar_302 (by decide)) (by decide) (by decide) ?_
  have u3_q := CS_up (a := 302) (k := 3) (v := -1) u2_q (by decide)
  refine ziincB (k := 273) (ls' := [some (zR 289), some (zI 4)]) rfl rfl (by decide) (by decide) rfl ?_
  refine zgoto (k := 274) rfl rfl ?_
  refine ziload_n (k := 265) rfl rfl ?_
  refine ziconst (k := 266) rfl (by decide) ?_
  refine zicmp_ge (k := 267) rfl rfl (fun _ => ?_) (fun c1_q => absurd c1_q (by decide))
  refine zaload_n (k := 275) rfl rfl ?_
  refine qgetR (k := 276) (z := 301) rfl ob_289 (by decide) fl_12_84 (u3_q.2.1 24 (by decide)) ?_
  refine ziconst (k := 277) rfl (by decide) ?_
  refine ziconst (k := 278) rfl (by decide) ?_
  refine ziastore (k := 279) rfl (GP_ar ar_301 (by decide)) (by decide) (by decide) ?_
  have v0_q := CS_up (a := 301) (k := 0) (v := 2) u3_q (by decide)
  refine zaload_n (k := 280) rfl rfl ?_
  refine qgetR (k := 281) (z := 301) rfl ob_289 (by decide) fl_12_84 (v0_q.2.1 24 (by decide)) ?_
  refine ziconst (k := 282) rfl (by decide) ?_
  refine ziconst (k := 283) rfl (by decide) ?_
  refine ziastore (k := 284) rfl (GP_ar ar_301 (by decide)) (by decide) (by decide) ?_
  have v1_q := CS_up (a := 301) (k := 1) (v := 2) v0_q (by decide)
  refine zreturn (k := 285) rfl rfl rfl ?_
  exact ⟨rfl, rfl, CS_endE v1_q ob_289 (by decide +kernel)⟩
