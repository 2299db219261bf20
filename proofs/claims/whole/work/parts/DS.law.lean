/-! THE LAW: its loop, call by call -/
def yLaw (nm : String) : zv_Y := (⟨"NineTimesLaw", nm, "([I)Z"⟩, m_law.2)
theorem zm_yLaw (nm : String) : zv_m (yLaw nm) := zm_law
def LL (i : Int) : List (Option zv_A) := [some (zR 0), some (zR 1), some (zR 289), some (zI i)]
section LAWC
variable {Γ : zv_M} {nm : String} {L : Int} {mc ms : Nat} {Q : zv_P} {c : Int → Int} {σ : zv_H} {i : Int}
set_option maxHeartbeats 4000000 in
set_option maxRecDepth 20000 in
theorem lw_feed (hG : GI c σ) (hi : 0 ≤ i ∧ i + 6 ≤ L) (hL : L ≤ 3072) (rg : ∀ j, 0 ≤ j → j < L → -2147483648 ≤ c j ∧ c j ≤ 2147483647) (kk : ∀ σ', GI c σ' → zV Γ (yLaw nm) 130 mc ms Q (GM L) (mc, ms) 1042 (LL i) [] σ') : zV Γ (yLaw nm) 130 mc ms Q (GM L) (mc, ms) 176 (LL i) [] σ := by
  have e0_q : ∀ k, σ 0 k = c k := by
    obtain ⟨_, _, _, _, _, _, _, h, _⟩ := hG
    exact h
  refine zaload_n (k := 22) rfl rfl ?_
  refine zaload_n (k := 23) rfl rfl ?_
  refine ziload_n (k := 24) rfl rfl ?_
  refine ziconst (k := 25) rfl (by decide) ?_
  refine ziaddB (k := 26) rfl (by omega) ?_
  refine ziaload (k := 27) rfl ar_0 ⟨by omega, by omega⟩ ?_
  rw [e0_q]
  refine zaload_n (k := 28) rfl rfl ?_
  refine ziload_n (k := 29) rfl rfl ?_
  refine ziconst (k := 30) rfl (by decide) ?_
  refine ziaddB (k := 31) rfl (by omega) ?_
  refine ziaload (k := 32) rfl ar_0 ⟨by omega, by omega⟩ ?_
  rw [e0_q]
  refine zaload_n (k := 33) rfl rfl ?_
  refine ziload_n (k := 34) rfl rfl ?_
  refine ziconst (k := 35) rfl (by decide) ?_
  refine ziaddB (k := 36) rfl (by omega) ?_
  refine ziaload (k := 37) rfl ar_0 ⟨by omega, by omega⟩ ?_
  rw [e0_q]
  refine zaload_n (k := 38) rfl rfl ?_
  refine ziload_n (k := 39) rfl rfl ?_
  refine ziconst (k := 40) rfl (by decide) ?_
  refine ziaddB (k := 41) rfl (by omega) ?_
  refine ziaload (k := 42) rfl ar_0 ⟨by omega, by omega⟩ ?_
  rw [e0_q]
  refine zaload_n (k := 43) rfl rfl ?_
  refine ziload_n (k := 44) rfl rfl ?_
  refine ziconst (k := 45) rfl (by decide) ?_
  refine ziaddB (k := 46) rfl (by omega) ?_
  refine ziaload (k := 47) rfl ar_0 ⟨by omega, by omega⟩ ?_
  rw [e0_q]
  refine zpVI (k := 48) (as := [zI (c (i + 1)), zI (c (i + 2)), zI (c (i + 3)), zI (c (i + 4)), zI (c (i + 5))]) (rest := []) rfl (gc_feed hG ⟨rg (i + 1) (by omega) (by omega), rg (i + 2) (by omega) (by omega), rg (i + 3) (by omega) (by omega), rg (i + 4) (by omega) (by omega), rg (i + 5) (by omega) (by omega)⟩) fm_NT_feed lk_L_13 rfl rfl ob_1 ⟨_, rfl, rfl⟩ (Nat.le_of_ble_eq_true rfl) (by decide) ⟨Nat.le_refl _, Nat.le_refl _⟩ (fun z σ1 q1_q => ?_)
  obtain ⟨q2_q, q3_q⟩ := q1_q
  have e1_q : ∀ k, σ1 0 k = c k := fun k => (q2_q k).trans (e0_q k)
  refine zaload_n (k := 49) rfl rfl ?_
  refine zaload_n (k := 50) rfl rfl ?_
  refine ziload_n (k := 51) rfl rfl ?_
  refine ziconst (k := 52) rfl (by decide) ?_
  refine ziaddB (k := 53) rfl (by omega) ?_
  refine ziaload (k := 54) rfl ar_0 ⟨by omega, by omega⟩ ?_
  rw [e1_q]
  refine zaload_n (k := 55) rfl rfl ?_
  refine ziload_n (k := 56) rfl rfl ?_
  refine ziconst (k := 57) rfl (by decide) ?_
  refine ziaddB (k := 58) rfl (by omega) ?_
  refine ziaload (k := 59) rfl ar_0 ⟨by omega, by omega⟩ ?_
  rw [e1_q]
  refine zaload_n (k := 60) rfl rfl ?_
  refine ziload_n (k := 61) rfl rfl ?_
  refine ziconst (k := 62) rfl (by decide) ?_
  refine ziaddB (k := 63) rfl (by omega) ?_
  refine ziaload (k := 64) rfl ar_0 ⟨by omega, by omega⟩ ?_
  rw [e1_q]
  refine zaload_n (k := 65) rfl rfl ?_
  refine ziload_n (k := 66) rfl rfl ?_
  refine ziconst (k := 67) rfl (by decide) ?_
  refine ziaddB (k := 68) rfl (by omega) ?_
  refine ziaload (k := 69) rfl ar_0 ⟨by omega, by omega⟩ ?_
  rw [e1_q]
  refine zaload_n (k := 70) rfl rfl ?_
  refine ziload_n (k := 71) rfl rfl ?_
  refine ziconst (k := 72) rfl (by decide) ?_
  refine ziaddB (k := 73) rfl (by omega) ?_
  refine ziaload (k := 74) rfl ar_0 ⟨by omega, by omega⟩ ?_
  rw [e1_q]
  refine zpVI (k := 75) (as := [zI (c (i + 1)), zI (c (i + 2)), zI (c (i + 3)), zI (c (i + 4)), zI (c (i + 5))]) (rest := [zI z]) rfl q3_q fm_M_feed lk_L_17 rfl rfl ob_289 ⟨_, rfl, rfl⟩ (Nat.le_of_ble_eq_true rfl) (by decide) ⟨Nat.le_refl _, Nat.le_refl _⟩ (fun z2_q σ2 q4_q => ?_)
  obtain ⟨rfl, hG2⟩ := q4_q
  exact zicmp_eq (k := 76) rfl rfl (fun _ => kk σ2 hG2) (fun c1_q => absurd rfl c1_q)
set_option maxHeartbeats 4000000 in
set_option maxRecDepth 20000 in
theorem lw_end (hG : GI c σ) (hi : 0 ≤ i ∧ i + 6 ≤ L) (hL : L ≤ 3072) (rg : ∀ j, 0 ≤ j → j < L → -2147483648 ≤ c j ∧ c j ≤ 2147483647) (kk : ∀ σ', GI c σ' → zV Γ (yLaw nm) 130 mc ms Q (GM L) (mc, ms) 1042 (LL i) [] σ') : zV Γ (yLaw nm) 130 mc ms Q (GM L) (mc, ms) 239 (LL i) [] σ := by
  have e0_q : ∀ k, σ 0 k = c k := by
    obtain ⟨_, _, _, _, _, _, _, h, _⟩ := hG
    exact h
  refine zaload_n (k := 79) rfl rfl ?_
  refine zaload_n (k := 80) rfl rfl ?_
  refine ziload_n (k := 81) rfl rfl ?_
  refine ziconst (k := 82) rfl (by decide) ?_
  refine ziaddB (k := 83) rfl (by omega) ?_
  refine ziaload (k := 84) rfl ar_0 ⟨by omega, by omega⟩ ?_
  rw [e0_q]
  refine zpVI (k := 85) (as := [zI (c (i + 1))]) (rest := []) rfl (gc_end hG) fm_NT_end lk_L_18 rfl rfl ob_1 ⟨_, rfl, rfl⟩ (Nat.le_of_ble_eq_true rfl) (by decide) ⟨Nat.le_refl _, Nat.le_refl _⟩ (fun z σ1 q1_q => ?_)
  obtain ⟨q2_q, q3_q⟩ := q1_q
  have e1_q : ∀ k, σ1 0 k = c k := fun k => (q2_q k).trans (e0_q k)
  refine zaload_n (k := 86) rfl rfl ?_
  refine zaload_n (k := 87) rfl rfl ?_
  refine ziload_n (k := 88) rfl rfl ?_
  refine ziconst (k := 89) rfl (by decide) ?_
  refine ziaddB (k := 90) rfl (by omega) ?_
  refine ziaload (k := 91) rfl ar_0 ⟨by omega, by omega⟩ ?_
  rw [e1_q]
  refine zpVI (k := 92) (as := [zI (c (i + 1))]) (rest := [zI z]) rfl q3_q fm_M_end lk_L_22 rfl rfl ob_289 ⟨_, rfl, rfl⟩ (Nat.le_of_ble_eq_true rfl) (by decide) ⟨Nat.le_refl _, Nat.le_refl _⟩ (fun z2_q σ2 q4_q => ?_)
  obtain ⟨rfl, hG2⟩ := q4_q
  exact zicmp_eq (k := 93) rfl rfl (fun _ => kk σ2 hG2) (fun c1_q => absurd rfl c1_q)
set_option maxHeartbeats 4000000 in
set_option maxRecDepth 20000 in
theorem lw_war (hG : GI c σ) (hi : 0 ≤ i ∧ i + 6 ≤ L) (hL : L ≤ 3072) (rg : ∀ j, 0 ≤ j → j < L → -2147483648 ≤ c j ∧ c j ≤ 2147483647) (kk : ∀ σ', GI c σ' → zV Γ (yLaw nm) 130 mc ms Q (GM L) (mc, ms) 1042 (LL i) [] σ') : zV Γ (yLaw nm) 130 mc ms Q (GM L) (mc, ms) 262 (LL i) [] σ := by
  have e0_q : ∀ k, σ 0 k = c k := by
    obtain ⟨_, _, _, _, _, _, _, h, _⟩ := hG
    exact h
  refine zaload_n (k := 96) rfl rfl ?_
  refine zpVI (k := 97) (as := []) (rest := []) rfl (gc_war hG) fm_NT_war lk_L_23 rfl rfl ob_1 ⟨_, rfl, rfl⟩ (Nat.le_of_ble_eq_true rfl) (by decide) ⟨Nat.le_refl _, Nat.le_refl _⟩ (fun z σ1 q1_q => ?_)
  obtain ⟨q2_q, q3_q⟩ := q1_q
  have e1_q : ∀ k, σ1 0 k = c k := fun k => (q2_q k).trans (e0_q k)
  refine zaload_n (k := 98) rfl rfl ?_
  refine zpVI (k := 99) (as := []) (rest := [zI z]) rfl q3_q fm_M_war lk_L_27 rfl rfl ob_289 ⟨_, rfl, rfl⟩ (Nat.le_of_ble_eq_true rfl) (by decide) ⟨Nat.le_refl _, Nat.le_refl _⟩ (fun z2_q σ2 q4_q => ?_)
  obtain ⟨rfl, hG2⟩ := q4_q
  exact zicmp_eq (k := 100) rfl rfl (fun _ => kk σ2 hG2) (fun c1_q => absurd rfl c1_q)
set_option maxHeartbeats 4000000 in
set_option maxRecDepth 20000 in
theorem lw_fault (hG : GI c σ) (hi : 0 ≤ i ∧ i + 6 ≤ L) (hL : L ≤ 3072) (rg : ∀ j, 0 ≤ j → j < L → -2147483648 ≤ c j ∧ c j ≤ 2147483647) (kk : ∀ σ', GI c σ' → zV Γ (yLaw nm) 130 mc ms Q (GM L) (mc, ms) 1042 (LL i) [] σ') : zV Γ (yLaw nm) 130 mc ms Q (GM L) (mc, ms) 275 (LL i) [] σ := by
  have e0_q : ∀ k, σ 0 k = c k := by
    obtain ⟨_, _, _, _, _, _, _, h, _⟩ := hG
    exact h
  refine zaload_n (k := 103) rfl rfl ?_
  refine zaload_n (k := 104) rfl rfl ?_
  refine ziload_n (k := 105) rfl rfl ?_
  refine ziconst (k := 106) rfl (by decide) ?_
  refine ziaddB (k := 107) rfl (by omega) ?_
  refine ziaload (k := 108) rfl ar_0 ⟨by omega, by omega⟩ ?_
  rw [e0_q]
  refine zpVI (k := 109) (as := [zI (c (i + 1))]) (rest := []) rfl (gc_fault hG) fm_NT_fault lk_L_28 rfl rfl ob_1 ⟨_, rfl, rfl⟩ (Nat.le_of_ble_eq_true rfl) (by decide) ⟨Nat.le_refl _, Nat.le_refl _⟩ (fun z σ1 q1_q => ?_)
  obtain ⟨q2_q, q3_q⟩ := q1_q
  have e1_q : ∀ k, σ1 0 k = c k := fun k => (q2_q k).trans (e0_q k)
  refine zaload_n (k := 110) rfl rfl ?_
  refine zaload_n (k := 111) rfl rfl ?_
  refine ziload_n (k := 112) rfl rfl ?_
  refine ziconst (k := 113) rfl (by decide) ?_
  refine ziaddB (k := 114) rfl (by omega) ?_
  refine ziaload (k := 115) rfl ar_0 ⟨by omega, by omega⟩ ?_
  rw [e1_q]
  refine zpVI (k := 116) (as := [zI (c (i + 1))]) (rest := [zI z]) rfl q3_q fm_M_fault lk_L_32 rfl rfl ob_289 ⟨_, rfl, rfl⟩ (Nat.le_of_ble_eq_true rfl) (by decide) ⟨Nat.le_refl _, Nat.le_refl _⟩ (fun z2_q σ2 q4_q => ?_)
  obtain ⟨rfl, hG2⟩ := q4_q
  exact zicmp_eq (k := 117) rfl rfl (fun _ => kk σ2 hG2) (fun c1_q => absurd rfl c1_q)
set_option maxHeartbeats 4000000 in
set_option maxRecDepth 20000 in
theorem lw_has (hG : GI c σ) (hi : 0 ≤ i ∧ i + 6 ≤ L) (hL : L ≤ 3072) (rg : ∀ j, 0 ≤ j → j < L → -2147483648 ≤ c j ∧ c j ≤ 2147483647) (kk : ∀ σ', GI c σ' → zV Γ (yLaw nm) 130 mc ms Q (GM L) (mc, ms) 1042 (LL i) [] σ') : zV Γ (yLaw nm) 130 mc ms Q (GM L) (mc, ms) 298 (LL i) [] σ := by
  have e0_q : ∀ k, σ 0 k = c k := by
    obtain ⟨_, _, _, _, _, _, _, h, _⟩ := hG
    exact h
  refine zaload_n (k := 120) rfl rfl ?_
  refine zaload_n (k := 121) rfl rfl ?_
  refine ziload_n (k := 122) rfl rfl ?_
  refine ziconst (k := 123) rfl (by decide) ?_
  refine ziaddB (k := 124) rfl (by omega) ?_
  refine ziaload (k := 125) rfl ar_0 ⟨by omega, by omega⟩ ?_
  rw [e0_q]
  refine zpVI (k := 126) (as := [zI (c (i + 1))]) (rest := []) rfl (gc_has hG) fm_NT_has lk_L_33 rfl rfl ob_1 ⟨_, rfl, rfl⟩ (Nat.le_of_ble_eq_true rfl) (by decide) ⟨Nat.le_refl _, Nat.le_refl _⟩ (fun z σ1 q1_q => ?_)
  obtain ⟨q2_q, q3_q⟩ := q1_q
  have e1_q : ∀ k, σ1 0 k = c k := fun k => (q2_q k).trans (e0_q k)
  refine zaload_n (k := 127) rfl rfl ?_
  refine zaload_n (k := 128) rfl rfl ?_
  refine ziload_n (k := 129) rfl rfl ?_
  refine ziconst (k := 130) rfl (by decide) ?_
  refine ziaddB (k := 131) rfl (by omega) ?_
  refine ziaload (k := 132) rfl ar_0 ⟨by omega, by omega⟩ ?_
  rw [e1_q]
  refine zpVI (k := 133) (as := [zI (c (i + 1))]) (rest := [zI z]) rfl q3_q fm_M_has lk_L_36 rfl rfl ob_289 ⟨_, rfl, rfl⟩ (Nat.le_of_ble_eq_true rfl) (by decide) ⟨Nat.le_refl _, Nat.le_refl _⟩ (fun z2_q σ2 q4_q => ?_)
  obtain ⟨rfl, hG2⟩ := q4_q
  exact zicmp_eq (k := 134) rfl rfl (fun _ => kk σ2 hG2) (fun c1_q => absurd rfl c1_q)
set_option maxHeartbeats 4000000 in
set_option maxRecDepth 20000 in
theorem lw_letter (hG : GI c σ) (hi : 0 ≤ i ∧ i + 6 ≤ L) (hL : L ≤ 3072) (rg : ∀ j, 0 ≤ j → j < L → -2147483648 ≤ c j ∧ c j ≤ 2147483647) (kk : ∀ σ', GI c σ' → zV Γ (yLaw nm) 130 mc ms Q (GM L) (mc, ms) 1042 (LL i) [] σ') : zV Γ (yLaw nm) 130 mc ms Q (GM L) (mc, ms) 321 (LL i) [] σ := by
  have e0_q : ∀ k, σ 0 k = c k := by
    obtain ⟨_, _, _, _, _, _, _, h, _⟩ := hG
    exact h
  refine zaload_n (k := 137) rfl rfl ?_
  refine zaload_n (k := 138) rfl rfl ?_
  refine ziload_n (k := 139) rfl rfl ?_
  refine ziconst (k := 140) rfl (by decide) ?_
  refine ziaddB (k := 141) rfl (by omega) ?_
  refine ziaload (k := 142) rfl ar_0 ⟨by omega, by omega⟩ ?_
  rw [e0_q]
  refine zaload_n (k := 143) rfl rfl ?_
  refine ziload_n (k := 144) rfl rfl ?_
  refine ziconst (k := 145) rfl (by decide) ?_
  refine ziaddB (k := 146) rfl (by omega) ?_
  refine ziaload (k := 147) rfl ar_0 ⟨by omega, by omega⟩ ?_
  rw [e0_q]
  refine zaload_n (k := 148) rfl rfl ?_
  refine ziload_n (k := 149) rfl rfl ?_
  refine ziconst (k := 150) rfl (by decide) ?_
  refine ziaddB (k := 151) rfl (by omega) ?_
  refine ziaload (k := 152) rfl ar_0 ⟨by omega, by omega⟩ ?_
  rw [e0_q]
  refine zpVI (k := 153) (as := [zI (c (i + 1)), zI (c (i + 2)), zI (c (i + 3))]) (rest := []) rfl (gc_letter hG) fm_NT_letter lk_L_37 rfl rfl ob_1 ⟨_, rfl, rfl⟩ (Nat.le_of_ble_eq_true rfl) (by decide) ⟨Nat.le_refl _, Nat.le_refl _⟩ (fun z σ1 q1_q => ?_)
  obtain ⟨q2_q, q3_q⟩ := q1_q
  have e1_q : ∀ k, σ1 0 k = c k := fun k => (q2_q k).trans (e0_q k)
  refine zaload_n (k := 154) rfl rfl ?_
  refine zaload_n (k := 155) rfl rfl ?_
  refine ziload_n (k := 156) rfl rfl ?_
  refine ziconst (k := 157) rfl (by decide) ?_
  refine ziaddB (k := 158) rfl (by omega) ?_
  refine ziaload (k := 159) rfl ar_0 ⟨by omega, by omega⟩ ?_
  rw [e1_q]
  refine zaload_n (k := 160) rfl rfl ?_
  refine ziload_n (k := 161) rfl rfl ?_
  refine ziconst (k := 162) rfl (by decide) ?_
  refine ziaddB (k := 163) rfl (by omega) ?_
  refine ziaload (k := 164) rfl ar_0 ⟨by omega, by omega⟩ ?_
  rw [e1_q]
  refine zaload_n (k := 165) rfl rfl ?_
  refine ziload_n (k := 166) rfl rfl ?_
  refine ziconst (k := 167) rfl (by decide) ?_
  refine ziaddB (k := 168) rfl (by omega) ?_
  refine ziaload (k := 169) rfl ar_0 ⟨by omega, by omega⟩ ?_
  rw [e1_q]
  refine zpVI (k := 170) (as := [zI (c (i + 1)), zI (c (i + 2)), zI (c (i + 3))]) (rest := [zI z]) rfl q3_q fm_M_letter lk_L_41 rfl rfl ob_289 ⟨_, rfl, rfl⟩ (Nat.le_of_ble_eq_true rfl) (by decide) ⟨Nat.le_refl _, Nat.le_refl _⟩ (fun z2_q σ2 q4_q => ?_)
  obtain ⟨rfl, hG2⟩ := q4_q
  exact zicmp_eq (k := 171) rfl rfl (fun _ => kk σ2 hG2) (fun c1_q => absurd rfl c1_q)
set_option maxHeartbeats 4000000 in
set_option maxRecDepth 20000 in
theorem lw_county (hG : GI c σ) (hi : 0 ≤ i ∧ i + 6 ≤ L) (hL : L ≤ 3072) (rg : ∀ j, 0 ≤ j → j < L → -2147483648 ≤ c j ∧ c j ≤ 2147483647) (kk : ∀ σ', GI c σ' → zV Γ (yLaw nm) 130 mc ms Q (GM L) (mc, ms) 1042 (LL i) [] σ') : zV Γ (yLaw nm) 130 mc ms Q (GM L) (mc, ms) 364 (LL i) [] σ := by
  have e0_q : ∀ k, σ 0 k = c k := by
    obtain ⟨_, _, _, _, _, _, _, h, _⟩ := hG
    exact h
  refine zaload_n (k := 174) rfl rfl ?_
  refine zaload_n (k := 175) rfl rfl ?_
  refine ziload_n (k := 176) rfl rfl ?_
  refine ziconst (k := 177) rfl (by decide) ?_
  refine ziaddB (k := 178) rfl (by omega) ?_
  refine ziaload (k := 179) rfl ar_0 ⟨by omega, by omega⟩ ?_
  rw [e0_q]
  refine zaload_n (k := 180) rfl rfl ?_
  refine ziload_n (k := 181) rfl rfl ?_
  refine ziconst (k := 182) rfl (by decide) ?_
  refine ziaddB (k := 183) rfl (by omega) ?_
  refine ziaload (k := 184) rfl ar_0 ⟨by omega, by omega⟩ ?_
  rw [e0_q]
  refine zpVI (k := 185) (as := [zI (c (i + 1)), zI (c (i + 2))]) (rest := []) rfl (gc_county hG) fm_NT_county lk_L_42 rfl rfl ob_1 ⟨_, rfl, rfl⟩ (Nat.le_of_ble_eq_true rfl) (by decide) ⟨Nat.le_refl _, Nat.le_refl _⟩ (fun z σ1 q1_q => ?_)
  obtain ⟨q2_q, q3_q⟩ := q1_q
  have e1_q : ∀ k, σ1 0 k = c k := fun k => (q2_q k).trans (e0_q k)
  refine zaload_n (k := 186) rfl rfl ?_
  refine zaload_n (k := 187) rfl rfl ?_
  refine ziload_n (k := 188) rfl rfl ?_
  refine ziconst (k := 189) rfl (by decide) ?_
  refine ziaddB (k := 190) rfl (by omega) ?_
  refine ziaload (k := 191) rfl ar_0 ⟨by omega, by omega⟩ ?_
  rw [e1_q]
  refine zaload_n (k := 192) rfl rfl ?_
  refine ziload_n (k := 193) rfl rfl ?_
  refine ziconst (k := 194) rfl (by decide) ?_
  refine ziaddB (k := 195) rfl (by omega) ?_
  refine ziaload (k := 196) rfl ar_0 ⟨by omega, by omega⟩ ?_
  rw [e1_q]
  refine zpVI (k := 197) (as := [zI (c (i + 1)), zI (c (i + 2))]) (rest := [zI z]) rfl q3_q fm_M_county lk_L_46 rfl rfl ob_289 ⟨_, rfl, rfl⟩ (Nat.le_of_ble_eq_true rfl) (by decide) ⟨Nat.le_refl _, Nat.le_refl _⟩ (fun z2_q σ2 q4_q => ?_)
  obtain ⟨rfl, hG2⟩ := q4_q
  exact zicmp_eq (k := 198) rfl rfl (fun _ => kk σ2 hG2) (fun c1_q => absurd rfl c1_q)
set_option maxHeartbeats 4000000 in
set_option maxRecDepth 20000 in
theorem lw_way (hG : GI c σ) (hi : 0 ≤ i ∧ i + 6 ≤ L) (hL : L ≤ 3072) (rg : ∀ j, 0 ≤ j → j < L → -2147483648 ≤ c j ∧ c j ≤ 2147483647) (kk : ∀ σ', GI c σ' → zV Γ (yLaw nm) 130 mc ms Q (GM L) (mc, ms) 1042 (LL i) [] σ') : zV Γ (yLaw nm) 130 mc ms Q (GM L) (mc, ms) 397 (LL i) [] σ := by
  have e0_q : ∀ k, σ 0 k = c k := by
    obtain ⟨_, _, _, _, _, _, _, h, _⟩ := hG
    exact h
  refine zaload_n (k := 201) rfl rfl ?_
  refine zaload_n (k := 202) rfl rfl ?_
  refine ziload_n (k := 203) rfl rfl ?_
  refine ziconst (k := 204) rfl (by decide) ?_
  refine ziaddB (k := 205) rfl (by omega) ?_
  refine ziaload (k := 206) rfl ar_0 ⟨by omega, by omega⟩ ?_
  rw [e0_q]
  refine zaload_n (k := 207) rfl rfl ?_
  refine ziload_n (k := 208) rfl rfl ?_
  refine ziconst (k := 209) rfl (by decide) ?_
  refine ziaddB (k := 210) rfl (by omega) ?_
  refine ziaload (k := 211) rfl ar_0 ⟨by omega, by omega⟩ ?_
  rw [e0_q]
  refine zpVI (k := 212) (as := [zI (c (i + 1)), zI (c (i + 2))]) (rest := []) rfl (gc_way hG) fm_NT_way lk_L_47 rfl rfl ob_1 ⟨_, rfl, rfl⟩ (Nat.le_of_ble_eq_true rfl) (by decide) ⟨Nat.le_refl _, Nat.le_refl _⟩ (fun z σ1 q1_q => ?_)
  obtain ⟨q2_q, q3_q⟩ := q1_q
  have e1_q : ∀ k, σ1 0 k = c k := fun k => (q2_q k).trans (e0_q k)
  refine zaload_n (k := 213) rfl rfl ?_
  refine zaload_n (k := 214) rfl rfl ?_
  refine ziload_n (k := 215) rfl rfl ?_
  refine ziconst (k := 216) rfl (by decide) ?_
  refine ziaddB (k := 217) rfl (by omega) ?_
  refine ziaload (k := 218) rfl ar_0 ⟨by omega, by omega⟩ ?_
  rw [e1_q]
  refine zaload_n (k := 219) rfl rfl ?_
  refine ziload_n (k := 220) rfl rfl ?_
  refine ziconst (k := 221) rfl (by decide) ?_
  refine ziaddB (k := 222) rfl (by omega) ?_
  refine ziaload (k := 223) rfl ar_0 ⟨by omega, by omega⟩ ?_
  rw [e1_q]
  refine zpVI (k := 224) (as := [zI (c (i + 1)), zI (c (i + 2))]) (rest := [zI z]) rfl q3_q fm_M_way lk_L_50 rfl rfl ob_289 ⟨_, rfl, rfl⟩ (Nat.le_of_ble_eq_true rfl) (by decide) ⟨Nat.le_refl _, Nat.le_refl _⟩ (fun z2_q σ2 q4_q => ?_)
  obtain ⟨rfl, hG2⟩ := q4_q
  exact zicmp_eq (k := 225) rfl rfl (fun _ => kk σ2 hG2) (fun c1_q => absurd rfl c1_q)
set_option maxHeartbeats 4000000 in
set_option maxRecDepth 20000 in
theorem lw_man (hG : GI c σ) (hi : 0 ≤ i ∧ i + 6 ≤ L) (hL : L ≤ 3072) (rg : ∀ j, 0 ≤ j → j < L → -2147483648 ≤ c j ∧ c j ≤ 2147483647) (kk : ∀ σ', GI c σ' → zV Γ (yLaw nm) 130 mc ms Q (GM L) (mc, ms) 1042 (LL i) [] σ') : zV Γ (yLaw nm) 130 mc ms Q (GM L) (mc, ms) 430 (LL i) [] σ := by
  have e0_q : ∀ k, σ 0 k = c k := by
    obtain ⟨_, _, _, _, _, _, _, h, _⟩ := hG
    exact h
  refine zaload_n (k := 228) rfl rfl ?_
  refine zaload_n (k := 229) rfl rfl ?_
  refine ziload_n (k := 230) rfl rfl ?_
  refine ziconst (k := 231) rfl (by decide) ?_
  refine ziaddB (k := 232) rfl (by omega) ?_
  refine ziaload (k := 233) rfl ar_0 ⟨by omega, by omega⟩ ?_
  rw [e0_q]
  refine zaload_n (k := 234) rfl rfl ?_
  refine ziload_n (k := 235) rfl rfl ?_
  refine ziconst (k := 236) rfl (by decide) ?_
  refine ziaddB (k := 237) rfl (by omega) ?_
  refine ziaload (k := 238) rfl ar_0 ⟨by omega, by omega⟩ ?_
  rw [e0_q]
  refine zpVI (k := 239) (as := [zI (c (i + 1)), zI (c (i + 2))]) (rest := []) rfl (gc_man hG) fm_NT_man lk_L_51 rfl rfl ob_1 ⟨_, rfl, rfl⟩ (Nat.le_of_ble_eq_true rfl) (by decide) ⟨Nat.le_refl _, Nat.le_refl _⟩ (fun z σ1 q1_q => ?_)
  obtain ⟨q2_q, q3_q⟩ := q1_q
  have e1_q : ∀ k, σ1 0 k = c k := fun k => (q2_q k).trans (e0_q k)
  refine zaload_n (k := 240) rfl rfl ?_
  refine zaload_n (k := 241) rfl rfl ?_
  refine ziload_n (k := 242) rfl rfl ?_
  refine ziconst (k := 243) rfl (by decide) ?_
  refine ziaddB (k := 244) rfl (by omega) ?_
  refine ziaload (k := 245) rfl ar_0 ⟨by omega, by omega⟩ ?_
  rw [e1_q]
  refine zaload_n (k := 246) rfl rfl ?_
  refine ziload_n (k := 247) rfl rfl ?_
  refine ziconst (k := 248) rfl (by decide) ?_
  refine ziaddB (k := 249) rfl (by omega) ?_
  refine ziaload (k := 250) rfl ar_0 ⟨by omega, by omega⟩ ?_
  rw [e1_q]
  refine zpVI (k := 251) (as := [zI (c (i + 1)), zI (c (i + 2))]) (rest := [zI z]) rfl q3_q fm_M_man lk_L_54 rfl rfl ob_289 ⟨_, rfl, rfl⟩ (Nat.le_of_ble_eq_true rfl) (by decide) ⟨Nat.le_refl _, Nat.le_refl _⟩ (fun z2_q σ2 q4_q => ?_)
  obtain ⟨rfl, hG2⟩ := q4_q
  exact zicmp_eq (k := 252) rfl rfl (fun _ => kk σ2 hG2) (fun c1_q => absurd rfl c1_q)
set_option maxHeartbeats 4000000 in
set_option maxRecDepth 20000 in
theorem lw_known (hG : GI c σ) (hi : 0 ≤ i ∧ i + 6 ≤ L) (hL : L ≤ 3072) (rg : ∀ j, 0 ≤ j → j < L → -2147483648 ≤ c j ∧ c j ≤ 2147483647) (kk : ∀ σ', GI c σ' → zV Γ (yLaw nm) 130 mc ms Q (GM L) (mc, ms) 1042 (LL i) [] σ') : zV Γ (yLaw nm) 130 mc ms Q (GM L) (mc, ms) 463 (LL i) [] σ := by
  have e0_q : ∀ k, σ 0 k = c k := by
    obtain ⟨_, _, _, _, _, _, _, h, _⟩ := hG
    exact h
  refine zaload_n (k := 255) rfl rfl ?_
  refine zaload_n (k := 256) rfl rfl ?_
  refine ziload_n (k := 257) rfl rfl ?_
  refine ziconst (k := 258) rfl (by decide) ?_
  refine ziaddB (k := 259) rfl (by omega) ?_
  refine ziaload (k := 260) rfl ar_0 ⟨by omega, by omega⟩ ?_
  rw [e0_q]
  refine zaload_n (k := 261) rfl rfl ?_
  refine ziload_n (k := 262) rfl rfl ?_
  refine ziconst (k := 263) rfl (by decide) ?_
  refine ziaddB (k := 264) rfl (by omega) ?_
  refine ziaload (k := 265) rfl ar_0 ⟨by omega, by omega⟩ ?_
  rw [e0_q]
  refine zpVI (k := 266) (as := [zI (c (i + 1)), zI (c (i + 2))]) (rest := []) rfl (gc_known hG) fm_NT_known lk_L_55 rfl rfl ob_1 ⟨_, rfl, rfl⟩ (Nat.le_of_ble_eq_true rfl) (by decide) ⟨Nat.le_refl _, Nat.le_refl _⟩ (fun z σ1 q1_q => ?_)
  obtain ⟨q2_q, q3_q⟩ := q1_q
  have e1_q : ∀ k, σ1 0 k = c k := fun k => (q2_q k).trans (e0_q k)
  refine zaload_n (k := 267) rfl rfl ?_
  refine zaload_n (k := 268) rfl rfl ?_
  refine ziload_n (k := 269) rfl rfl ?_
  refine ziconst (k := 270) rfl (by decide) ?_
  refine ziaddB (k := 271) rfl (by omega) ?_
  refine ziaload (k := 272) rfl ar_0 ⟨by omega, by omega⟩ ?_
  rw [e1_q]
  refine zaload_n (k := 273) rfl rfl ?_
  refine ziload_n (k := 274) rfl rfl ?_
  refine ziconst (k := 275) rfl (by decide) ?_
  refine ziaddB (k := 276) rfl (by omega) ?_
  refine ziaload (k := 277) rfl ar_0 ⟨by omega, by omega⟩ ?_
  rw [e1_q]
  refine zpVI (k := 278) (as := [zI (c (i + 1)), zI (c (i + 2))]) (rest := [zI z]) rfl q3_q fm_M_known lk_L_58 rfl rfl ob_289 ⟨_, rfl, rfl⟩ (Nat.le_of_ble_eq_true rfl) (by decide) ⟨Nat.le_refl _, Nat.le_refl _⟩ (fun z2_q σ2 q4_q => ?_)
  obtain ⟨rfl, hG2⟩ := q4_q
  exact zicmp_eq (k := 279) rfl rfl (fun _ => kk σ2 hG2) (fun c1_q => absurd rfl c1_q)
set_option maxHeartbeats 4000000 in
set_option maxRecDepth 20000 in
theorem lw_later (hG : GI c σ) (hi : 0 ≤ i ∧ i + 6 ≤ L) (hL : L ≤ 3072) (rg : ∀ j, 0 ≤ j → j < L → -2147483648 ≤ c j ∧ c j ≤ 2147483647) (kk : ∀ σ', GI c σ' → zV Γ (yLaw nm) 130 mc ms Q (GM L) (mc, ms) 1042 (LL i) [] σ') : zV Γ (yLaw nm) 130 mc ms Q (GM L) (mc, ms) 496 (LL i) [] σ := by
  have e0_q : ∀ k, σ 0 k = c k := by
    obtain ⟨_, _, _, _, _, _, _, h, _⟩ := hG
    exact h
  refine zaload_n (k := 282) rfl rfl ?_
  refine zaload_n (k := 283) rfl rfl ?_
  refine ziload_n (k := 284) rfl rfl ?_
  refine ziconst (k := 285) rfl (by decide) ?_
  refine ziaddB (k := 286) rfl (by omega) ?_
  refine ziaload (k := 287) rfl ar_0 ⟨by omega, by omega⟩ ?_
  rw [e0_q]
  refine zaload_n (k := 288) rfl rfl ?_
  refine ziload_n (k := 289) rfl rfl ?_
  refine ziconst (k := 290) rfl (by decide) ?_
  refine ziaddB (k := 291) rfl (by omega) ?_
  refine ziaload (k := 292) rfl ar_0 ⟨by omega, by omega⟩ ?_
  rw [e0_q]
  refine zaload_n (k := 293) rfl rfl ?_
  refine ziload_n (k := 294) rfl rfl ?_
  refine ziconst (k := 295) rfl (by decide) ?_
  refine ziaddB (k := 296) rfl (by omega) ?_
  refine ziaload (k := 297) rfl ar_0 ⟨by omega, by omega⟩ ?_
  rw [e0_q]
  refine zpVI (k := 298) (as := [zI (c (i + 1)), zI (c (i + 2)), zI (c (i + 3))]) (rest := []) rfl (gc_later hG) fm_NT_later lk_L_59 rfl rfl ob_1 ⟨_, rfl, rfl⟩ (Nat.le_of_ble_eq_true rfl) (by decide) ⟨Nat.le_refl _, Nat.le_refl _⟩ (fun z σ1 q1_q => ?_)
  obtain ⟨q2_q, q3_q⟩ := q1_q
  have e1_q : ∀ k, σ1 0 k = c k := fun k => (q2_q k).trans (e0_q k)
  refine zaload_n (k := 299) rfl rfl ?_
  refine zaload_n (k := 300) rfl rfl ?_
  refine ziload_n (k := 301) rfl rfl ?_
  refine ziconst (k := 302) rfl (by decide) ?_
  refine ziaddB (k := 303) rfl (by omega) ?_
  refine ziaload (k := 304) rfl ar_0 ⟨by omega, by omega⟩ ?_
  rw [e1_q]
  refine zaload_n (k := 305) rfl rfl ?_
  refine ziload_n (k := 306) rfl rfl ?_
  refine ziconst (k := 307) rfl (by decide) ?_
  refine ziaddB (k := 308) rfl (by omega) ?_
  refine ziaload (k := 309) rfl ar_0 ⟨by omega, by omega⟩ ?_
  rw [e1_q]
  refine zaload_n (k := 310) rfl rfl ?_
  refine ziload_n (k := 311) rfl rfl ?_
  refine ziconst (k := 312) rfl (by decide) ?_
  refine ziaddB (k := 313) rfl (by omega) ?_
  refine ziaload (k := 314) rfl ar_0 ⟨by omega, by omega⟩ ?_
  rw [e1_q]
  refine zpVI (k := 315) (as := [zI (c (i + 1)), zI (c (i + 2)), zI (c (i + 3))]) (rest := [zI z]) rfl q3_q fm_M_later lk_L_62 rfl rfl ob_289 ⟨_, rfl, rfl⟩ (Nat.le_of_ble_eq_true rfl) (by decide) ⟨Nat.le_refl _, Nat.le_refl _⟩ (fun z2_q σ2 q4_q => ?_)
  obtain ⟨rfl, hG2⟩ := q4_q
  exact zicmp_eq (k := 316) rfl rfl (fun _ => kk σ2 hG2) (fun c1_q => absurd rfl c1_q)
set_option maxHeartbeats 4000000 in
set_option maxRecDepth 20000 in
theorem lw_caught (hG : GI c σ) (hi : 0 ≤ i ∧ i + 6 ≤ L) (hL : L ≤ 3072) (rg : ∀ j, 0 ≤ j → j < L → -2147483648 ≤ c j ∧ c j ≤ 2147483647) (kk : ∀ σ', GI c σ' → zV Γ (yLaw nm) 130 mc ms Q (GM L) (mc, ms) 1042 (LL i) [] σ') : zV Γ (yLaw nm) 130 mc ms Q (GM L) (mc, ms) 539 (LL i) [] σ := by
  have e0_q : ∀ k, σ 0 k = c k := by
    obtain ⟨_, _, _, _, _, _, _, h, _⟩ := hG
    exact h
  refine zaload_n (k := 319) rfl rfl ?_
  refine zaload_n (k := 320) rfl rfl ?_
  refine ziload_n (k := 321) rfl rfl ?_
  refine ziconst (k := 322) rfl (by decide) ?_
  refine ziaddB (k := 323) rfl (by omega) ?_
  refine ziaload (k := 324) rfl ar_0 ⟨by omega, by omega⟩ ?_
  rw [e0_q]
  refine zpVI (k := 325) (as := [zI (c (i + 1))]) (rest := []) rfl (gc_caught hG) fm_NT_caught lk_L_63 rfl rfl ob_1 ⟨_, rfl, rfl⟩ (Nat.le_of_ble_eq_true rfl) (by decide) ⟨Nat.le_refl _, Nat.le_refl _⟩ (fun z σ1 q1_q => ?_)
  obtain ⟨q2_q, q3_q⟩ := q1_q
  have e1_q : ∀ k, σ1 0 k = c k := fun k => (q2_q k).trans (e0_q k)
  refine zaload_n (k := 326) rfl rfl ?_
  refine zaload_n (k := 327) rfl rfl ?_
  refine ziload_n (k := 328) rfl rfl ?_
  refine ziconst (k := 329) rfl (by decide) ?_
  refine ziaddB (k := 330) rfl (by omega) ?_
  refine ziaload (k := 331) rfl ar_0 ⟨by omega, by omega⟩ ?_
  rw [e1_q]
  refine zpVI (k := 332) (as := [zI (c (i + 1))]) (rest := [zI z]) rfl q3_q fm_M_caught lk_L_66 rfl rfl ob_289 ⟨_, rfl, rfl⟩ (Nat.le_of_ble_eq_true rfl) (by decide) ⟨Nat.le_refl _, Nat.le_refl _⟩ (fun z2_q σ2 q4_q => ?_)
  obtain ⟨rfl, hG2⟩ := q4_q
  exact zicmp_eq (k := 333) rfl rfl (fun _ => kk σ2 hG2) (fun c1_q => absurd rfl c1_q)
set_option maxHeartbeats 4000000 in
set_option maxRecDepth 20000 in
theorem lw_filled (hG : GI c σ) (hi : 0 ≤ i ∧ i + 6 ≤ L) (hL : L ≤ 3072) (rg : ∀ j, 0 ≤ j → j < L → -2147483648 ≤ c j ∧ c j ≤ 2147483647) (kk : ∀ σ', GI c σ' → zV Γ (yLaw nm) 130 mc ms Q (GM L) (mc, ms) 1042 (LL i) [] σ') : zV Γ (yLaw nm) 130 mc ms Q (GM L) (mc, ms) 562 (LL i) [] σ := by
  have e0_q : ∀ k, σ 0 k = c k := by
    obtain ⟨_, _, _, _, _, _, _, h, _⟩ := hG
    exact h
  refine zaload_n (k := 336) rfl rfl ?_
  refine zpVI (k := 337) (as := []) (rest := []) rfl (gc_filled hG) fm_NT_filled lk_L_67 rfl rfl ob_1 ⟨_, rfl, rfl⟩ (Nat.le_of_ble_eq_true rfl) (by decide) ⟨Nat.le_refl _, Nat.le_refl _⟩ (fun z σ1 q1_q => ?_)
  obtain ⟨q2_q, q3_q⟩ := q1_q
  have e1_q : ∀ k, σ1 0 k = c k := fun k => (q2_q k).trans (e0_q k)
  refine zaload_n (k := 338) rfl rfl ?_
  refine zpVI (k := 339) (as := []) (rest := [zI z]) rfl q3_q fm_M_filled lk_L_70 rfl rfl ob_289 ⟨_, rfl, rfl⟩ (Nat.le_of_ble_eq_true rfl) (by decide) ⟨Nat.le_refl _, Nat.le_refl _⟩ (fun z2_q σ2 q4_q => ?_)
  obtain ⟨rfl, hG2⟩ := q4_q
  exact zicmp_eq (k := 340) rfl rfl (fun _ => kk σ2 hG2) (fun c1_q => absurd rfl c1_q)
set_option maxHeartbeats 4000000 in
set_option maxRecDepth 20000 in
theorem lw_round (hG : GI c σ) (hi : 0 ≤ i ∧ i + 6 ≤ L) (hL : L ≤ 3072) (rg : ∀ j, 0 ≤ j → j < L → -2147483648 ≤ c j ∧ c j ≤ 2147483647) (kk : ∀ σ', GI c σ' → zV Γ (yLaw nm) 130 mc ms Q (GM L) (mc, ms) 1042 (LL i) [] σ') : zV Γ (yLaw nm) 130 mc ms Q (GM L) (mc, ms) 575 (LL i) [] σ := by
  have e0_q : ∀ k, σ 0 k = c k := by
    obtain ⟨_, _, _, _, _, _, _, h, _⟩ := hG
    exact h
  refine zaload_n (k := 343) rfl rfl ?_
  refine zaload_n (k := 344) rfl rfl ?_
  refine ziload_n (k := 345) rfl rfl ?_
  refine ziconst (k := 346) rfl (by decide) ?_
  refine ziaddB (k := 347) rfl (by omega) ?_
  refine ziaload (k := 348) rfl ar_0 ⟨by omega, by omega⟩ ?_
  rw [e0_q]
  refine zaload_n (k := 349) rfl rfl ?_
  refine ziload_n (k := 350) rfl rfl ?_
  refine ziconst (k := 351) rfl (by decide) ?_
  refine ziaddB (k := 352) rfl (by omega) ?_
  refine ziaload (k := 353) rfl ar_0 ⟨by omega, by omega⟩ ?_
  rw [e0_q]
  refine zpVI (k := 354) (as := [zI (c (i + 1)), zI (c (i + 2))]) (rest := []) rfl (gc_round hG) fm_NT_round lk_L_71 rfl rfl ob_1 ⟨_, rfl, rfl⟩ (Nat.le_of_ble_eq_true rfl) (by decide) ⟨Nat.le_refl _, Nat.le_refl _⟩ (fun z σ1 q1_q => ?_)
  obtain ⟨q2_q, q3_q⟩ := q1_q
  have e1_q : ∀ k, σ1 0 k = c k := fun k => (q2_q k).trans (e0_q k)
  refine zaload_n (k := 355) rfl rfl ?_
  refine zaload_n (k := 356) rfl rfl ?_
  refine ziload_n (k := 357) rfl rfl ?_
  refine ziconst (k := 358) rfl (by decide) ?_
  refine ziaddB (k := 359) rfl (by omega) ?_
  refine ziaload (k := 360) rfl ar_0 ⟨by omega, by omega⟩ ?_
  rw [e1_q]
  refine zaload_n (k := 361) rfl rfl ?_
  refine ziload_n (k := 362) rfl rfl ?_
  refine ziconst (k := 363) rfl (by decide) ?_
  refine ziaddB (k := 364) rfl (by omega) ?_
  refine ziaload (k := 365) rfl ar_0 ⟨by omega, by omega⟩ ?_
  rw [e1_q]
  refine zpVI (k := 366) (as := [zI (c (i + 1)), zI (c (i + 2))]) (rest := [zI z]) rfl q3_q fm_M_round lk_L_74 rfl rfl ob_289 ⟨_, rfl, rfl⟩ (Nat.le_of_ble_eq_true rfl) (by decide) ⟨Nat.le_refl _, Nat.le_refl _⟩ (fun z2_q σ2 q4_q => ?_)
  obtain ⟨rfl, hG2⟩ := q4_q
  exact zicmp_eq (k := 367) rfl rfl (fun _ => kk σ2 hG2) (fun c1_q => absurd rfl c1_q)
set_option maxHeartbeats 4000000 in
set_option maxRecDepth 20000 in
theorem lw_lured (hG : GI c σ) (hi : 0 ≤ i ∧ i + 6 ≤ L) (hL : L ≤ 3072) (rg : ∀ j, 0 ≤ j → j < L → -2147483648 ≤ c j ∧ c j ≤ 2147483647) (kk : ∀ σ', GI c σ' → zV Γ (yLaw nm) 130 mc ms Q (GM L) (mc, ms) 1042 (LL i) [] σ') : zV Γ (yLaw nm) 130 mc ms Q (GM L) (mc, ms) 608 (LL i) [] σ := by
  have e0_q : ∀ k, σ 0 k = c k := by
    obtain ⟨_, _, _, _, _, _, _, h, _⟩ := hG
    exact h
  refine zaload_n (k := 370) rfl rfl ?_
  refine zaload_n (k := 371) rfl rfl ?_
  refine ziload_n (k := 372) rfl rfl ?_
  refine ziconst (k := 373) rfl (by decide) ?_
  refine ziaddB (k := 374) rfl (by omega) ?_
  refine ziaload (k := 375) rfl ar_0 ⟨by omega, by omega⟩ ?_
  rw [e0_q]
  refine zaload_n (k := 376) rfl rfl ?_
  refine ziload_n (k := 377) rfl rfl ?_
  refine ziconst (k := 378) rfl (by decide) ?_
  refine ziaddB (k := 379) rfl (by omega) ?_
  refine ziaload (k := 380) rfl ar_0 ⟨by omega, by omega⟩ ?_
  rw [e0_q]
  refine zpVI (k := 381) (as := [zI (c (i + 1)), zI (c (i + 2))]) (rest := []) rfl (gc_lured hG) fm_NT_lured lk_L_75 rfl rfl ob_1 ⟨_, rfl, rfl⟩ (Nat.le_of_ble_eq_true rfl) (by decide) ⟨Nat.le_refl _, Nat.le_refl _⟩ (fun z σ1 q1_q => ?_)
  obtain ⟨q2_q, q3_q⟩ := q1_q
  have e1_q : ∀ k, σ1 0 k = c k := fun k => (q2_q k).trans (e0_q k)
  refine zaload_n (k := 382) rfl rfl ?_
  refine zaload_n (k := 383) rfl rfl ?_
  refine ziload_n (k := 384) rfl rfl ?_
  refine ziconst (k := 385) rfl (by decide) ?_
  refine ziaddB (k := 386) rfl (by omega) ?_
  refine ziaload (k := 387) rfl ar_0 ⟨by omega, by omega⟩ ?_
  rw [e1_q]
  refine zaload_n (k := 388) rfl rfl ?_
  refine ziload_n (k := 389) rfl rfl ?_
  refine ziconst (k := 390) rfl (by decide) ?_
  refine ziaddB (k := 391) rfl (by omega) ?_
  refine ziaload (k := 392) rfl ar_0 ⟨by omega, by omega⟩ ?_
  rw [e1_q]
  refine zpVI (k := 393) (as := [zI (c (i + 1)), zI (c (i + 2))]) (rest := [zI z]) rfl q3_q fm_M_lured lk_L_78 rfl rfl ob_289 ⟨_, rfl, rfl⟩ (Nat.le_of_ble_eq_true rfl) (by decide) ⟨Nat.le_refl _, Nat.le_refl _⟩ (fun z2_q σ2 q4_q => ?_)
  obtain ⟨rfl, hG2⟩ := q4_q
  exact zicmp_eq (k := 394) rfl rfl (fun _ => kk σ2 hG2) (fun c1_q => absurd rfl c1_q)
set_option maxHeartbeats 4000000 in
set_option maxRecDepth 20000 in
theorem lw_best (hG : GI c σ) (hi : 0 ≤ i ∧ i + 6 ≤ L) (hL : L ≤ 3072) (rg : ∀ j, 0 ≤ j → j < L → -2147483648 ≤ c j ∧ c j ≤ 2147483647) (kk : ∀ σ', GI c σ' → zV Γ (yLaw nm) 130 mc ms Q (GM L) (mc, ms) 1042 (LL i) [] σ') : zV Γ (yLaw nm) 130 mc ms Q (GM L) (mc, ms) 641 (LL i) [] σ := by
  have e0_q : ∀ k, σ 0 k = c k := by
    obtain ⟨_, _, _, _, _, _, _, h, _⟩ := hG
    exact h
  refine zaload_n (k := 397) rfl rfl ?_
  refine zaload_n (k := 398) rfl rfl ?_
  refine ziload_n (k := 399) rfl rfl ?_
  refine ziconst (k := 400) rfl (by decide) ?_
  refine ziaddB (k := 401) rfl (by omega) ?_
  refine ziaload (k := 402) rfl ar_0 ⟨by omega, by omega⟩ ?_
  rw [e0_q]
  refine zaload_n (k := 403) rfl rfl ?_
  refine ziload_n (k := 404) rfl rfl ?_
  refine ziconst (k := 405) rfl (by decide) ?_
  refine ziaddB (k := 406) rfl (by omega) ?_
  refine ziaload (k := 407) rfl ar_0 ⟨by omega, by omega⟩ ?_
  rw [e0_q]
  refine zaload_n (k := 408) rfl rfl ?_
  refine ziload_n (k := 409) rfl rfl ?_
  refine ziconst (k := 410) rfl (by decide) ?_
  refine ziaddB (k := 411) rfl (by omega) ?_
  refine ziaload (k := 412) rfl ar_0 ⟨by omega, by omega⟩ ?_
  rw [e0_q]
  refine zpVI (k := 413) (as := [zI (c (i + 1)), zI (c (i + 2)), zI (c (i + 3))]) (rest := []) rfl (gc_best hG) fm_NT_best lk_L_79 rfl rfl ob_1 ⟨_, rfl, rfl⟩ (Nat.le_of_ble_eq_true rfl) (by decide) ⟨Nat.le_refl _, Nat.le_refl _⟩ (fun z σ1 q1_q => ?_)
  obtain ⟨q2_q, q3_q⟩ := q1_q
  have e1_q : ∀ k, σ1 0 k = c k := fun k => (q2_q k).trans (e0_q k)
  refine zaload_n (k := 414) rfl rfl ?_
  refine zaload_n (k := 415) rfl rfl ?_
  refine ziload_n (k := 416) rfl rfl ?_
  refine ziconst (k := 417) rfl (by decide) ?_
  refine ziaddB (k := 418) rfl (by omega) ?_
  refine ziaload (k := 419) rfl ar_0 ⟨by omega, by omega⟩ ?_
  rw [e1_q]
  refine zaload_n (k := 420) rfl rfl ?_
  refine ziload_n (k := 421) rfl rfl ?_
  refine ziconst (k := 422) rfl (by decide) ?_
  refine ziaddB (k := 423) rfl (by omega) ?_
  refine ziaload (k := 424) rfl ar_0 ⟨by omega, by omega⟩ ?_
  rw [e1_q]
  refine zaload_n (k := 425) rfl rfl ?_
  refine ziload_n (k := 426) rfl rfl ?_
  refine ziconst (k := 427) rfl (by decide) ?_
  refine ziaddB (k := 428) rfl (by omega) ?_
  refine ziaload (k := 429) rfl ar_0 ⟨by omega, by omega⟩ ?_
  rw [e1_q]
  refine zpVI (k := 430) (as := [zI (c (i + 1)), zI (c (i + 2)), zI (c (i + 3))]) (rest := [zI z]) rfl q3_q fm_M_best lk_L_82 rfl rfl ob_289 ⟨_, rfl, rfl⟩ (Nat.le_of_ble_eq_true rfl) (by decide) ⟨Nat.le_refl _, Nat.le_refl _⟩ (fun z2_q σ2 q4_q => ?_)
  obtain ⟨rfl, hG2⟩ := q4_q
  exact zicmp_eq (k := 431) rfl rfl (fun _ => kk σ2 hG2) (fun c1_q => absurd rfl c1_q)
set_option maxHeartbeats 4000000 in
set_option maxRecDepth 20000 in
theorem lw_marks (hG : GI c σ) (hi : 0 ≤ i ∧ i + 6 ≤ L) (hL : L ≤ 3072) (rg : ∀ j, 0 ≤ j → j < L → -2147483648 ≤ c j ∧ c j ≤ 2147483647) (kk : ∀ σ', GI c σ' → zV Γ (yLaw nm) 130 mc ms Q (GM L) (mc, ms) 1042 (LL i) [] σ') : zV Γ (yLaw nm) 130 mc ms Q (GM L) (mc, ms) 684 (LL i) [] σ := by
  have e0_q : ∀ k, σ 0 k = c k := by
    obtain ⟨_, _, _, _, _, _, _, h, _⟩ := hG
    exact h
  refine zaload_n (k := 434) rfl rfl ?_
  refine zpVI (k := 435) (as := []) (rest := []) rfl (gc_marks hG) fm_NT_marks lk_L_83 rfl rfl ob_1 ⟨_, rfl, rfl⟩ (Nat.le_of_ble_eq_true rfl) (by decide) ⟨Nat.le_refl _, Nat.le_refl _⟩ (fun z σ1 q1_q => ?_)
  obtain ⟨q2_q, q3_q⟩ := q1_q
  have e1_q : ∀ k, σ1 0 k = c k := fun k => (q2_q k).trans (e0_q k)
  refine zaload_n (k := 436) rfl rfl ?_
  refine zpVI (k := 437) (as := []) (rest := [zI z]) rfl q3_q fm_M_marks lk_L_86 rfl rfl ob_289 ⟨_, rfl, rfl⟩ (Nat.le_of_ble_eq_true rfl) (by decide) ⟨Nat.le_refl _, Nat.le_refl _⟩ (fun z2_q σ2 q4_q => ?_)
  obtain ⟨rfl, hG2⟩ := q4_q
  exact zicmp_eq (k := 438) rfl rfl (fun _ => kk σ2 hG2) (fun c1_q => absurd rfl c1_q)
set_option maxHeartbeats 4000000 in
set_option maxRecDepth 20000 in
theorem lw_staffed (hG : GI c σ) (hi : 0 ≤ i ∧ i + 6 ≤ L) (hL : L ≤ 3072) (rg : ∀ j, 0 ≤ j → j < L → -2147483648 ≤ c j ∧ c j ≤ 2147483647) (kk : ∀ σ', GI c σ' → zV Γ (yLaw nm) 130 mc ms Q (GM L) (mc, ms) 1042 (LL i) [] σ') : zV Γ (yLaw nm) 130 mc ms Q (GM L) (mc, ms) 697 (LL i) [] σ := by
  have e0_q : ∀ k, σ 0 k = c k := by
    obtain ⟨_, _, _, _, _, _, _, h, _⟩ := hG
    exact h
  refine zaload_n (k := 441) rfl rfl ?_
  refine zaload_n (k := 442) rfl rfl ?_
  refine ziload_n (k := 443) rfl rfl ?_
  refine ziconst (k := 444) rfl (by decide) ?_
  refine ziaddB (k := 445) rfl (by omega) ?_
  refine ziaload (k := 446) rfl ar_0 ⟨by omega, by omega⟩ ?_
  rw [e0_q]
  refine zpVI (k := 447) (as := [zI (c (i + 1))]) (rest := []) rfl (gc_staffed hG) fm_NT_staffed lk_L_87 rfl rfl ob_1 ⟨_, rfl, rfl⟩ (Nat.le_of_ble_eq_true rfl) (by decide) ⟨Nat.le_refl _, Nat.le_refl _⟩ (fun z σ1 q1_q => ?_)
  obtain ⟨q2_q, q3_q⟩ := q1_q
  have e1_q : ∀ k, σ1 0 k = c k := fun k => (q2_q k).trans (e0_q k)
  refine zaload_n (k := 448) rfl rfl ?_
  refine zaload_n (k := 449) rfl rfl ?_
  refine ziload_n (k := 450) rfl rfl ?_
  refine ziconst (k := 451) rfl (by decide) ?_
  refine ziaddB (k := 452) rfl (by omega) ?_
  refine ziaload (k := 453) rfl ar_0 ⟨by omega, by omega⟩ ?_
  rw [e1_q]
  refine zpVI (k := 454) (as := [zI (c (i + 1))]) (rest := [zI z]) rfl q3_q fm_M_staffed lk_L_90 rfl rfl ob_289 ⟨_, rfl, rfl⟩ (Nat.le_of_ble_eq_true rfl) (by decide) ⟨Nat.le_refl _, Nat.le_refl _⟩ (fun z2_q σ2 q4_q => ?_)
  obtain ⟨rfl, hG2⟩ := q4_q
  exact zicmp_eq (k := 455) rfl rfl (fun _ => kk σ2 hG2) (fun c1_q => absurd rfl c1_q)
set_option maxHeartbeats 4000000 in
set_option maxRecDepth 20000 in
theorem lw_see (hG : GI c σ) (hi : 0 ≤ i ∧ i + 6 ≤ L) (hL : L ≤ 3072) (rg : ∀ j, 0 ≤ j → j < L → -2147483648 ≤ c j ∧ c j ≤ 2147483647) (kk : ∀ σ', GI c σ' → zV Γ (yLaw nm) 130 mc ms Q (GM L) (mc, ms) 1042 (LL i) [] σ') : zV Γ (yLaw nm) 130 mc ms Q (GM L) (mc, ms) 720 (LL i) [] σ := by
  have e0_q : ∀ k, σ 0 k = c k := by
    obtain ⟨_, _, _, _, _, _, _, h, _⟩ := hG
    exact h
  refine zaload_n (k := 458) rfl rfl ?_
  refine zpVI (k := 459) (as := []) (rest := []) rfl (gc_see hG) fm_NT_see lk_L_91 rfl rfl ob_1 ⟨_, rfl, rfl⟩ (Nat.le_of_ble_eq_true rfl) (by decide) ⟨Nat.le_refl _, Nat.le_refl _⟩ (fun z σ1 q1_q => ?_)
  obtain ⟨q2_q, q3_q⟩ := q1_q
  have e1_q : ∀ k, σ1 0 k = c k := fun k => (q2_q k).trans (e0_q k)
  refine zaload_n (k := 460) rfl rfl ?_
  refine zpVI (k := 461) (as := []) (rest := [zI z]) rfl q3_q fm_M_see lk_L_94 rfl rfl ob_289 ⟨_, rfl, rfl⟩ (Nat.le_of_ble_eq_true rfl) (by decide) ⟨Nat.le_refl _, Nat.le_refl _⟩ (fun z2_q σ2 q4_q => ?_)
  obtain ⟨rfl, hG2⟩ := q4_q
  exact zicmp_eq (k := 462) rfl rfl (fun _ => kk σ2 hG2) (fun c1_q => absurd rfl c1_q)
set_option maxHeartbeats 4000000 in
set_option maxRecDepth 20000 in
theorem lw_who (hG : GI c σ) (hi : 0 ≤ i ∧ i + 6 ≤ L) (hL : L ≤ 3072) (rg : ∀ j, 0 ≤ j → j < L → -2147483648 ≤ c j ∧ c j ≤ 2147483647) (kk : ∀ σ', GI c σ' → zV Γ (yLaw nm) 130 mc ms Q (GM L) (mc, ms) 1042 (LL i) [] σ') : zV Γ (yLaw nm) 130 mc ms Q (GM L) (mc, ms) 733 (LL i) [] σ := by
  have e0_q : ∀ k, σ 0 k = c k := by
    obtain ⟨_, _, _, _, _, _, _, h, _⟩ := hG
    exact h
  refine zaload_n (k := 465) rfl rfl ?_
  refine zaload_n (k := 466) rfl rfl ?_
  refine ziload_n (k := 467) rfl rfl ?_
  refine ziconst (k := 468) rfl (by decide) ?_
  refine ziaddB (k := 469) rfl (by omega) ?_
  refine ziaload (k := 470) rfl ar_0 ⟨by omega, by omega⟩ ?_
  rw [e0_q]
  refine zpVI (k := 471) (as := [zI (c (i + 1))]) (rest := []) rfl (gc_who hG) fm_NT_who lk_L_95 rfl rfl ob_1 ⟨_, rfl, rfl⟩ (Nat.le_of_ble_eq_true rfl) (by decide) ⟨Nat.le_refl _, Nat.le_refl _⟩ (fun z σ1 q1_q => ?_)
  obtain ⟨q2_q, q3_q⟩ := q1_q
  have e1_q : ∀ k, σ1 0 k = c k := fun k => (q2_q k).trans (e0_q k)
  refine zaload_n (k := 472) rfl rfl ?_
  refine zaload_n (k := 473) rfl rfl ?_
  refine ziload_n (k := 474) rfl rfl ?_
  refine ziconst (k := 475) rfl (by decide) ?_
  refine ziaddB (k := 476) rfl (by omega) ?_
  refine ziaload (k := 477) rfl ar_0 ⟨by omega, by omega⟩ ?_
  rw [e1_q]
  refine zpVI (k := 478) (as := [zI (c (i + 1))]) (rest := [zI z]) rfl q3_q fm_M_who lk_L_98 rfl rfl ob_289 ⟨_, rfl, rfl⟩ (Nat.le_of_ble_eq_true rfl) (by decide) ⟨Nat.le_refl _, Nat.le_refl _⟩ (fun z2_q σ2 q4_q => ?_)
  obtain ⟨rfl, hG2⟩ := q4_q
  exact zicmp_eq (k := 479) rfl rfl (fun _ => kk σ2 hG2) (fun c1_q => absurd rfl c1_q)
set_option maxHeartbeats 4000000 in
set_option maxRecDepth 20000 in
theorem lw_weeks (hG : GI c σ) (hi : 0 ≤ i ∧ i + 6 ≤ L) (hL : L ≤ 3072) (rg : ∀ j, 0 ≤ j → j < L → -2147483648 ≤ c j ∧ c j ≤ 2147483647) (kk : ∀ σ', GI c σ' → zV Γ (yLaw nm) 130 mc ms Q (GM L) (mc, ms) 1042 (LL i) [] σ') : zV Γ (yLaw nm) 130 mc ms Q (GM L) (mc, ms) 756 (LL i) [] σ := by
  have e0_q : ∀ k, σ 0 k = c k := by
    obtain ⟨_, _, _, _, _, _, _, h, _⟩ := hG
    exact h
  refine zaload_n (k := 482) rfl rfl ?_
  refine zaload_n (k := 483) rfl rfl ?_
  refine ziload_n (k := 484) rfl rfl ?_
  refine ziconst (k := 485) rfl (by decide) ?_
  refine ziaddB (k := 486) rfl (by omega) ?_
  refine ziaload (k := 487) rfl ar_0 ⟨by omega, by omega⟩ ?_
  rw [e0_q]
  refine zpVI (k := 488) (as := [zI (c (i + 1))]) (rest := []) rfl (gc_weeks hG) fm_NT_weeks lk_L_99 rfl rfl ob_1 ⟨_, rfl, rfl⟩ (Nat.le_of_ble_eq_true rfl) (by decide) ⟨Nat.le_refl _, Nat.le_refl _⟩ (fun z σ1 q1_q => ?_)
  obtain ⟨q2_q, q3_q⟩ := q1_q
  have e1_q : ∀ k, σ1 0 k = c k := fun k => (q2_q k).trans (e0_q k)
  refine zaload_n (k := 489) rfl rfl ?_
  refine zaload_n (k := 490) rfl rfl ?_
  refine ziload_n (k := 491) rfl rfl ?_
  refine ziconst (k := 492) rfl (by decide) ?_
  refine ziaddB (k := 493) rfl (by omega) ?_
  refine ziaload (k := 494) rfl ar_0 ⟨by omega, by omega⟩ ?_
  rw [e1_q]
  refine zpVI (k := 495) (as := [zI (c (i + 1))]) (rest := [zI z]) rfl q3_q fm_M_weeks lk_L_102 rfl rfl ob_289 ⟨_, rfl, rfl⟩ (Nat.le_of_ble_eq_true rfl) (by decide) ⟨Nat.le_refl _, Nat.le_refl _⟩ (fun z2_q σ2 q4_q => ?_)
  obtain ⟨rfl, hG2⟩ := q4_q
  exact zicmp_eq (k := 496) rfl rfl (fun _ => kk σ2 hG2) (fun c1_q => absurd rfl c1_q)
set_option maxHeartbeats 4000000 in
set_option maxRecDepth 20000 in
theorem lw_chance (hG : GI c σ) (hi : 0 ≤ i ∧ i + 6 ≤ L) (hL : L ≤ 3072) (rg : ∀ j, 0 ≤ j → j < L → -2147483648 ≤ c j ∧ c j ≤ 2147483647) (kk : ∀ σ', GI c σ' → zV Γ (yLaw nm) 130 mc ms Q (GM L) (mc, ms) 1042 (LL i) [] σ') : zV Γ (yLaw nm) 130 mc ms Q (GM L) (mc, ms) 779 (LL i) [] σ := by
  have e0_q : ∀ k, σ 0 k = c k := by
    obtain ⟨_, _, _, _, _, _, _, h, _⟩ := hG
    exact h
  refine zaload_n (k := 499) rfl rfl ?_
  refine zaload_n (k := 500) rfl rfl ?_
  refine ziload_n (k := 501) rfl rfl ?_
  refine ziconst (k := 502) rfl (by decide) ?_
  refine ziaddB (k := 503) rfl (by omega) ?_
  refine ziaload (k := 504) rfl ar_0 ⟨by omega, by omega⟩ ?_
  rw [e0_q]
  refine zpVI (k := 505) (as := [zI (c (i + 1))]) (rest := []) rfl (gc_chance hG) fm_NT_chance lk_L_103 rfl rfl ob_1 ⟨_, rfl, rfl⟩ (Nat.le_of_ble_eq_true rfl) (by decide) ⟨Nat.le_refl _, Nat.le_refl _⟩ (fun z σ1 q1_q => ?_)
  obtain ⟨q2_q, q3_q⟩ := q1_q
  have e1_q : ∀ k, σ1 0 k = c k := fun k => (q2_q k).trans (e0_q k)
  refine zaload_n (k := 506) rfl rfl ?_
  refine zaload_n (k := 507) rfl rfl ?_
  refine ziload_n (k := 508) rfl rfl ?_
  refine ziconst (k := 509) rfl (by decide) ?_
  refine ziaddB (k := 510) rfl (by omega) ?_
  refine ziaload (k := 511) rfl ar_0 ⟨by omega, by omega⟩ ?_
  rw [e1_q]
  refine zpVI (k := 512) (as := [zI (c (i + 1))]) (rest := [zI z]) rfl q3_q fm_M_chance lk_L_106 rfl rfl ob_289 ⟨_, rfl, rfl⟩ (Nat.le_of_ble_eq_true rfl) (by decide) ⟨Nat.le_refl _, Nat.le_refl _⟩ (fun z2_q σ2 q4_q => ?_)
  obtain ⟨rfl, hG2⟩ := q4_q
  exact zicmp_eq (k := 513) rfl rfl (fun _ => kk σ2 hG2) (fun c1_q => absurd rfl c1_q)
set_option maxHeartbeats 4000000 in
set_option maxRecDepth 20000 in
theorem lw_pay (hG : GI c σ) (hi : 0 ≤ i ∧ i + 6 ≤ L) (hL : L ≤ 3072) (rg : ∀ j, 0 ≤ j → j < L → -2147483648 ≤ c j ∧ c j ≤ 2147483647) (kk : ∀ σ', GI c σ' → zV Γ (yLaw nm) 130 mc ms Q (GM L) (mc, ms) 1042 (LL i) [] σ') : zV Γ (yLaw nm) 130 mc ms Q (GM L) (mc, ms) 802 (LL i) [] σ := by
  have e0_q : ∀ k, σ 0 k = c k := by
    obtain ⟨_, _, _, _, _, _, _, h, _⟩ := hG
    exact h
  refine zaload_n (k := 516) rfl rfl ?_
  refine zaload_n (k := 517) rfl rfl ?_
  refine ziload_n (k := 518) rfl rfl ?_
  refine ziconst (k := 519) rfl (by decide) ?_
  refine ziaddB (k := 520) rfl (by omega) ?_
  refine ziaload (k := 521) rfl ar_0 ⟨by omega, by omega⟩ ?_
  rw [e0_q]
  refine zaload_n (k := 522) rfl rfl ?_
  refine ziload_n (k := 523) rfl rfl ?_
  refine ziconst (k := 524) rfl (by decide) ?_
  refine ziaddB (k := 525) rfl (by omega) ?_
  refine ziaload (k := 526) rfl ar_0 ⟨by omega, by omega⟩ ?_
  rw [e0_q]
  refine zpVI (k := 527) (as := [zI (c (i + 1)), zI (c (i + 2))]) (rest := []) rfl (gc_pay hG) fm_NT_pay lk_L_107 rfl rfl ob_1 ⟨_, rfl, rfl⟩ (Nat.le_of_ble_eq_true rfl) (by decide) ⟨Nat.le_refl _, Nat.le_refl _⟩ (fun z σ1 q1_q => ?_)
  obtain ⟨q2_q, q3_q⟩ := q1_q
  have e1_q : ∀ k, σ1 0 k = c k := fun k => (q2_q k).trans (e0_q k)
  refine zaload_n (k := 528) rfl rfl ?_
  refine zaload_n (k := 529) rfl rfl ?_
  refine ziload_n (k := 530) rfl rfl ?_
  refine ziconst (k := 531) rfl (by decide) ?_
  refine ziaddB (k := 532) rfl (by omega) ?_
  refine ziaload (k := 533) rfl ar_0 ⟨by omega, by omega⟩ ?_
  rw [e1_q]
  refine zaload_n (k := 534) rfl rfl ?_
  refine ziload_n (k := 535) rfl rfl ?_
  refine ziconst (k := 536) rfl (by decide) ?_
  refine ziaddB (k := 537) rfl (by omega) ?_
  refine ziaload (k := 538) rfl ar_0 ⟨by omega, by omega⟩ ?_
  rw [e1_q]
  refine zpVI (k := 539) (as := [zI (c (i + 1)), zI (c (i + 2))]) (rest := [zI z]) rfl q3_q fm_M_pay lk_L_111 rfl rfl ob_289 ⟨_, rfl, rfl⟩ (Nat.le_of_ble_eq_true rfl) (by decide) ⟨Nat.le_refl _, Nat.le_refl _⟩ (fun z2_q σ2 q4_q => ?_)
  obtain ⟨rfl, hG2⟩ := q4_q
  exact zicmp_eq (k := 540) rfl rfl (fun _ => kk σ2 hG2) (fun c1_q => absurd rfl c1_q)
set_option maxHeartbeats 4000000 in
set_option maxRecDepth 20000 in
theorem lw_guard (hG : GI c σ) (hi : 0 ≤ i ∧ i + 6 ≤ L) (hL : L ≤ 3072) (rg : ∀ j, 0 ≤ j → j < L → -2147483648 ≤ c j ∧ c j ≤ 2147483647) (kk : ∀ σ', GI c σ' → zV Γ (yLaw nm) 130 mc ms Q (GM L) (mc, ms) 1042 (LL i) [] σ') : zV Γ (yLaw nm) 130 mc ms Q (GM L) (mc, ms) 835 (LL i) [] σ := by
  have e0_q : ∀ k, σ 0 k = c k := by
    obtain ⟨_, _, _, _, _, _, _, h, _⟩ := hG
    exact h
  refine zaload_n (k := 543) rfl rfl ?_
  refine zaload_n (k := 544) rfl rfl ?_
  refine ziload_n (k := 545) rfl rfl ?_
  refine ziconst (k := 546) rfl (by decide) ?_
  refine ziaddB (k := 547) rfl (by omega) ?_
  refine ziaload (k := 548) rfl ar_0 ⟨by omega, by omega⟩ ?_
  rw [e0_q]
  refine zaload_n (k := 549) rfl rfl ?_
  refine ziload_n (k := 550) rfl rfl ?_
  refine ziconst (k := 551) rfl (by decide) ?_
  refine ziaddB (k := 552) rfl (by omega) ?_
  refine ziaload (k := 553) rfl ar_0 ⟨by omega, by omega⟩ ?_
  rw [e0_q]
  refine zpVI (k := 554) (as := [zI (c (i + 1)), zI (c (i + 2))]) (rest := []) rfl (gc_guard hG) fm_NT_guard lk_L_112 rfl rfl ob_1 ⟨_, rfl, rfl⟩ (Nat.le_of_ble_eq_true rfl) (by decide) ⟨Nat.le_refl _, Nat.le_refl _⟩ (fun z σ1 q1_q => ?_)
  obtain ⟨q2_q, q3_q⟩ := q1_q
  have e1_q : ∀ k, σ1 0 k = c k := fun k => (q2_q k).trans (e0_q k)
  refine zaload_n (k := 555) rfl rfl ?_
  refine zaload_n (k := 556) rfl rfl ?_
  refine ziload_n (k := 557) rfl rfl ?_
  refine ziconst (k := 558) rfl (by decide) ?_
  refine ziaddB (k := 559) rfl (by omega) ?_
  refine ziaload (k := 560) rfl ar_0 ⟨by omega, by omega⟩ ?_
  rw [e1_q]
  refine zaload_n (k := 561) rfl rfl ?_
  refine ziload_n (k := 562) rfl rfl ?_
  refine ziconst (k := 563) rfl (by decide) ?_
  refine ziaddB (k := 564) rfl (by omega) ?_
  refine ziaload (k := 565) rfl ar_0 ⟨by omega, by omega⟩ ?_
  rw [e1_q]
  refine zpVI (k := 566) (as := [zI (c (i + 1)), zI (c (i + 2))]) (rest := [zI z]) rfl q3_q fm_M_guard lk_L_115 rfl rfl ob_289 ⟨_, rfl, rfl⟩ (Nat.le_of_ble_eq_true rfl) (by decide) ⟨Nat.le_refl _, Nat.le_refl _⟩ (fun z2_q σ2 q4_q => ?_)
  obtain ⟨rfl, hG2⟩ := q4_q
  exact zicmp_eq (k := 567) rfl rfl (fun _ => kk σ2 hG2) (fun c1_q => absurd rfl c1_q)
set_option maxHeartbeats 4000000 in
set_option maxRecDepth 20000 in
theorem lw_tell (hG : GI c σ) (hi : 0 ≤ i ∧ i + 6 ≤ L) (hL : L ≤ 3072) (rg : ∀ j, 0 ≤ j → j < L → -2147483648 ≤ c j ∧ c j ≤ 2147483647) (kk : ∀ σ', GI c σ' → zV Γ (yLaw nm) 130 mc ms Q (GM L) (mc, ms) 1042 (LL i) [] σ') : zV Γ (yLaw nm) 130 mc ms Q (GM L) (mc, ms) 868 (LL i) [] σ := by
  have e0_q : ∀ k, σ 0 k = c k := by
    obtain ⟨_, _, _, _, _, _, _, h, _⟩ := hG
    exact h
  refine zaload_n (k := 570) rfl rfl ?_
  refine zaload_n (k := 571) rfl rfl ?_
  refine ziload_n (k := 572) rfl rfl ?_
  refine ziconst (k := 573) rfl (by decide) ?_
  refine ziaddB (k := 574) rfl (by omega) ?_
  refine ziaload (k := 575) rfl ar_0 ⟨by omega, by omega⟩ ?_
  rw [e0_q]
  refine zaload_n (k := 576) rfl rfl ?_
  refine ziload_n (k := 577) rfl rfl ?_
  refine ziconst (k := 578) rfl (by decide) ?_
  refine ziaddB (k := 579) rfl (by omega) ?_
  refine ziaload (k := 580) rfl ar_0 ⟨by omega, by omega⟩ ?_
  rw [e0_q]
  refine zpVI (k := 581) (as := [zI (c (i + 1)), zI (c (i + 2))]) (rest := []) rfl (gc_tell hG) fm_NT_tell lk_L_116 rfl rfl ob_1 ⟨_, rfl, rfl⟩ (Nat.le_of_ble_eq_true rfl) (by decide) ⟨Nat.le_refl _, Nat.le_refl _⟩ (fun z σ1 q1_q => ?_)
  obtain ⟨q2_q, q3_q⟩ := q1_q
  have e1_q : ∀ k, σ1 0 k = c k := fun k => (q2_q k).trans (e0_q k)
  refine zaload_n (k := 582) rfl rfl ?_
  refine zaload_n (k := 583) rfl rfl ?_
  refine ziload_n (k := 584) rfl rfl ?_
  refine ziconst (k := 585) rfl (by decide) ?_
  refine ziaddB (k := 586) rfl (by omega) ?_
  refine ziaload (k := 587) rfl ar_0 ⟨by omega, by omega⟩ ?_
  rw [e1_q]
  refine zaload_n (k := 588) rfl rfl ?_
  refine ziload_n (k := 589) rfl rfl ?_
  refine ziconst (k := 590) rfl (by decide) ?_
  refine ziaddB (k := 591) rfl (by omega) ?_
  refine ziaload (k := 592) rfl ar_0 ⟨by omega, by omega⟩ ?_
  rw [e1_q]
  refine zpVI (k := 593) (as := [zI (c (i + 1)), zI (c (i + 2))]) (rest := [zI z]) rfl q3_q fm_M_tell lk_L_119 rfl rfl ob_289 ⟨_, rfl, rfl⟩ (Nat.le_of_ble_eq_true rfl) (by decide) ⟨Nat.le_refl _, Nat.le_refl _⟩ (fun z2_q σ2 q4_q => ?_)
  obtain ⟨rfl, hG2⟩ := q4_q
  exact zicmp_eq (k := 594) rfl rfl (fun _ => kk σ2 hG2) (fun c1_q => absurd rfl c1_q)
set_option maxHeartbeats 4000000 in
set_option maxRecDepth 20000 in
theorem lw_undo (hG : GI c σ) (hi : 0 ≤ i ∧ i + 6 ≤ L) (hL : L ≤ 3072) (rg : ∀ j, 0 ≤ j → j < L → -2147483648 ≤ c j ∧ c j ≤ 2147483647) (kk : ∀ σ', GI c σ' → zV Γ (yLaw nm) 130 mc ms Q (GM L) (mc, ms) 1042 (LL i) [] σ') : zV Γ (yLaw nm) 130 mc ms Q (GM L) (mc, ms) 901 (LL i) [] σ := by
  have e0_q : ∀ k, σ 0 k = c k := by
    obtain ⟨_, _, _, _, _, _, _, h, _⟩ := hG
    exact h
  refine zaload_n (k := 597) rfl rfl ?_
  refine zpVI (k := 598) (as := []) (rest := []) rfl (gc_undo hG) fm_NT_undo lk_L_120 rfl rfl ob_1 ⟨_, rfl, rfl⟩ (Nat.le_of_ble_eq_true rfl) (by decide) ⟨Nat.le_refl _, Nat.le_refl _⟩ (fun z σ1 q1_q => ?_)
  obtain ⟨q2_q, q3_q⟩ := q1_q
  have e1_q : ∀ k, σ1 0 k = c k := fun k => (q2_q k).trans (e0_q k)
  refine zaload_n (k := 599) rfl rfl ?_
  refine zpVI (k := 600) (as := []) (rest := [zI z]) rfl q3_q fm_M_undo lk_L_124 rfl rfl ob_289 ⟨_, rfl, rfl⟩ (Nat.le_of_ble_eq_true rfl) (by decide) ⟨Nat.le_refl _, Nat.le_refl _⟩ (fun z2_q σ2 q4_q => ?_)
  obtain ⟨rfl, hG2⟩ := q4_q
  exact zicmp_eq (k := 601) rfl rfl (fun _ => kk σ2 hG2) (fun c1_q => absurd rfl c1_q)
set_option maxHeartbeats 4000000 in
set_option maxRecDepth 20000 in
theorem lw_seed (hG : GI c σ) (hi : 0 ≤ i ∧ i + 6 ≤ L) (hL : L ≤ 3072) (rg : ∀ j, 0 ≤ j → j < L → -2147483648 ≤ c j ∧ c j ≤ 2147483647) (kk : ∀ σ', GI c σ' → zV Γ (yLaw nm) 130 mc ms Q (GM L) (mc, ms) 1042 (LL i) [] σ') : zV Γ (yLaw nm) 130 mc ms Q (GM L) (mc, ms) 914 (LL i) [] σ := by
  have e0_q : ∀ k, σ 0 k = c k := by
    obtain ⟨_, _, _, _, _, _, _, h, _⟩ := hG
    exact h
  refine zaload_n (k := 604) rfl rfl ?_
  refine zaload_n (k := 605) rfl rfl ?_
  refine ziload_n (k := 606) rfl rfl ?_
  refine ziconst (k := 607) rfl (by decide) ?_
  refine ziaddB (k := 608) rfl (by omega) ?_
  refine ziaload (k := 609) rfl ar_0 ⟨by omega, by omega⟩ ?_
  rw [e0_q]
  refine zpVI (k := 610) (as := [zI (c (i + 1))]) (rest := []) rfl (gc_seed hG (rg (i + 1) (by omega) (by omega))) fm_NT_seed lk_L_125 rfl rfl ob_1 ⟨_, rfl, rfl⟩ (Nat.le_of_ble_eq_true rfl) (by decide) ⟨Nat.le_refl _, Nat.le_refl _⟩ (fun z σ1 q1_q => ?_)
  obtain ⟨q2_q, q3_q⟩ := q1_q
  have e1_q : ∀ k, σ1 0 k = c k := fun k => (q2_q k).trans (e0_q k)
  refine zaload_n (k := 611) rfl rfl ?_
  refine zaload_n (k := 612) rfl rfl ?_
  refine ziload_n (k := 613) rfl rfl ?_
  refine ziconst (k := 614) rfl (by decide) ?_
  refine ziaddB (k := 615) rfl (by omega) ?_
  refine ziaload (k := 616) rfl ar_0 ⟨by omega, by omega⟩ ?_
  rw [e1_q]
  refine zpVI (k := 617) (as := [zI (c (i + 1))]) (rest := [zI z]) rfl q3_q fm_M_seed lk_L_128 rfl rfl ob_289 ⟨_, rfl, rfl⟩ (Nat.le_of_ble_eq_true rfl) (by decide) ⟨Nat.le_refl _, Nat.le_refl _⟩ (fun z2_q σ2 q4_q => ?_)
  obtain ⟨rfl, hG2⟩ := q4_q
  exact zicmp_eq (k := 618) rfl rfl (fun _ => kk σ2 hG2) (fun c1_q => absurd rfl c1_q)
set_option maxHeartbeats 4000000 in
set_option maxRecDepth 20000 in
theorem lw_kept (hG : GI c σ) (hi : 0 ≤ i ∧ i + 6 ≤ L) (hL : L ≤ 3072) (rg : ∀ j, 0 ≤ j → j < L → -2147483648 ≤ c j ∧ c j ≤ 2147483647) (kk : ∀ σ', GI c σ' → zV Γ (yLaw nm) 130 mc ms Q (GM L) (mc, ms) 1042 (LL i) [] σ') : zV Γ (yLaw nm) 130 mc ms Q (GM L) (mc, ms) 937 (LL i) [] σ := by
  have e0_q : ∀ k, σ 0 k = c k := by
    obtain ⟨_, _, _, _, _, _, _, h, _⟩ := hG
    exact h
  refine zaload_n (k := 621) rfl rfl ?_
  refine zaload_n (k := 622) rfl rfl ?_
  refine ziload_n (k := 623) rfl rfl ?_
  refine ziconst (k := 624) rfl (by decide) ?_
  refine ziaddB (k := 625) rfl (by omega) ?_
  refine ziaload (k := 626) rfl ar_0 ⟨by omega, by omega⟩ ?_
  rw [e0_q]
  refine zaload_n (k := 627) rfl rfl ?_
  refine ziload_n (k := 628) rfl rfl ?_
  refine ziconst (k := 629) rfl (by decide) ?_
  refine ziaddB (k := 630) rfl (by omega) ?_
  refine ziaload (k := 631) rfl ar_0 ⟨by omega, by omega⟩ ?_
  rw [e0_q]
  refine zpVI (k := 632) (as := [zI (c (i + 1)), zI (c (i + 2))]) (rest := []) rfl (gc_kept hG) fm_NT_kept lk_L_129 rfl rfl ob_1 ⟨_, rfl, rfl⟩ (Nat.le_of_ble_eq_true rfl) (by decide) ⟨Nat.le_refl _, Nat.le_refl _⟩ (fun z σ1 q1_q => ?_)
  obtain ⟨q2_q, q3_q⟩ := q1_q
  have e1_q : ∀ k, σ1 0 k = c k := fun k => (q2_q k).trans (e0_q k)
  refine zaload_n (k := 633) rfl rfl ?_
  refine zaload_n (k := 634) rfl rfl ?_
  refine ziload_n (k := 635) rfl rfl ?_
  refine ziconst (k := 636) rfl (by decide) ?_
  refine ziaddB (k := 637) rfl (by omega) ?_
  refine ziaload (k := 638) rfl ar_0 ⟨by omega, by omega⟩ ?_
  rw [e1_q]
  refine zaload_n (k := 639) rfl rfl ?_
  refine ziload_n (k := 640) rfl rfl ?_
  refine ziconst (k := 641) rfl (by decide) ?_
  refine ziaddB (k := 642) rfl (by omega) ?_
  refine ziaload (k := 643) rfl ar_0 ⟨by omega, by omega⟩ ?_
  rw [e1_q]
  refine zpVI (k := 644) (as := [zI (c (i + 1)), zI (c (i + 2))]) (rest := [zI z]) rfl q3_q fm_M_kept lk_L_132 rfl rfl ob_289 ⟨_, rfl, rfl⟩ (Nat.le_of_ble_eq_true rfl) (by decide) ⟨Nat.le_refl _, Nat.le_refl _⟩ (fun z2_q σ2 q4_q => ?_)
  obtain ⟨rfl, hG2⟩ := q4_q
  exact zicmp_eq (k := 645) rfl rfl (fun _ => kk σ2 hG2) (fun c1_q => absurd rfl c1_q)
set_option maxHeartbeats 4000000 in
set_option maxRecDepth 20000 in
theorem lw_image (hG : GI c σ) (hi : 0 ≤ i ∧ i + 6 ≤ L) (hL : L ≤ 3072) (rg : ∀ j, 0 ≤ j → j < L → -2147483648 ≤ c j ∧ c j ≤ 2147483647) (kk : ∀ σ', GI c σ' → zV Γ (yLaw nm) 130 mc ms Q (GM L) (mc, ms) 1042 (LL i) [] σ') : zV Γ (yLaw nm) 130 mc ms Q (GM L) (mc, ms) 970 (LL i) [] σ := by
  have e0_q : ∀ k, σ 0 k = c k := by
    obtain ⟨_, _, _, _, _, _, _, h, _⟩ := hG
    exact h
  refine zaload_n (k := 648) rfl rfl ?_
  refine zpVI (k := 649) (as := []) (rest := []) rfl (gc_image hG) fm_NT_image lk_L_133 rfl rfl ob_1 ⟨_, rfl, rfl⟩ (Nat.le_of_ble_eq_true rfl) (by decide) ⟨Nat.le_refl _, Nat.le_refl _⟩ (fun z σ1 q1_q => ?_)
  obtain ⟨q2_q, q3_q⟩ := q1_q
  have e1_q : ∀ k, σ1 0 k = c k := fun k => (q2_q k).trans (e0_q k)
  refine zaload_n (k := 650) rfl rfl ?_
  refine zpVI (k := 651) (as := []) (rest := [zI z]) rfl q3_q fm_M_image lk_L_136 rfl rfl ob_289 ⟨_, rfl, rfl⟩ (Nat.le_of_ble_eq_true rfl) (by decide) ⟨Nat.le_refl _, Nat.le_refl _⟩ (fun z2_q σ2 q4_q => ?_)
  obtain ⟨rfl, hG2⟩ := q4_q
  exact zicmp_eq (k := 652) rfl rfl (fun _ => kk σ2 hG2) (fun c1_q => absurd rfl c1_q)
set_option maxHeartbeats 4000000 in
set_option maxRecDepth 20000 in
theorem lw_octet (hG : GI c σ) (hi : 0 ≤ i ∧ i + 6 ≤ L) (hL : L ≤ 3072) (rg : ∀ j, 0 ≤ j → j < L → -2147483648 ≤ c j ∧ c j ≤ 2147483647) (kk : ∀ σ', GI c σ' → zV Γ (yLaw nm) 130 mc ms Q (GM L) (mc, ms) 1042 (LL i) [] σ') : zV Γ (yLaw nm) 130 mc ms Q (GM L) (mc, ms) 983 (LL i) [] σ := by
  have e0_q : ∀ k, σ 0 k = c k := by
    obtain ⟨_, _, _, _, _, _, _, h, _⟩ := hG
    exact h
  refine zaload_n (k := 655) rfl rfl ?_
  refine zaload_n (k := 656) rfl rfl ?_
  refine ziload_n (k := 657) rfl rfl ?_
  refine ziconst (k := 658) rfl (by decide) ?_
  refine ziaddB (k := 659) rfl (by omega) ?_
  refine ziaload (k := 660) rfl ar_0 ⟨by omega, by omega⟩ ?_
  rw [e0_q]
  refine zpVI (k := 661) (as := [zI (c (i + 1))]) (rest := []) rfl (gc_octet hG) fm_NT_octet lk_L_137 rfl rfl ob_1 ⟨_, rfl, rfl⟩ (Nat.le_of_ble_eq_true rfl) (by decide) ⟨Nat.le_refl _, Nat.le_refl _⟩ (fun z σ1 q1_q => ?_)
  obtain ⟨q2_q, q3_q⟩ := q1_q
  have e1_q : ∀ k, σ1 0 k = c k := fun k => (q2_q k).trans (e0_q k)
  refine zaload_n (k := 662) rfl rfl ?_
  refine zaload_n (k := 663) rfl rfl ?_
  refine ziload_n (k := 664) rfl rfl ?_
  refine ziconst (k := 665) rfl (by decide) ?_
  refine ziaddB (k := 666) rfl (by omega) ?_
  refine ziaload (k := 667) rfl ar_0 ⟨by omega, by omega⟩ ?_
  rw [e1_q]
  refine zpVI (k := 668) (as := [zI (c (i + 1))]) (rest := [zI z]) rfl q3_q fm_M_octet lk_L_140 rfl rfl ob_289 ⟨_, rfl, rfl⟩ (Nat.le_of_ble_eq_true rfl) (by decide) ⟨Nat.le_refl _, Nat.le_refl _⟩ (fun z2_q σ2 q4_q => ?_)
  obtain ⟨rfl, hG2⟩ := q4_q
  exact zicmp_eq (k := 669) rfl rfl (fun _ => kk σ2 hG2) (fun c1_q => absurd rfl c1_q)
set_option maxHeartbeats 4000000 in
set_option maxRecDepth 20000 in
theorem lw_on (hG : GI c σ) (hi : 0 ≤ i ∧ i + 6 ≤ L) (hL : L ≤ 3072) (rg : ∀ j, 0 ≤ j → j < L → -2147483648 ≤ c j ∧ c j ≤ 2147483647) (kk : ∀ σ', GI c σ' → zV Γ (yLaw nm) 130 mc ms Q (GM L) (mc, ms) 1042 (LL i) [] σ') : zV Γ (yLaw nm) 130 mc ms Q (GM L) (mc, ms) 1006 (LL i) [] σ := by
  have e0_q : ∀ k, σ 0 k = c k := by
    obtain ⟨_, _, _, _, _, _, _, h, _⟩ := hG
    exact h
  refine zaload_n (k := 672) rfl rfl ?_
  refine zpVI (k := 673) (as := []) (rest := []) rfl (gc_on hG) fm_NT_on lk_L_141 rfl rfl ob_1 ⟨_, rfl, rfl⟩ (Nat.le_of_ble_eq_true rfl) (by decide) ⟨Nat.le_refl _, Nat.le_refl _⟩ (fun z σ1 q1_q => ?_)
  obtain ⟨q2_q, q3_q⟩ := q1_q
  have e1_q : ∀ k, σ1 0 k = c k := fun k => (q2_q k).trans (e0_q k)
  refine zaload_n (k := 674) rfl rfl ?_
  refine zpVI (k := 675) (as := []) (rest := [zI z]) rfl q3_q fm_M_on lk_L_144 rfl rfl ob_289 ⟨_, rfl, rfl⟩ (Nat.le_of_ble_eq_true rfl) (by decide) ⟨Nat.le_refl _, Nat.le_refl _⟩ (fun z2_q σ2 q4_q => ?_)
  obtain ⟨rfl, hG2⟩ := q4_q
  exact zicmp_eq (k := 676) rfl rfl (fun _ => kk σ2 hG2) (fun c1_q => absurd rfl c1_q)
set_option maxHeartbeats 4000000 in
set_option maxRecDepth 20000 in
theorem lw_status (hG : GI c σ) (hi : 0 ≤ i ∧ i + 6 ≤ L) (hL : L ≤ 3072) (rg : ∀ j, 0 ≤ j → j < L → -2147483648 ≤ c j ∧ c j ≤ 2147483647) (kk : ∀ σ', GI c σ' → zV Γ (yLaw nm) 130 mc ms Q (GM L) (mc, ms) 1042 (LL i) [] σ') : zV Γ (yLaw nm) 130 mc ms Q (GM L) (mc, ms) 1019 (LL i) [] σ := by
  have e0_q : ∀ k, σ 0 k = c k := by
    obtain ⟨_, _, _, _, _, _, _, h, _⟩ := hG
    exact h
  refine zaload_n (k := 679) rfl rfl ?_
  refine zaload_n (k := 680) rfl rfl ?_
  refine ziload_n (k := 681) rfl rfl ?_
  refine ziconst (k := 682) rfl (by decide) ?_
  refine ziaddB (k := 683) rfl (by omega) ?_
  refine ziaload (k := 684) rfl ar_0 ⟨by omega, by omega⟩ ?_
  rw [e0_q]
  refine zpVI (k := 685) (as := [zI (c (i + 1))]) (rest := []) rfl (gc_status hG) fm_NT_status lk_L_145 rfl rfl ob_1 ⟨_, rfl, rfl⟩ (Nat.le_of_ble_eq_true rfl) (by decide) ⟨Nat.le_refl _, Nat.le_refl _⟩ (fun z σ1 q1_q => ?_)
  obtain ⟨q2_q, q3_q⟩ := q1_q
  have e1_q : ∀ k, σ1 0 k = c k := fun k => (q2_q k).trans (e0_q k)
  refine zaload_n (k := 686) rfl rfl ?_
  refine zaload_n (k := 687) rfl rfl ?_
  refine ziload_n (k := 688) rfl rfl ?_
  refine ziconst (k := 689) rfl (by decide) ?_
  refine ziaddB (k := 690) rfl (by omega) ?_
  refine ziaload (k := 691) rfl ar_0 ⟨by omega, by omega⟩ ?_
  rw [e1_q]
  refine zpVI (k := 692) (as := [zI (c (i + 1))]) (rest := [zI z]) rfl q3_q fm_M_status lk_L_148 rfl rfl ob_289 ⟨_, rfl, rfl⟩ (Nat.le_of_ble_eq_true rfl) (by decide) ⟨Nat.le_refl _, Nat.le_refl _⟩ (fun z2_q σ2 q4_q => ?_)
  obtain ⟨rfl, hG2⟩ := q4_q
  exact zicmp_eq (k := 693) rfl rfl (fun _ => kk σ2 hG2) (fun c1_q => absurd rfl c1_q)
end LAWC
set_option maxHeartbeats 4000000 in
set_option maxRecDepth 20000 in
theorem lw_loop {Γ : zv_M} {nm : String} {L : Int} {mc ms : Nat} {c : Int → Int} (hL : 0 ≤ L ∧ L ≤ 3072) : ∀ (g : Nat) (i : Int) (σ : zv_H), 0 ≤ i → i ≤ L + 6 → (L + 6 - i).toNat < g → GI c σ → zV Γ (yLaw nm) 130 mc ms (fun r _ _ => r = some (zI 1)) (GM L) (mc, ms) 18 (LL i) [] σ := by
  intro g
  induction g with
  | zero => intro i σ _ _ hg; exact absurd hg (Nat.not_lt_zero _)
  | succ g ih =>
    intro i σ h0_q h6_q hg hG
    have e0_q : ∀ k, σ 0 k = c k := by
      obtain ⟨_, _, _, _, _, _, _, h, _⟩ := hG
      exact h
    refine zrng_arr ar_0 (fun rg0_q => ?_)
    have rg : ∀ j, 0 ≤ j → j < L → -2147483648 ≤ c j ∧ c j ≤ 2147483647 := fun j j0_q j1_q => by
      have q := rg0_q j j0_q j1_q
      rw [e0_q] at q
      exact q
    have hL := hL.2
    refine ziload_n (k := 10) rfl rfl ?_
    refine zaload_n (k := 11) rfl rfl ?_
    refine zarraylength (k := 12) rfl ar_0.1 ?_
    refine zbipush (k := 13) rfl rfl ?_
    refine zisubB (k := 14) rfl (by omega) ?_
    refine zicmp_gt (k := 15) rfl rfl (fun c1_q => ?_) (fun c1_q => ?_)
    · refine ziconst (k := 698) rfl (by decide) ?_
      exact zzreturn (k := 699) rfl rfl (Or.inr rfl) rfl rfl
    · have nx : ∀ σ', GI c σ' → zV Γ (yLaw nm) 130 mc ms (fun r _ _ => r = some (zI 1)) (GM L) (mc, ms) 1042 (LL i) [] σ' := fun σ' hG' => by
        refine ziincB (k := 696) (ls' := LL (i + 6)) rfl rfl (by decide) (by omega) rfl ?_
        refine zgoto (k := 697) rfl rfl ?_
        exact ih (i + 6) σ' (by omega) (by omega) (by omega) hG'
      refine zaload_n (k := 16) rfl rfl ?_
      refine ziload_n (k := 17) rfl rfl ?_
      refine ziaload (k := 18) rfl ar_0 ⟨by omega, by omega⟩ ?_
      refine zbipush (k := 19) rfl rfl ?_
      refine ziandM (k := 20) 5 rfl (by decide) rfl 32 rfl ?_
      refine ztabC (k := 21) (v := 0) 0 rfl rfl (by decide) rfl rfl (fun _ => lw_feed hG ⟨h0_q, by omega⟩ hL rg nx) (fun w0_q => ?_)
      refine ztabC (k := 21) (v := 1) 1 rfl rfl (by decide) rfl rfl (fun _ => lw_end hG ⟨h0_q, by omega⟩ hL rg nx) (fun w1_q => ?_)
      refine ztabC (k := 21) (v := 2) 2 rfl rfl (by decide) rfl rfl (fun _ => lw_war hG ⟨h0_q, by omega⟩ hL rg nx) (fun w2_q => ?_)
      refine ztabC (k := 21) (v := 3) 3 rfl rfl (by decide) rfl rfl (fun _ => lw_fault hG ⟨h0_q, by omega⟩ hL rg nx) (fun w3_q => ?_)
      refine ztabC (k := 21) (v := 4) 4 rfl rfl (by decide) rfl rfl (fun _ => lw_has hG ⟨h0_q, by omega⟩ hL rg nx) (fun w4_q => ?_)
      refine ztabC (k := 21) (v := 5) 5 rfl rfl (by decide) rfl rfl (fun _ => lw_letter hG ⟨h0_q, by omega⟩ hL rg nx) (fun w5_q => ?_)
      refine ztabC (k := 21) (v := 6) 6 rfl rfl (by decide) rfl rfl (fun _ => lw_county hG ⟨h0_q, by omega⟩ hL rg nx) (fun w6_q => ?_)
      refine ztabC (k := 21) (v := 7) 7 rfl rfl (by decide) rfl rfl (fun _ => lw_way hG ⟨h0_q, by omega⟩ hL rg nx) (fun w7_q => ?_)
      refine ztabC (k := 21) (v := 8) 8 rfl rfl (by decide) rfl rfl (fun _ => lw_man hG ⟨h0_q, by omega⟩ hL rg nx) (fun w8_q => ?_)
      refine ztabC (k := 21) (v := 9) 9 rfl rfl (by decide) rfl rfl (fun _ => lw_known hG ⟨h0_q, by omega⟩ hL rg nx) (fun w9_q => ?_)
      refine ztabC (k := 21) (v := 10) 10 rfl rfl (by decide) rfl rfl (fun _ => lw_later hG ⟨h0_q, by omega⟩ hL rg nx) (fun w10_q => ?_)
      refine ztabC (k := 21) (v := 11) 11 rfl rfl (by decide) rfl rfl (fun _ => lw_caught hG ⟨h0_q, by omega⟩ hL rg nx) (fun w11_q => ?_)
      refine ztabC (k := 21) (v := 12) 12 rfl rfl (by decide) rfl rfl (fun _ => lw_filled hG ⟨h0_q, by omega⟩ hL rg nx) (fun w12_q => ?_)
      refine ztabC (k := 21) (v := 13) 13 rfl rfl (by decide) rfl rfl (fun _ => lw_round hG ⟨h0_q, by omega⟩ hL rg nx) (fun w13_q => ?_)
      refine ztabC (k := 21) (v := 14) 14 rfl rfl (by decide) rfl rfl (fun _ => lw_lured hG ⟨h0_q, by omega⟩ hL rg nx) (fun w14_q => ?_)
      refine ztabC (k := 21) (v := 15) 15 rfl rfl (by decide) rfl rfl (fun _ => lw_best hG ⟨h0_q, by omega⟩ hL rg nx) (fun w15_q => ?_)
      refine ztabC (k := 21) (v := 16) 16 rfl rfl (by decide) rfl rfl (fun _ => lw_marks hG ⟨h0_q, by omega⟩ hL rg nx) (fun w16_q => ?_)
      refine ztabC (k := 21) (v := 17) 17 rfl rfl (by decide) rfl rfl (fun _ => lw_staffed hG ⟨h0_q, by omega⟩ hL rg nx) (fun w17_q => ?_)
      refine ztabC (k := 21) (v := 18) 18 rfl rfl (by decide) rfl rfl (fun _ => lw_see hG ⟨h0_q, by omega⟩ hL rg nx) (fun w18_q => ?_)
      refine ztabC (k := 21) (v := 19) 19 rfl rfl (by decide) rfl rfl (fun _ => lw_who hG ⟨h0_q, by omega⟩ hL rg nx) (fun w19_q => ?_)
      refine ztabC (k := 21) (v := 20) 20 rfl rfl (by decide) rfl rfl (fun _ => lw_weeks hG ⟨h0_q, by omega⟩ hL rg nx) (fun w20_q => ?_)
      refine ztabC (k := 21) (v := 21) 21 rfl rfl (by decide) rfl rfl (fun _ => lw_chance hG ⟨h0_q, by omega⟩ hL rg nx) (fun w21_q => ?_)
      refine ztabC (k := 21) (v := 22) 22 rfl rfl (by decide) rfl rfl (fun _ => lw_pay hG ⟨h0_q, by omega⟩ hL rg nx) (fun w22_q => ?_)
      refine ztabC (k := 21) (v := 23) 23 rfl rfl (by decide) rfl rfl (fun _ => lw_guard hG ⟨h0_q, by omega⟩ hL rg nx) (fun w23_q => ?_)
      refine ztabC (k := 21) (v := 24) 24 rfl rfl (by decide) rfl rfl (fun _ => lw_tell hG ⟨h0_q, by omega⟩ hL rg nx) (fun w24_q => ?_)
      refine ztabC (k := 21) (v := 25) 25 rfl rfl (by decide) rfl rfl (fun _ => lw_undo hG ⟨h0_q, by omega⟩ hL rg nx) (fun w25_q => ?_)
      refine ztabC (k := 21) (v := 26) 26 rfl rfl (by decide) rfl rfl (fun _ => lw_seed hG ⟨h0_q, by omega⟩ hL rg nx) (fun w26_q => ?_)
      refine ztabC (k := 21) (v := 27) 27 rfl rfl (by decide) rfl rfl (fun _ => lw_kept hG ⟨h0_q, by omega⟩ hL rg nx) (fun w27_q => ?_)
      refine ztabC (k := 21) (v := 28) 28 rfl rfl (by decide) rfl rfl (fun _ => lw_image hG ⟨h0_q, by omega⟩ hL rg nx) (fun w28_q => ?_)
      refine ztabC (k := 21) (v := 29) 29 rfl rfl (by decide) rfl rfl (fun _ => lw_octet hG ⟨h0_q, by omega⟩ hL rg nx) (fun w29_q => ?_)
      refine ztabC (k := 21) (v := 30) 30 rfl rfl (by decide) rfl rfl (fun _ => lw_on hG ⟨h0_q, by omega⟩ hL rg nx) (fun w30_q => ?_)
      refine ztabC (k := 21) (v := 31) 31 rfl rfl (by decide) rfl rfl (fun _ => lw_status hG ⟨h0_q, by omega⟩ hL rg nx) (fun w31_q => ?_)
      exact ztabOut (k := 21) rfl (by omega) rfl (nx σ hG)
