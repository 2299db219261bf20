/-- an act: what was is kept at n, the state is S2 -/
def remP (σ σ2 : zv_H) (n : Int) (S S2 : zv_H) : Prop := vw 10 σ2 30 = S2 ∧ vw 10 σ2 (actn n) = S ∧ σ2 62 1 = (n + 1) % 20 ∧ σ2 62 2 = min 20 (σ 62 2 + 1) ∧ ∀ x k, ¬ (30 ≤ x ∧ x ≤ 40) → ¬ (actn n ≤ x ∧ x ≤ actn n + 10) → ¬ (x = 62 ∧ (k = 1 ∨ k = 2)) → x ≠ 56 → x ≠ 57 → σ2 x k = σ x k
theorem k_rem {Γ : zv_M} {L : Int} {σ S : zv_H} {n : Int} (hn : σ 62 1 = n) (hb : 0 ≤ n ∧ n < 20) (hc : 0 ≤ σ 62 2 ∧ σ 62 2 ≤ 20) (hS : vw 10 σ 30 = S) (hZ : SZ S) (hAZ : SZ (vw 10 σ (actn n))) : zC Γ m_Acts_remember 2 0 0 (GM L) [zR 62, zR 30] σ (zP0 (GM L) (fun σ' => remP σ σ' n S S)) := by
  refine zC_mono (fun q G' σ' hq => ?_) (c_Acts_remember hn hb hc hS hZ hAZ)
  obtain ⟨g1, g2, h1, h2, h3, h4⟩ := hq
  refine ⟨g1, g2, ?_, h1, h2, h3, fun x k _ q2 q3 q4 q5 => h4 x k q2 q3 q4 q5⟩
  rw [← hS]
  exact vw_eq (fun x k q1 q2 => h4 x k (by unfold actn; omega) (by omega) (by omega) (by omega)) (by omega)
theorem remP_st {σ σ1 σ2 S S1 S2 : zv_H} {n : Int} (hb : 0 ≤ n ∧ n < 20) (h : remP σ σ1 n S S1) (h2 : stp σ1 σ2 30 S2) : remP σ σ2 n S S2 := by
  obtain ⟨h1, h3, h4, h5, h6⟩ := h
  refine ⟨h2.1, ?_, ?_, ?_, fun x k q1 q2 q3 q4 q5 => by rw [h2.2 x k (by omega) q4 q5]; exact h6 x k q1 q2 q3 q4 q5⟩
  · rw [← h3]
    exact vw_eq (fun x k q1 q2 => h2.2 x k (by unfold actn at *; omega) (by unfold actn at *; omega) (by unfold actn at *; omega)) (by omega)
  · rw [h2.2 62 1 (by omega) (by omega) (by omega)]; exact h4
  · rw [h2.2 62 2 (by omega) (by omega) (by omega)]; exact h5
theorem remP_8 {σ σ1 S S1 : zv_H} {n : Int} (hb : 0 ≤ n ∧ n < 20) (h : remP σ σ1 n S S1) {x k : Int} (hx : x < 30) : σ1 x k = σ x k := h.2.2.2.2 x k (by omega) (by unfold actn; omega) (by omega) (by omega) (by omega)
def rfu (σ : zv_H) (k : Int) : zv_H := zup σ 288 k (w32 (σ 288 k + 1))
set_option maxHeartbeats 4000000 in
set_option maxRecDepth 20000 in
theorem c_NT_refuse {Γ : zv_M} {L : Int} {σ : zv_H} {k : Int} (hk : 0 ≤ k ∧ k < 6) : zC Γ m_NT_refuse 1 0 0 (GM L) [zR 1, zI k] σ (zFn none (GM L) (rfu σ k)) := by
  refine zC_of (ls0 := [_, _]) zm_NT_refuse (by decide) rfl (Nat.le_of_ble_eq_true rfl) ?_
  generalize hQ : (zFn none (GM L) (rfu σ k)) = Q
  refine zaload_n (k := 0) rfl rfl ?_
  refine zgF 16 (k := 1) rfl ob_1 fl_11_97 rfl fx_1_16 ?_
  refine ziload_n (k := 2) rfl rfl ?_
  refine zaload_n (k := 3) rfl rfl ?_
  refine zgF 16 (k := 4) rfl ob_1 fl_11_97 rfl fx_1_16 ?_
  refine ziload_n (k := 5) rfl rfl ?_
  refine zfS1 (k := 6) rfl (c_NT_at ar_288) fm_NT_at lk_11_174 rfl rfl (Nat.le_of_ble_eq_true rfl) (by decide) ⟨by decide, by decide⟩ ?_
  (first | rw [zat_in (by omega)] | skip)
  refine ziconst (k := 7) rfl (by decide) ?_
  refine ziadd (k := 8) rfl ?_
  refine zfS0 (k := 9) rfl (c_NT_put ar_288 (by omega)) fm_NT_put lk_11_244 rfl rfl (Nat.le_of_ble_eq_true rfl) (by decide) ⟨by decide, by decide⟩ ?_
  (first | rw [zpt_in (by omega)] | skip)
  refine zreturn (k := 10) rfl rfl rfl ?_
  rw [← hQ]
  exact ⟨rfl, rfl, rfl⟩
set_option maxHeartbeats 4000000 in
set_option maxRecDepth 20000 in
theorem c_NT_status {Γ : zv_M} {L : Int} {σ : zv_H} {k : Int} : zC Γ m_NT_status 1 0 0 (GM L) [zR 1, zI k] σ (zFn (some (zI (if 0 ≤ k ∧ k < 6 then σ 288 k else -1))) (GM L) σ) := by
  refine zC_of (ls0 := [_, _]) zm_NT_status (by decide) rfl (Nat.le_of_ble_eq_true rfl) ?_
  generalize hQ : (zFn (some (zI (if 0 ≤ k ∧ k < 6 then σ 288 k else -1))) (GM L) σ) = Q
  refine ziload_n (k := 0) rfl rfl ?_
  refine zif_lt (k := 1) rfl rfl (fun c1 => ?_) (fun c1 => ?_)
  · skip
    refine ziconst (k := 5) rfl (by decide) ?_
    refine zireturn (k := 6) rfl rfl rfl ?_
    rw [← hQ]
    exact ⟨by first | (rw [if_pos (by omega)]; done) | (rw [if_neg (by omega)]; done) | (exfalso; omega), rfl, rfl⟩
  · skip
    refine ziload_n (k := 2) rfl rfl ?_
    refine zbipush (k := 3) rfl rfl ?_
    refine zicmp_lt (k := 4) rfl rfl (fun c2 => ?_) (fun c2 => ?_)
    · skip
      refine zaload_n (k := 7) rfl rfl ?_
      refine zgF 16 (k := 8) rfl ob_1 fl_11_97 rfl fx_1_16 ?_
      refine ziload_n (k := 9) rfl rfl ?_
      refine zfS1 (k := 10) rfl (c_NT_at ar_288) fm_NT_at lk_11_174 rfl rfl (Nat.le_of_ble_eq_true rfl) (by decide) ⟨by decide, by decide⟩ ?_
      (first | rw [zat_in (by omega)] | skip)
      refine zireturn (k := 11) rfl rfl rfl ?_
      rw [← hQ]
      exact ⟨by first | (rw [if_pos (by omega)]; done) | (rw [if_neg (by omega)]; done) | (exfalso; omega), rfl, rfl⟩
    · skip
      refine ziconst (k := 5) rfl (by decide) ?_
      refine zireturn (k := 6) rfl rfl rfl ?_
      rw [← hQ]
      exact ⟨by first | (rw [if_pos (by omega)]; done) | (rw [if_neg (by omega)]; done) | (exfalso; omega), rfl, rfl⟩
set_option maxHeartbeats 4000000 in
set_option maxRecDepth 20000 in
theorem c_NT_seed {Γ : zv_M} {L : Int} {σ : zv_H} {v : Int} : zC Γ m_NT_seed 2 0 0 (GM L) [zR 1, zI v] σ (zFn (some (zI (if v < 0 then 0 else 1))) (GM L) (if v < 0 then rfu σ 5 else zup σ 1 10 v)) := by
  refine zC_of (ls0 := [_, _]) zm_NT_seed (by decide) rfl (Nat.le_of_ble_eq_true rfl) ?_
  generalize hQ : (zFn (some (zI (if v < 0 then 0 else 1))) (GM L) (if v < 0 then rfu σ 5 else zup σ 1 10 v)) = Q
  refine ziload_n (k := 0) rfl rfl ?_
  refine zif_ge (k := 1) rfl rfl (fun c1 => ?_) (fun c1 => ?_)
  · skip
    refine zaload_n (k := 7) rfl rfl ?_
    refine ziload_n (k := 8) rfl rfl ?_
    refine zpI 10 (k := 9) rfl ob_1 fl_11_77 ⟨_, rfl, rfl⟩ rfl (by omega) rfl fx_1_10 ?_
    refine ziconst (k := 10) rfl (by decide) ?_
    refine zzreturn (k := 11) rfl rfl (by first | exact Or.inl rfl | exact Or.inr rfl | omega) rfl ?_
    rw [← hQ]
    first | exact ⟨by rw [if_pos (by omega)], rfl, by rw [if_pos (by omega)]⟩ | exact ⟨by rw [if_neg (by omega)], rfl, by rw [if_neg (by omega)]⟩
  · skip
    refine zaload_n (k := 2) rfl rfl ?_
    refine ziconst (k := 3) rfl (by decide) ?_
    refine zfV0 (k := 4) rfl (c_NT_refuse (by omega)) fm_NT_refuse lk_11_104 rfl rfl ob_1 ⟨_, rfl, rfl⟩ (Nat.le_of_ble_eq_true rfl) (by decide) ⟨by decide, by decide⟩ ?_
    refine ziconst (k := 5) rfl (by decide) ?_
    refine zzreturn (k := 6) rfl rfl (by first | exact Or.inl rfl | exact Or.inr rfl | omega) rfl ?_
    rw [← hQ]
    first | exact ⟨by rw [if_pos (by omega)], rfl, by rw [if_pos (by omega)]⟩ | exact ⟨by rw [if_neg (by omega)], rfl, by rw [if_neg (by omega)]⟩
set_option maxHeartbeats 4000000 in
set_option maxRecDepth 20000 in
theorem c_NT_pay {Γ : zv_M} {L : Int} {w : Int} {σ S Wm : zv_H} (h8 : σ 1 8 = w) (hw : w ∈ wrL) (hW : vw 12 σ w = Wm) (hS : vw 10 σ 30 = S) (hSI : SI (Wm 0 1) (Wm 0 3) S) (hWI : WI Wm) (hZ : SZ S) {n : Int} (hn : σ 62 1 = n) (hb : 0 ≤ n ∧ n < 20) (hac : 0 ≤ σ 62 2 ∧ σ 62 2 ≤ 20) (hAn : SZ (vw 10 σ (actn n))) {c p : Int} : zC Γ m_NT_pay 4 0 0 (GM L) [zR 1, zI c, zI p] σ (zPI (GM L) (fun z σ' => (¬ ((0 ≤ c ∧ c < Wm 0 1) ∧ (0 ≤ p ∧ p ≤ 999) ∧ S 2 c ≠ p) ∧ z = 0 ∧ σ' = rfu σ 3) ∨ (((0 ≤ c ∧ c < Wm 0 1) ∧ (0 ≤ p ∧ p ≤ 999) ∧ S 2 c ≠ p) ∧ z = 1 ∧ remP σ σ' n S (zup S 2 c p)))) := by
  refine zC_of (ls0 := [_, _, _]) zm_NT_pay (by decide) rfl (Nat.le_of_ble_eq_true rfl) ?_
  generalize hQ : (zPI (GM L) (fun z σ' => (¬ ((0 ≤ c ∧ c < Wm 0 1) ∧ (0 ≤ p ∧ p ≤ 999) ∧ S 2 c ≠ p) ∧ z = 0 ∧ σ' = rfu σ 3) ∨ (((0 ≤ c ∧ c < Wm 0 1) ∧ (0 ≤ p ∧ p ≤ 999) ∧ S 2 c ≠ p) ∧ z = 1 ∧ remP σ σ' n S (zup S 2 c p)))) = Q
  have ha : (30 : Int) ∈ stL := by decide
  have e30 : σ 30 = S 0 := st_e0 hS
  have e31 : σ 31 = S 1 := st_e (f := 1) hS (by omega)
  have e32 : σ 32 = S 2 := st_e (f := 2) hS (by omega)
  have e33 : σ 33 = S 3 := st_e (f := 3) hS (by omega)
  have e34 : σ 34 = S 4 := st_e (f := 4) hS (by omega)
  have e35 : σ 35 = S 5 := st_e (f := 5) hS (by omega)
  have e36 : σ 36 = S 6 := st_e (f := 6) hS (by omega)
  have e37 : σ 37 = S 7 := st_e (f := 7) hS (by omega)
  have e38 : σ 38 = S 8 := st_e (f := 8) hS (by omega)
  have e39 : σ 39 = S 9 := st_e (f := 9) hS (by omega)
  have e40 : σ 40 = S 10 := st_e (f := 10) hS (by omega)
  have ew0 : σ w = Wm 0 := st_e0 hW
  have ew1 : σ (w + 1) = Wm 1 := st_e (f := 1) hW (by omega)
  have ew2 : σ (w + 2) = Wm 2 := st_e (f := 2) hW (by omega)
  have ew3 : σ (w + 3) = Wm 3 := st_e (f := 3) hW (by omega)
  have ew4 : σ (w + 4) = Wm 4 := st_e (f := 4) hW (by omega)
  have ew5 : σ (w + 5) = Wm 5 := st_e (f := 5) hW (by omega)
  have ew6 : σ (w + 6) = Wm 6 := st_e (f := 6) hW (by omega)
  have ew7 : σ (w + 7) = Wm 7 := st_e (f := 7) hW (by omega)
  have ew8 : σ (w + 8) = Wm 8 := st_e (f := 8) hW (by omega)
  have ew9 : σ (w + 9) = Wm 9 := st_e (f := 9) hW (by omega)
  have ew10 : σ (w + 10) = Wm 10 := st_e (f := 10) hW (by omega)
  have ew11 : σ (w + 11) = Wm 11 := st_e (f := 11) hW (by omega)
  have ew12 : σ (w + 12) = Wm 12 := st_e (f := 12) hW (by omega)
  have hSI0 := hSI
  have hWI0 := hWI
  obtain ⟨b0, b11, b12, bc, bm, bl, br⟩ := hSI
  obtain ⟨w1, w2, w3, w4, w5, w6, w7, w8, w9, w10⟩ := hWI
  refine zaload_n (k := 0) rfl rfl ?_
  refine zgR 8 (k := 1) rfl ob_1 fl_11_19 rfl fx_1_8 ?_
  first | rw [h8] | rw [h0.2 1 8 (by omega) (by omega) (by omega), h8]
  refine ziload_n (k := 2) rfl rfl ?_
  refine zfV1 (k := 3) rfl (c_War_hasCounty hw) fm_War_hasCounty lk_11_168 rfl rfl (wr_ob hw) ⟨_, rfl, rfl⟩ (Nat.le_of_ble_eq_true rfl) (by decide) ⟨by decide, by decide⟩ ?_
  try simp only [e30, e31, e32, e33, e34, e35, e36, e37, e38, e39, e40, ew0, ew1, ew2, ew3, ew4, ew5, ew6, ew7, ew8, ew9, ew10, ew11, ew12]
  refine zif_eq (k := 4) rfl rfl (fun c1 => ?_) (fun c1 => ?_)
  · skip
    refine zaload_n (k := 17) rfl rfl ?_
    refine ziconst (k := 18) rfl (by decide) ?_
    refine zfV0 (k := 19) rfl (c_NT_refuse (by omega)) fm_NT_refuse lk_11_104 rfl rfl ob_1 ⟨_, rfl, rfl⟩ (Nat.le_of_ble_eq_true rfl) (by decide) ⟨by decide, by decide⟩ ?_
    refine ziconst (k := 20) rfl (by decide) ?_
    refine zzreturn (k := 21) rfl rfl (by first | exact Or.inl rfl | exact Or.inr rfl | omega) rfl ?_
    rw [← hQ]
    refine ⟨rfl, _, rfl, Or.inl ⟨?_, rfl, rfl⟩⟩
    (try split at c1) <;> omega
  · skip
    have hcc : 0 ≤ c ∧ c < Wm 0 1 := by split at c1 <;> first | assumption | (exfalso; omega)
    refine ziload_n (k := 5) rfl rfl ?_
    refine zif_lt (k := 6) rfl rfl (fun c2 => ?_) (fun c2 => ?_)
    · skip
      refine zaload_n (k := 17) rfl rfl ?_
      refine ziconst (k := 18) rfl (by decide) ?_
      refine zfV0 (k := 19) rfl (c_NT_refuse (by omega)) fm_NT_refuse lk_11_104 rfl rfl ob_1 ⟨_, rfl, rfl⟩ (Nat.le_of_ble_eq_true rfl) (by decide) ⟨by decide, by decide⟩ ?_
      refine ziconst (k := 20) rfl (by decide) ?_
      refine zzreturn (k := 21) rfl rfl (by first | exact Or.inl rfl | exact Or.inr rfl | omega) rfl ?_
      rw [← hQ]
      refine ⟨rfl, _, rfl, Or.inl ⟨?_, rfl, rfl⟩⟩
      (try split at c1) <;> omega
    · skip
      refine ziload_n (k := 7) rfl rfl ?_
      refine zsipush (k := 8) rfl rfl ?_
      refine zicmp_gt (k := 9) rfl rfl (fun c3 => ?_) (fun c3 => ?_)
      · skip
        refine zaload_n (k := 17) rfl rfl ?_
        refine ziconst (k := 18) rfl (by decide) ?_
        refine zfV0 (k := 19) rfl (c_NT_refuse (by omega)) fm_NT_refuse lk_11_104 rfl rfl ob_1 ⟨_, rfl, rfl⟩ (Nat.le_of_ble_eq_true rfl) (by decide) ⟨by decide, by decide⟩ ?_
        refine ziconst (k := 20) rfl (by decide) ?_
        refine zzreturn (k := 21) rfl rfl (by first | exact Or.inl rfl | exact Or.inr rfl | omega) rfl ?_
        rw [← hQ]
        refine ⟨rfl, _, rfl, Or.inl ⟨?_, rfl, rfl⟩⟩
        (try split at c1) <;> omega
      · skip
        refine zaload_n (k := 10) rfl rfl ?_
        refine zgF 6 (k := 11) rfl ob_1 fl_11_29 rfl fx_1_6 ?_
        refine zgF 2 (k := 12) rfl ob_30 fl_11_187 rfl fx_30_2 ?_
        refine ziload_n (k := 13) rfl rfl ?_
        refine zfS1 (k := 14) rfl (c_NT_at ar_32) fm_NT_at lk_11_174 rfl rfl (Nat.le_of_ble_eq_true rfl) (by decide) ⟨by decide, by decide⟩ ?_
        rw [zat_in (by omega)]
        try simp only [e30, e31, e32, e33, e34, e35, e36, e37, e38, e39, e40, ew0, ew1, ew2, ew3, ew4, ew5, ew6, ew7, ew8, ew9, ew10, ew11, ew12]
        refine ziload_n (k := 15) rfl rfl ?_
        refine zicmp_ne (k := 16) rfl rfl (fun c4 => ?_) (fun c4 => ?_)
        · skip
          refine zaload_n (k := 22) rfl rfl ?_
          refine zgF 4 (k := 23) rfl ob_1 fl_11_64 rfl fx_1_4 ?_
          refine zaload_n (k := 24) rfl rfl ?_
          refine zgF 6 (k := 25) rfl ob_1 fl_11_29 rfl fx_1_6 ?_
          refine zpV0 (k := 26) rfl (k_rem hn hb hac hS hZ hAn) fm_Acts_remember lk_11_275 rfl rfl ob_62 ⟨_, rfl, rfl⟩ (Nat.le_of_ble_eq_true rfl) (by decide) ⟨by decide, by decide⟩ (fun σ1 hr => ?_)
          have h0 : stp σ1 σ1 30 S := ⟨hr.1, fun _ _ _ _ _ => rfl⟩
          refine zaload_n (k := 27) rfl rfl ?_
          refine zgF 6 (k := 28) rfl ob_1 fl_11_29 rfl fx_1_6 ?_
          refine zgF 2 (k := 29) rfl ob_30 fl_11_187 rfl fx_30_2 ?_
          refine ziload_n (k := 30) rfl rfl ?_
          refine ziload_n (k := 31) rfl rfl ?_
          refine zpS0 (k := 32) rfl (k_put (a := 30) (g := 2) ar_32 (by omega) h0 (by omega) (by omega)) fm_NT_put lk_11_244 rfl rfl (Nat.le_of_ble_eq_true rfl) (by decide) ⟨by decide, by decide⟩ (fun σn hh => ?_)
          clear h0
          have h0 := hh
          clear hh
          refine ziconst (k := 33) rfl (by decide) ?_
          refine zzreturn (k := 34) rfl rfl (by first | exact Or.inl rfl | exact Or.inr rfl | omega) rfl ?_
          rw [← hQ]
          exact ⟨rfl, _, rfl, Or.inr ⟨by omega, rfl, remP_st hb hr h0⟩⟩
        · skip
          refine zaload_n (k := 17) rfl rfl ?_
          refine ziconst (k := 18) rfl (by decide) ?_
          refine zfV0 (k := 19) rfl (c_NT_refuse (by omega)) fm_NT_refuse lk_11_104 rfl rfl ob_1 ⟨_, rfl, rfl⟩ (Nat.le_of_ble_eq_true rfl) (by decide) ⟨by decide, by decide⟩ ?_
          refine ziconst (k := 20) rfl (by decide) ?_
          refine zzreturn (k := 21) rfl rfl (by first | exact Or.inl rfl | exact Or.inr rfl | omega) rfl ?_
          rw [← hQ]
          refine ⟨rfl, _, rfl, Or.inl ⟨?_, rfl, rfl⟩⟩
          (try split at c1) <;> omega
set_option maxHeartbeats 4000000 in
set_option maxRecDepth 20000 in
theorem c_NT_guard {Γ : zv_M} {L : Int} {w : Int} {σ S Wm : zv_H} (h8 : σ 1 8 = w) (hw : w ∈ wrL) (hW : vw 12 σ w = Wm) (hS : vw 10 σ 30 = S) (hSI : SI (Wm 0 1) (Wm 0 3) S) (hWI : WI Wm) (hZ : SZ S) {n : Int} (hn : σ 62 1 = n) (hb : 0 ≤ n ∧ n < 20) (hac : 0 ≤ σ 62 2 ∧ σ 62 2 ≤ 20) (hAn : SZ (vw 10 σ (actn n))) {c p : Int} : zC Γ m_NT_guard 4 0 0 (GM L) [zR 1, zI c, zI p] σ (zPI (GM L) (fun z σ' => (¬ ((0 ≤ c ∧ c < Wm 0 1) ∧ (0 ≤ p ∧ p ≤ 9) ∧ S 3 c ≠ p) ∧ z = 0 ∧ σ' = rfu σ 3) ∨ (((0 ≤ c ∧ c < Wm 0 1) ∧ (0 ≤ p ∧ p ≤ 9) ∧ S 3 c ≠ p) ∧ z = 1 ∧ remP σ σ' n S (zup S 3 c p)))) := by
  refine zC_of (ls0 := [_, _, _]) zm_NT_guard (by decide) rfl (Nat.le_of_ble_eq_true rfl) ?_
  generalize hQ : (zPI (GM L) (fun z σ' => (¬ ((0 ≤ c ∧ c < Wm 0 1) ∧ (0 ≤ p ∧ p ≤ 9) ∧ S 3 c ≠ p) ∧ z = 0 ∧ σ' = rfu σ 3) ∨ (((0 ≤ c ∧ c < Wm 0 1) ∧ (0 ≤ p ∧ p ≤ 9) ∧ S 3 c ≠ p) ∧ z = 1 ∧ remP σ σ' n S (zup S 3 c p)))) = Q
  have ha : (30 : Int) ∈ stL := by decide
  have e30 : σ 30 = S 0 := st_e0 hS
  have e31 : σ 31 = S 1 := st_e (f := 1) hS (by omega)
  have e32 : σ 32 = S 2 := st_e (f := 2) hS (by omega)
  have e33 : σ 33 = S 3 := st_e (f := 3) hS (by omega)
  have e34 : σ 34 = S 4 := st_e (f := 4) hS (by omega)
  have e35 : σ 35 = S 5 := st_e (f := 5) hS (by omega)
  have e36 : σ 36 = S 6 := st_e (f := 6) hS (by omega)
  have e37 : σ 37 = S 7 := st_e (f := 7) hS (by omega)
  have e38 : σ 38 = S 8 := st_e (f := 8) hS (by omega)
  have e39 : σ 39 = S 9 := st_e (f := 9) hS (by omega)
  have e40 : σ 40 = S 10 := st_e (f := 10) hS (by omega)
  have ew0 : σ w = Wm 0 := st_e0 hW
  have ew1 : σ (w + 1) = Wm 1 := st_e (f := 1) hW (by omega)
  have ew2 : σ (w + 2) = Wm 2 := st_e (f := 2) hW (by omega)
  have ew3 : σ (w + 3) = Wm 3 := st_e (f := 3) hW (by omega)
  have ew4 : σ (w + 4) = Wm 4 := st_e (f := 4) hW (by omega)
  have ew5 : σ (w + 5) = Wm 5 := st_e (f := 5) hW (by omega)
  have ew6 : σ (w + 6) = Wm 6 := st_e (f := 6) hW (by omega)
  have ew7 : σ (w + 7) = Wm 7 := st_e (f := 7) hW (by omega)
  have ew8 : σ (w + 8) = Wm 8 := st_e (f := 8) hW (by omega)
  have ew9 : σ (w + 9) = Wm 9 := st_e (f := 9) hW (by omega)
  have ew10 : σ (w + 10) = Wm 10 := st_e (f := 10) hW (by omega)
  have ew11 : σ (w + 11) = Wm 11 := st_e (f := 11) hW (by omega)
  have ew12 : σ (w + 12) = Wm 12 := st_e (f := 12) hW (by omega)
  have hSI0 := hSI
  have hWI0 := hWI
  obtain ⟨b0, b11, b12, bc, bm, bl, br⟩ := hSI
  obtain ⟨w1, w2, w3, w4, w5, w6, w7, w8, w9, w10⟩ := hWI
  refine zaload_n (k := 0) rfl rfl ?_
  refine zgR 8 (k := 1) rfl ob_1 fl_11_19 rfl fx_1_8 ?_
  first | rw [h8] | rw [h0.2 1 8 (by omega) (by omega) (by omega), h8]
  refine ziload_n (k := 2) rfl rfl ?_
  refine zfV1 (k := 3) rfl (c_War_hasCounty hw) fm_War_hasCounty lk_11_168 rfl rfl (wr_ob hw) ⟨_, rfl, rfl⟩ (Nat.le_of_ble_eq_true rfl) (by decide) ⟨by decide, by decide⟩ ?_
  try simp only [e30, e31, e32, e33, e34, e35, e36, e37, e38, e39, e40, ew0, ew1, ew2, ew3, ew4, ew5, ew6, ew7, ew8, ew9, ew10, ew11, ew12]
  refine zif_eq (k := 4) rfl rfl (fun c1 => ?_) (fun c1 => ?_)
  · skip
    refine zaload_n (k := 17) rfl rfl ?_
    refine ziconst (k := 18) rfl (by decide) ?_
    refine zfV0 (k := 19) rfl (c_NT_refuse (by omega)) fm_NT_refuse lk_11_104 rfl rfl ob_1 ⟨_, rfl, rfl⟩ (Nat.le_of_ble_eq_true rfl) (by decide) ⟨by decide, by decide⟩ ?_
    refine ziconst (k := 20) rfl (by decide) ?_
    refine zzreturn (k := 21) rfl rfl (by first | exact Or.inl rfl | exact Or.inr rfl | omega) rfl ?_
    rw [← hQ]
    refine ⟨rfl, _, rfl, Or.inl ⟨?_, rfl, rfl⟩⟩
    (try split at c1) <;> omega
  · skip
    have hcc : 0 ≤ c ∧ c < Wm 0 1 := by split at c1 <;> first | assumption | (exfalso; omega)
    refine ziload_n (k := 5) rfl rfl ?_
    refine zif_lt (k := 6) rfl rfl (fun c2 => ?_) (fun c2 => ?_)
    · skip
      refine zaload_n (k := 17) rfl rfl ?_
      refine ziconst (k := 18) rfl (by decide) ?_
      refine zfV0 (k := 19) rfl (c_NT_refuse (by omega)) fm_NT_refuse lk_11_104 rfl rfl ob_1 ⟨_, rfl, rfl⟩ (Nat.le_of_ble_eq_true rfl) (by decide) ⟨by decide, by decide⟩ ?_
      refine ziconst (k := 20) rfl (by decide) ?_
      refine zzreturn (k := 21) rfl rfl (by first | exact Or.inl rfl | exact Or.inr rfl | omega) rfl ?_
      rw [← hQ]
      refine ⟨rfl, _, rfl, Or.inl ⟨?_, rfl, rfl⟩⟩
      (try split at c1) <;> omega
    · skip
      refine ziload_n (k := 7) rfl rfl ?_
      refine zbipush (k := 8) rfl rfl ?_
      refine zicmp_gt (k := 9) rfl rfl (fun c3 => ?_) (fun c3 => ?_)
      · skip
        refine zaload_n (k := 17) rfl rfl ?_
        refine ziconst (k := 18) rfl (by decide) ?_
        refine zfV0 (k := 19) rfl (c_NT_refuse (by omega)) fm_NT_refuse lk_11_104 rfl rfl ob_1 ⟨_, rfl, rfl⟩ (Nat.le_of_ble_eq_true rfl) (by decide) ⟨by decide, by decide⟩ ?_
        refine ziconst (k := 20) rfl (by decide) ?_
        refine zzreturn (k := 21) rfl rfl (by first | exact Or.inl rfl | exact Or.inr rfl | omega) rfl ?_
        rw [← hQ]
        refine ⟨rfl, _, rfl, Or.inl ⟨?_, rfl, rfl⟩⟩
        (try split at c1) <;> omega
      · skip
        refine zaload_n (k := 10) rfl rfl ?_
        refine zgF 6 (k := 11) rfl ob_1 fl_11_29 rfl fx_1_6 ?_
        refine zgF 3 (k := 12) rfl ob_30 fl_11_190 rfl fx_30_3 ?_
        refine ziload_n (k := 13) rfl rfl ?_
        refine zfS1 (k := 14) rfl (c_NT_at ar_33) fm_NT_at lk_11_174 rfl rfl (Nat.le_of_ble_eq_true rfl) (by decide) ⟨by decide, by decide⟩ ?_
        rw [zat_in (by omega)]
        try simp only [e30, e31, e32, e33, e34, e35, e36, e37, e38, e39, e40, ew0, ew1, ew2, ew3, ew4, ew5, ew6, ew7, ew8, ew9, ew10, ew11, ew12]
        refine ziload_n (k := 15) rfl rfl ?_
        refine zicmp_ne (k := 16) rfl rfl (fun c4 => ?_) (fun c4 => ?_)
        · skip
          refine zaload_n (k := 22) rfl rfl ?_
          refine zgF 4 (k := 23) rfl ob_1 fl_11_64 rfl fx_1_4 ?_
          refine zaload_n (k := 24) rfl rfl ?_
          refine zgF 6 (k := 25) rfl ob_1 fl_11_29 rfl fx_1_6 ?_
          refine zpV0 (k := 26) rfl (k_rem hn hb hac hS hZ hAn) fm_Acts_remember lk_11_275 rfl rfl ob_62 ⟨_, rfl, rfl⟩ (Nat.le_of_ble_eq_true rfl) (by decide) ⟨by decide, by decide⟩ (fun σ1 hr => ?_)
          have h0 : stp σ1 σ1 30 S := ⟨hr.1, fun _ _ _ _ _ => rfl⟩
          refine zaload_n (k := 27) rfl rfl ?_
          refine zgF 6 (k := 28) rfl ob_1 fl_11_29 rfl fx_1_6 ?_
          refine zgF 3 (k := 29) rfl ob_30 fl_11_190 rfl fx_30_3 ?_
          refine ziload_n (k := 30) rfl rfl ?_
          refine ziload_n (k := 31) rfl rfl ?_
          refine zpS0 (k := 32) rfl (k_put (a := 30) (g := 3) ar_33 (by omega) h0 (by omega) (by omega)) fm_NT_put lk_11_244 rfl rfl (Nat.le_of_ble_eq_true rfl) (by decide) ⟨by decide, by decide⟩ (fun σn hh => ?_)
          clear h0
          have h0 := hh
          clear hh
          refine ziconst (k := 33) rfl (by decide) ?_
          refine zzreturn (k := 34) rfl rfl (by first | exact Or.inl rfl | exact Or.inr rfl | omega) rfl ?_
          rw [← hQ]
          exact ⟨rfl, _, rfl, Or.inr ⟨by omega, rfl, remP_st hb hr h0⟩⟩
        · skip
          refine zaload_n (k := 17) rfl rfl ?_
          refine ziconst (k := 18) rfl (by decide) ?_
          refine zfV0 (k := 19) rfl (c_NT_refuse (by omega)) fm_NT_refuse lk_11_104 rfl rfl ob_1 ⟨_, rfl, rfl⟩ (Nat.le_of_ble_eq_true rfl) (by decide) ⟨by decide, by decide⟩ ?_
          refine ziconst (k := 20) rfl (by decide) ?_
          refine zzreturn (k := 21) rfl rfl (by first | exact Or.inl rfl | exact Or.inr rfl | omega) rfl ?_
          rw [← hQ]
          refine ⟨rfl, _, rfl, Or.inl ⟨?_, rfl, rfl⟩⟩
          (try split at c1) <;> omega
