theorem stM_c0 {σ0 σ Wm S : zv_H} {b f i x : Int} (h : stM σ0 σ b 0 Wm S) (hf : 1 ≤ f ∧ f ≤ 3) (hi : 0 ≤ i ∧ i < 7) (hc : Wm 0 1 ≤ 7) : stM σ0 (zup σ (315 + f) i x) b 0 Wm (zup S f i x) := by
  have q := stM_c (x := x) h hf hi hc
  rw [show 7 * (0 : Int) + i = i by omega] at q
  exact q
theorem stM_m0 {σ0 σ Wm S : zv_H} {b f i x : Int} (h : stM σ0 σ b 0 Wm S) (hf : 4 ≤ f ∧ f ≤ 8) (hi : 0 ≤ i ∧ i < 6) (hm : Wm 0 3 ≤ 6) : stM σ0 (zup σ (315 + f) i x) b 0 Wm (zup S f i x) := by
  have q := stM_m (x := x) h hf hi hm
  rw [show 6 * (0 : Int) + i = i by omega] at q
  exact q
set_option maxHeartbeats 4000000 in
set_option maxRecDepth 20000 in
theorem c_M_pay {Γ : zv_M} {L : Int} {σ Wm S : zv_H} {b : Int} (hb1_q : b = 0 ∨ b = 1) (h0_q : stM σ σ b 0 Wm S) (hSI : SI (Wm 0 1) (Wm 0 3) S) (hWI : WI Wm) {l : List zv_H} (hac : acM σ (Wm 0 1) (Wm 0 3) l) {c p : Int}  : zC Γ m_M_pay 4 0 0 (GM L) [zR 289, zI c, zI p] σ (zPI (GM L) (fun z σ' => (¬ ((0 ≤ c ∧ c < Wm 0 1) ∧ (0 ≤ p ∧ p ≤ 999) ∧ S 2 c ≠ p) ∧ z = 0 ∧ σ' = rfM σ 3) ∨ (((0 ≤ c ∧ c < Wm 0 1) ∧ (0 ≤ p ∧ p ≤ 999) ∧ S 2 c ≠ p) ∧ z = 1 ∧ actP σ σ' b Wm (zup S 2 c p) ((S :: l).take 20)))) := by
  refine zC_of (ls0 := [_, _, _]) zm_M_pay (by decide) rfl (Nat.le_of_ble_eq_true rfl) ?_
  generalize hQ : (zPI (GM L) (fun z σ' => (¬ ((0 ≤ c ∧ c < Wm 0 1) ∧ (0 ≤ p ∧ p ≤ 999) ∧ S 2 c ≠ p) ∧ z = 0 ∧ σ' = rfM σ 3) ∨ (((0 ≤ c ∧ c < Wm 0 1) ∧ (0 ≤ p ∧ p ≤ 999) ∧ S 2 c ≠ p) ∧ z = 1 ∧ actP σ σ' b Wm (zup S 2 c p) ((S :: l).take 20)))) = Q
  have hb := h0_q.2.2.1
  have w1_q := hWI.1
  have w3_q := hWI.2.2.1
  have r0_q := rM_0 h0_q.1
  have b00_q := hSI.1
  have b12_q := hSI.2.2.1
  have bc := hSI.2.2.2.1
  have bm := hSI.2.2.2.2.1
  have bl := hSI.2.2.2.2.2.1
  refine zaload_n (k := 0) rfl rfl ?_
  refine ziload_n (k := 1) rfl rfl ?_
  refine zfV1 (k := 2) rfl (c_M_isCounty hb hb1_q) fm_M_isCounty lk_12_492 rfl rfl ob_289 ⟨_, rfl, rfl⟩ (Nat.le_of_ble_eq_true rfl) (by decide) ⟨by decide, by decide⟩ ?_
  rw [h0_q.2.1.1.1]
  refine zif_eq (k := 3) rfl rfl (fun c1_q => ?_) (fun c1_q => ?_)
  · skip
    refine zaload_n (k := 15) rfl rfl ?_
    refine ziconst (k := 16) rfl (by decide) ?_
    refine zfV1 (k := 17) rfl (c_M_refuses (by omega)) fm_M_refuses lk_12_231 rfl rfl ob_289 ⟨_, rfl, rfl⟩ (Nat.le_of_ble_eq_true rfl) (by decide) ⟨by decide, by decide⟩ ?_
    refine zif_lt (k := 18) rfl rfl (fun c2_q => ?_) (fun c2_q => ?_)
    · skip
      refine ziconst (k := 21) rfl (by decide) ?_
      refine zzreturn (k := 22) rfl rfl (by first | exact Or.inl rfl | exact Or.inr rfl | omega) rfl ?_
      rw [← hQ]
      first
      | (exfalso; omega)
      | (refine ⟨rfl, _, rfl, Or.inl ⟨?_, rfl, rfl⟩⟩
         omega)
    · skip
      refine ziconst (k := 19) rfl (by decide) ?_
      refine zgoto (k := 20) rfl rfl ?_
      refine zzreturn (k := 22) rfl rfl (by first | exact Or.inl rfl | exact Or.inr rfl | omega) rfl ?_
      rw [← hQ]
      first
      | (exfalso; omega)
      | (refine ⟨rfl, _, rfl, Or.inl ⟨?_, rfl, rfl⟩⟩
         omega)
  · skip
    have hcc : 0 ≤ c ∧ c < Wm 0 1 := by omega
    have rc := r0_q.2.1 c hcc.1 hcc.2
    refine ziload_n (k := 4) rfl rfl ?_
    refine ziconst (k := 5) rfl (by decide) ?_
    refine zsipush (k := 6) rfl rfl ?_
    refine zfS1 (k := 7) rfl c_M_is fm_M_is lk_12_315 rfl rfl (Nat.le_of_ble_eq_true rfl) (by decide) ⟨by decide, by decide⟩ ?_
    refine zif_eq (k := 8) rfl rfl (fun c3_q => ?_) (fun c3_q => ?_)
    · skip
      refine zaload_n (k := 15) rfl rfl ?_
      refine ziconst (k := 16) rfl (by decide) ?_
      refine zfV1 (k := 17) rfl (c_M_refuses (by omega)) fm_M_refuses lk_12_231 rfl rfl ob_289 ⟨_, rfl, rfl⟩ (Nat.le_of_ble_eq_true rfl) (by decide) ⟨by decide, by decide⟩ ?_
      refine zif_lt (k := 18) rfl rfl (fun c4_q => ?_) (fun c4_q => ?_)
      · skip
        refine ziconst (k := 21) rfl (by decide) ?_
        refine zzreturn (k := 22) rfl rfl (by first | exact Or.inl rfl | exact Or.inr rfl | omega) rfl ?_
        rw [← hQ]
        first
        | (exfalso; omega)
        | (refine ⟨rfl, _, rfl, Or.inl ⟨?_, rfl, rfl⟩⟩
           omega)
      · skip
        refine ziconst (k := 19) rfl (by decide) ?_
        refine zgoto (k := 20) rfl rfl ?_
        refine zzreturn (k := 22) rfl rfl (by first | exact Or.inl rfl | exact Or.inr rfl | omega) rfl ?_
        rw [← hQ]
        first
        | (exfalso; omega)
        | (refine ⟨rfl, _, rfl, Or.inl ⟨?_, rfl, rfl⟩⟩
           omega)
    · skip
      have hpp : 0 ≤ p ∧ p ≤ 999 := by omega
      refine zaload_n (k := 9) rfl rfl ?_
      refine zgF 47 (k := 10) rfl ob_289 fl_12_156 rfl fx_289_47 ?_
      refine ziload_n (k := 11) rfl rfl ?_
      refine ziaload (k := 12) rfl ar_317 ⟨by omega, by omega⟩ ?_
      rw [rc.2.1]
      refine ziload_n (k := 13) rfl rfl ?_
      refine zicmp_ne (k := 14) rfl rfl (fun c5_q => ?_) (fun c5_q => ?_)
      · skip
        refine zaload_n (k := 23) rfl rfl ?_
        refine zpV0 (k := 24) rfl (c_M_keeps hb1_q h0_q hSI hWI hac) fm_M_keeps lk_12_522 rfl rfl ob_289 ⟨_, rfl, rfl⟩ (Nat.le_of_ble_eq_true rfl) (by decide) ⟨by decide, by decide⟩ (fun σ1 hk => ?_)
        clear h0_q r0_q hb
        have h0_q := hk.1
        have r0_q := rM_0 h0_q.1
        have hb := h0_q.2.2.1
        refine zaload_n (k := 25) rfl rfl ?_
        refine zgF 47 (k := 26) rfl ob_289 fl_12_156 rfl fx_289_47 ?_
        refine ziload_n (k := 27) rfl rfl ?_
        refine ziload_n (k := 28) rfl rfl ?_
        refine ziastore (k := 29) rfl ar_317 ⟨by omega, by omega⟩ (by omega) ?_
        refine ziconst (k := 30) rfl (by decide) ?_
        refine zzreturn (k := 31) rfl rfl (by first | exact Or.inl rfl | exact Or.inr rfl | omega) rfl ?_
        rw [← hQ]
        exact ⟨rfl, _, rfl, Or.inr ⟨by omega, rfl, actP_s0 hWI hk (stM_c0 (f := 2) (i := c) (x := p) h0_q (by omega) (by omega) w1_q.2)⟩⟩
      · skip
        refine zaload_n (k := 15) rfl rfl ?_
        refine ziconst (k := 16) rfl (by decide) ?_
        refine zfV1 (k := 17) rfl (c_M_refuses (by omega)) fm_M_refuses lk_12_231 rfl rfl ob_289 ⟨_, rfl, rfl⟩ (Nat.le_of_ble_eq_true rfl) (by decide) ⟨by decide, by decide⟩ ?_
        refine zif_lt (k := 18) rfl rfl (fun c6_q => ?_) (fun c6_q => ?_)
        · skip
          refine ziconst (k := 21) rfl (by decide) ?_
          refine zzreturn (k := 22) rfl rfl (by first | exact Or.inl rfl | exact Or.inr rfl | omega) rfl ?_
          rw [← hQ]
          first
          | (exfalso; omega)
          | (refine ⟨rfl, _, rfl, Or.inl ⟨?_, rfl, rfl⟩⟩
             omega)
        · skip
          refine ziconst (k := 19) rfl (by decide) ?_
          refine zgoto (k := 20) rfl rfl ?_
          refine zzreturn (k := 22) rfl rfl (by first | exact Or.inl rfl | exact Or.inr rfl | omega) rfl ?_
          rw [← hQ]
          first
          | (exfalso; omega)
          | (refine ⟨rfl, _, rfl, Or.inl ⟨?_, rfl, rfl⟩⟩
             omega)
set_option maxHeartbeats 4000000 in
set_option maxRecDepth 20000 in
theorem c_M_guard {Γ : zv_M} {L : Int} {σ Wm S : zv_H} {b : Int} (hb1_q : b = 0 ∨ b = 1) (h0_q : stM σ σ b 0 Wm S) (hSI : SI (Wm 0 1) (Wm 0 3) S) (hWI : WI Wm) {l : List zv_H} (hac : acM σ (Wm 0 1) (Wm 0 3) l) {c p : Int}  : zC Γ m_M_guard 4 0 0 (GM L) [zR 289, zI c, zI p] σ (zPI (GM L) (fun z σ' => (¬ ((0 ≤ c ∧ c < Wm 0 1) ∧ (0 ≤ p ∧ p ≤ 9) ∧ S 3 c ≠ p) ∧ z = 0 ∧ σ' = rfM σ 3) ∨ (((0 ≤ c ∧ c < Wm 0 1) ∧ (0 ≤ p ∧ p ≤ 9) ∧ S 3 c ≠ p) ∧ z = 1 ∧ actP σ σ' b Wm (zup S 3 c p) ((S :: l).take 20)))) := by
  refine zC_of (ls0 := [_, _, _]) zm_M_guard (by decide) rfl (Nat.le_of_ble_eq_true rfl) ?_
  generalize hQ : (zPI (GM L) (fun z σ' => (¬ ((0 ≤ c ∧ c < Wm 0 1) ∧ (0 ≤ p ∧ p ≤ 9) ∧ S 3 c ≠ p) ∧ z = 0 ∧ σ' = rfM σ 3) ∨ (((0 ≤ c ∧ c < Wm 0 1) ∧ (0 ≤ p ∧ p ≤ 9) ∧ S 3 c ≠ p) ∧ z = 1 ∧ actP σ σ' b Wm (zup S 3 c p) ((S :: l).take 20)))) = Q
  have hb := h0_q.2.2.1
  have w1_q := hWI.1
  have w3_q := hWI.2.2.1
  have r0_q := rM_0 h0_q.1
  have b00_q := hSI.1
  have b12_q := hSI.2.2.1
  have bc := hSI.2.2.2.1
  have bm := hSI.2.2.2.2.1
  have bl := hSI.2.2.2.2.2.1
  refine zaload_n (k := 0) rfl rfl ?_
  refine ziload_n (k := 1) rfl rfl ?_
  refine zfV1 (k := 2) rfl (c_M_isCounty hb hb1_q) fm_M_isCounty lk_12_492 rfl rfl ob_289 ⟨_, rfl, rfl⟩ (Nat.le_of_ble_eq_true rfl) (by decide) ⟨by decide, by decide⟩ ?_
  rw [h0_q.2.1.1.1]
  refine zif_eq (k := 3) rfl rfl (fun c1_q => ?_) (fun c1_q => ?_)
  · skip
    refine zaload_n (k := 15) rfl rfl ?_
    refine ziconst (k := 16) rfl (by decide) ?_
    refine zfV1 (k := 17) rfl (c_M_refuses (by omega)) fm_M_refuses lk_12_231 rfl rfl ob_289 ⟨_, rfl, rfl⟩ (Nat.le_of_ble_eq_true rfl) (by decide) ⟨by decide, by decide⟩ ?_
    refine zif_lt (k := 18) rfl rfl (fun c2_q => ?_) (fun c2_q => ?_)
    · skip
      refine ziconst (k := 21) rfl (by decide) ?_
      refine zzreturn (k := 22) rfl rfl (by first | exact Or.inl rfl | exact Or.inr rfl | omega) rfl ?_
      rw [← hQ]
      first
      | (exfalso; omega)
      | (refine ⟨rfl, _, rfl, Or.inl ⟨?_, rfl, rfl⟩⟩
         omega)
    · skip
      refine ziconst (k := 19) rfl (by decide) ?_
      refine zgoto (k := 20) rfl rfl ?_
      refine zzreturn (k := 22) rfl rfl (by first | exact Or.inl rfl | exact Or.inr rfl | omega) rfl ?_
      rw [← hQ]
      first
      | (exfalso; omega)
      | (refine ⟨rfl, _, rfl, Or.inl ⟨?_, rfl, rfl⟩⟩
         omega)
  · skip
    have hcc : 0 ≤ c ∧ c < Wm 0 1 := by omega
    have rc := r0_q.2.1 c hcc.1 hcc.2
    refine ziload_n (k := 4) rfl rfl ?_
    refine ziconst (k := 5) rfl (by decide) ?_
    refine zbipush (k := 6) rfl rfl ?_
    refine zfS1 (k := 7) rfl c_M_is fm_M_is lk_12_315 rfl rfl (Nat.le_of_ble_eq_true rfl) (by decide) ⟨by decide, by decide⟩ ?_
    refine zif_eq (k := 8) rfl rfl (fun c3_q => ?_) (fun c3_q => ?_)
    · skip
      refine zaload_n (k := 15) rfl rfl ?_
      refine ziconst (k := 16) rfl (by decide) ?_
      refine zfV1 (k := 17) rfl (c_M_refuses (by omega)) fm_M_refuses lk_12_231 rfl rfl ob_289 ⟨_, rfl, rfl⟩ (Nat.le_of_ble_eq_true rfl) (by decide) ⟨by decide, by decide⟩ ?_
      refine zif_lt (k := 18) rfl rfl (fun c4_q => ?_) (fun c4_q => ?_)
      · skip
        refine ziconst (k := 21) rfl (by decide) ?_
        refine zzreturn (k := 22) rfl rfl (by first | exact Or.inl rfl | exact Or.inr rfl | omega) rfl ?_
        rw [← hQ]
        first
        | (exfalso; omega)
        | (refine ⟨rfl, _, rfl, Or.inl ⟨?_, rfl, rfl⟩⟩
           omega)
      · skip
        refine ziconst (k := 19) rfl (by decide) ?_
        refine zgoto (k := 20) rfl rfl ?_
        refine zzreturn (k := 22) rfl rfl (by first | exact Or.inl rfl | exact Or.inr rfl | omega) rfl ?_
        rw [← hQ]
        first
        | (exfalso; omega)
        | (refine ⟨rfl, _, rfl, Or.inl ⟨?_, rfl, rfl⟩⟩
           omega)
    · skip
      have hpp : 0 ≤ p ∧ p ≤ 9 := by omega
      refine zaload_n (k := 9) rfl rfl ?_
      refine zgF 48 (k := 10) rfl ob_289 fl_12_159 rfl fx_289_48 ?_
      refine ziload_n (k := 11) rfl rfl ?_
      refine ziaload (k := 12) rfl ar_318 ⟨by omega, by omega⟩ ?_
      rw [rc.2.2]
      refine ziload_n (k := 13) rfl rfl ?_
      refine zicmp_ne (k := 14) rfl rfl (fun c5_q => ?_) (fun c5_q => ?_)
      · skip
        refine zaload_n (k := 23) rfl rfl ?_
        refine zpV0 (k := 24) rfl (c_M_keeps hb1_q h0_q hSI hWI hac) fm_M_keeps lk_12_522 rfl rfl ob_289 ⟨_, rfl, rfl⟩ (Nat.le_of_ble_eq_true rfl) (by decide) ⟨by decide, by decide⟩ (fun σ1 hk => ?_)
        clear h0_q r0_q hb
        have h0_q := hk.1
        have r0_q := rM_0 h0_q.1
        have hb := h0_q.2.2.1
        refine zaload_n (k := 25) rfl rfl ?_
        refine zgF 48 (k := 26) rfl ob_289 fl_12_159 rfl fx_289_48 ?_
        refine ziload_n (k := 27) rfl rfl ?_
        refine ziload_n (k := 28) rfl rfl ?_
        refine ziastore (k := 29) rfl ar_318 ⟨by omega, by omega⟩ (by omega) ?_
        refine ziconst (k := 30) rfl (by decide) ?_
        refine zzreturn (k := 31) rfl rfl (by first | exact Or.inl rfl | exact Or.inr rfl | omega) rfl ?_
        rw [← hQ]
        exact ⟨rfl, _, rfl, Or.inr ⟨by omega, rfl, actP_s0 hWI hk (stM_c0 (f := 3) (i := c) (x := p) h0_q (by omega) (by omega) w1_q.2)⟩⟩
      · skip
        refine zaload_n (k := 15) rfl rfl ?_
        refine ziconst (k := 16) rfl (by decide) ?_
        refine zfV1 (k := 17) rfl (c_M_refuses (by omega)) fm_M_refuses lk_12_231 rfl rfl ob_289 ⟨_, rfl, rfl⟩ (Nat.le_of_ble_eq_true rfl) (by decide) ⟨by decide, by decide⟩ ?_
        refine zif_lt (k := 18) rfl rfl (fun c6_q => ?_) (fun c6_q => ?_)
        · skip
          refine ziconst (k := 21) rfl (by decide) ?_
          refine zzreturn (k := 22) rfl rfl (by first | exact Or.inl rfl | exact Or.inr rfl | omega) rfl ?_
          rw [← hQ]
          first
          | (exfalso; omega)
          | (refine ⟨rfl, _, rfl, Or.inl ⟨?_, rfl, rfl⟩⟩
             omega)
        · skip
          refine ziconst (k := 19) rfl (by decide) ?_
          refine zgoto (k := 20) rfl rfl ?_
          refine zzreturn (k := 22) rfl rfl (by first | exact Or.inl rfl | exact Or.inr rfl | omega) rfl ?_
          rw [← hQ]
          first
          | (exfalso; omega)
          | (refine ⟨rfl, _, rfl, Or.inl ⟨?_, rfl, rfl⟩⟩
             omega)
set_option maxHeartbeats 4000000 in
set_option maxRecDepth 20000 in
theorem c_M_tell {Γ : zv_M} {L : Int} {σ Wm S : zv_H} {b : Int} (hb1_q : b = 0 ∨ b = 1) (h0_q : stM σ σ b 0 Wm S) (hSI : SI (Wm 0 1) (Wm 0 3) S) (hWI : WI Wm) {l : List zv_H} (hac : acM σ (Wm 0 1) (Wm 0 3) l) {m c : Int}  : zC Γ m_M_tell 4 0 0 (GM L) [zR 289, zI m, zI c] σ (zPI (GM L) (fun z σ' => (¬ (((0 ≤ m ∧ m < Wm 0 3) ∧ (0 ≤ c ∧ c < Wm 0 1)) ∧ wklF S m c ≠ 0) ∧ z = 0 ∧ σ' = rfM σ 3) ∨ ((((0 ≤ m ∧ m < Wm 0 3) ∧ (0 ≤ c ∧ c < Wm 0 1)) ∧ wklF S m c ≠ 0) ∧ z = 1 ∧ actP σ σ' b Wm (sndF S m c (S 0 0)) ((S :: l).take 20)))) := by
  refine zC_of (ls0 := [_, _, _]) zm_M_tell (by decide) rfl (Nat.le_of_ble_eq_true rfl) ?_
  generalize hQ : (zPI (GM L) (fun z σ' => (¬ (((0 ≤ m ∧ m < Wm 0 3) ∧ (0 ≤ c ∧ c < Wm 0 1)) ∧ wklF S m c ≠ 0) ∧ z = 0 ∧ σ' = rfM σ 3) ∨ ((((0 ≤ m ∧ m < Wm 0 3) ∧ (0 ≤ c ∧ c < Wm 0 1)) ∧ wklF S m c ≠ 0) ∧ z = 1 ∧ actP σ σ' b Wm (sndF S m c (S 0 0)) ((S :: l).take 20)))) = Q
  have hb := h0_q.2.2.1
  have w1_q := hWI.1
  have w3_q := hWI.2.2.1
  have r0_q := rM_0 h0_q.1
  have b00_q := hSI.1
  have b12_q := hSI.2.2.1
  have bc := hSI.2.2.2.1
  have bm := hSI.2.2.2.2.1
  have bl := hSI.2.2.2.2.2.1
  refine zaload_n (k := 0) rfl rfl ?_
  refine ziload_n (k := 1) rfl rfl ?_
  refine zfV1 (k := 2) rfl (c_M_isMan hb hb1_q) fm_M_isMan lk_12_495 rfl rfl ob_289 ⟨_, rfl, rfl⟩ (Nat.le_of_ble_eq_true rfl) (by decide) ⟨by decide, by decide⟩ ?_
  rw [h0_q.2.1.1.2.2.1]
  refine zif_eq (k := 3) rfl rfl (fun c1_q => ?_) (fun c1_q => ?_)
  · skip
    refine zaload_n (k := 13) rfl rfl ?_
    refine ziconst (k := 14) rfl (by decide) ?_
    refine zfV1 (k := 15) rfl (c_M_refuses (by omega)) fm_M_refuses lk_12_231 rfl rfl ob_289 ⟨_, rfl, rfl⟩ (Nat.le_of_ble_eq_true rfl) (by decide) ⟨by decide, by decide⟩ ?_
    refine zif_lt (k := 16) rfl rfl (fun c2_q => ?_) (fun c2_q => ?_)
    · skip
      refine ziconst (k := 19) rfl (by decide) ?_
      refine zzreturn (k := 20) rfl rfl (by first | exact Or.inl rfl | exact Or.inr rfl | omega) rfl ?_
      rw [← hQ]
      first
      | (exfalso; omega)
      | (refine ⟨rfl, _, rfl, Or.inl ⟨?_, rfl, rfl⟩⟩
         omega)
    · skip
      refine ziconst (k := 17) rfl (by decide) ?_
      refine zgoto (k := 18) rfl rfl ?_
      refine zzreturn (k := 20) rfl rfl (by first | exact Or.inl rfl | exact Or.inr rfl | omega) rfl ?_
      rw [← hQ]
      first
      | (exfalso; omega)
      | (refine ⟨rfl, _, rfl, Or.inl ⟨?_, rfl, rfl⟩⟩
         omega)
  · skip
    have hmm : 0 ≤ m ∧ m < Wm 0 3 := by omega
    have rm := r0_q.2.2.1 m hmm.1 hmm.2
    refine zaload_n (k := 4) rfl rfl ?_
    refine ziload_n (k := 5) rfl rfl ?_
    refine zfV1 (k := 6) rfl (c_M_isCounty hb hb1_q) fm_M_isCounty lk_12_492 rfl rfl ob_289 ⟨_, rfl, rfl⟩ (Nat.le_of_ble_eq_true rfl) (by decide) ⟨by decide, by decide⟩ ?_
    rw [h0_q.2.1.1.1]
    refine zif_eq (k := 7) rfl rfl (fun c3_q => ?_) (fun c3_q => ?_)
    · skip
      refine zaload_n (k := 13) rfl rfl ?_
      refine ziconst (k := 14) rfl (by decide) ?_
      refine zfV1 (k := 15) rfl (c_M_refuses (by omega)) fm_M_refuses lk_12_231 rfl rfl ob_289 ⟨_, rfl, rfl⟩ (Nat.le_of_ble_eq_true rfl) (by decide) ⟨by decide, by decide⟩ ?_
      refine zif_lt (k := 16) rfl rfl (fun c4_q => ?_) (fun c4_q => ?_)
      · skip
        refine ziconst (k := 19) rfl (by decide) ?_
        refine zzreturn (k := 20) rfl rfl (by first | exact Or.inl rfl | exact Or.inr rfl | omega) rfl ?_
        rw [← hQ]
        first
        | (exfalso; omega)
        | (refine ⟨rfl, _, rfl, Or.inl ⟨?_, rfl, rfl⟩⟩
           omega)
      · skip
        refine ziconst (k := 17) rfl (by decide) ?_
        refine zgoto (k := 18) rfl rfl ?_
        refine zzreturn (k := 20) rfl rfl (by first | exact Or.inl rfl | exact Or.inr rfl | omega) rfl ?_
        rw [← hQ]
        first
        | (exfalso; omega)
        | (refine ⟨rfl, _, rfl, Or.inl ⟨?_, rfl, rfl⟩⟩
           omega)
    · skip
      have hcc : 0 ≤ c ∧ c < Wm 0 1 := by omega
      refine zaload_n (k := 8) rfl rfl ?_
      refine ziload_n (k := 9) rfl rfl ?_
      refine ziload_n (k := 10) rfl rfl ?_
      refine zfV1 (k := 11) rfl (c_M_known hb1_q h0_q hSI hWI) fm_M_known lk_12_536 rfl rfl ob_289 ⟨_, rfl, rfl⟩ (Nat.le_of_ble_eq_true rfl) (by decide) ⟨by decide, by decide⟩ ?_
      rw [if_pos ⟨hmm, hcc⟩]
      refine zif_ne (k := 12) rfl rfl (fun c5_q => ?_) (fun c5_q => ?_)
      · skip
        refine zaload_n (k := 21) rfl rfl ?_
        refine zpV0 (k := 22) rfl (c_M_keeps hb1_q h0_q hSI hWI hac) fm_M_keeps lk_12_522 rfl rfl ob_289 ⟨_, rfl, rfl⟩ (Nat.le_of_ble_eq_true rfl) (by decide) ⟨by decide, by decide⟩ (fun σ1 hk => ?_)
        clear h0_q r0_q hb
        have h0_q := hk.1
        have r0_q := rM_0 h0_q.1
        have hb := h0_q.2.2.1
        refine zaload_n (k := 23) rfl rfl ?_
        refine ziconst (k := 24) rfl (by decide) ?_
        refine ziload_n (k := 25) rfl rfl ?_
        refine ziload_n (k := 26) rfl rfl ?_
        refine zaload_n (k := 27) rfl rfl ?_
        refine zgF 45 (k := 28) rfl ob_289 fl_12_150 rfl fx_289_45 ?_
        refine ziconst (k := 29) rfl (by decide) ?_
        refine ziaload (k := 30) rfl ar_315 ⟨by omega, by omega⟩ ?_
        rw [r0_q.1.1]
        refine zpV0 (k := 31) rfl (c_M_sends hb1_q ⟨by omega, by omega⟩ h0_q hSI hWI hmm hcc (by omega)) fm_M_sends lk_12_474 rfl rfl ob_289 ⟨_, rfl, rfl⟩ (Nat.le_of_ble_eq_true rfl) (by decide) ⟨by decide, by decide⟩ (fun σ2 h2_q => ?_)
        skip
        refine ziconst (k := 32) rfl (by decide) ?_
        refine zzreturn (k := 33) rfl rfl (by first | exact Or.inl rfl | exact Or.inr rfl | omega) rfl ?_
        rw [← hQ]
        exact ⟨rfl, _, rfl, Or.inr ⟨⟨⟨hmm, hcc⟩, by assumption⟩, rfl, actP_s0 hWI hk h2_q⟩⟩
      · skip
        refine zaload_n (k := 13) rfl rfl ?_
        refine ziconst (k := 14) rfl (by decide) ?_
        refine zfV1 (k := 15) rfl (c_M_refuses (by omega)) fm_M_refuses lk_12_231 rfl rfl ob_289 ⟨_, rfl, rfl⟩ (Nat.le_of_ble_eq_true rfl) (by decide) ⟨by decide, by decide⟩ ?_
        refine zif_lt (k := 16) rfl rfl (fun c6_q => ?_) (fun c6_q => ?_)
        · skip
          refine ziconst (k := 19) rfl (by decide) ?_
          refine zzreturn (k := 20) rfl rfl (by first | exact Or.inl rfl | exact Or.inr rfl | omega) rfl ?_
          rw [← hQ]
          first
          | (exfalso; omega)
          | (refine ⟨rfl, _, rfl, Or.inl ⟨?_, rfl, rfl⟩⟩
             omega)
        · skip
          refine ziconst (k := 17) rfl (by decide) ?_
          refine zgoto (k := 18) rfl rfl ?_
          refine zzreturn (k := 20) rfl rfl (by first | exact Or.inl rfl | exact Or.inr rfl | omega) rfl ?_
          rw [← hQ]
          first
          | (exfalso; omega)
          | (refine ⟨rfl, _, rfl, Or.inl ⟨?_, rfl, rfl⟩⟩
             omega)
set_option maxHeartbeats 4000000 in
set_option maxRecDepth 20000 in
theorem c_M_weeks {Γ : zv_M} {L : Int} {σ Wm S : zv_H} {b : Int} (hb1_q : b = 0 ∨ b = 1) (h0_q : stM σ σ b 0 Wm S) (hSI : SI (Wm 0 1) (Wm 0 3) S) (hWI : WI Wm) {l : List zv_H} (hac : acM σ (Wm 0 1) (Wm 0 3) l) {u : Int}  : zC Γ m_M_weeks 8 0 0 (GM L) [zR 289, zI u] σ (zPI (GM L) (fun z σ' => (¬ (1 ≤ u ∧ u ≤ 100 ∧ u ≤ 999 - S 0 0) ∧ z = -1 ∧ σ' = rfM σ 2) ∨ ((1 ≤ u ∧ u ≤ 100 ∧ u ≤ 999 - S 0 0) ∧ z = (gooF Wm S u.toNat).2 ∧ actP σ σ' b Wm (gooF Wm S u.toNat).1 ((S :: l).take 20)))) := by
  refine zC_of (ls0 := [_, _, _, _]) zm_M_weeks (by decide) rfl (Nat.le_of_ble_eq_true rfl) ?_
  generalize hQ : (zPI (GM L) (fun z σ' => (¬ (1 ≤ u ∧ u ≤ 100 ∧ u ≤ 999 - S 0 0) ∧ z = -1 ∧ σ' = rfM σ 2) ∨ ((1 ≤ u ∧ u ≤ 100 ∧ u ≤ 999 - S 0 0) ∧ z = (gooF Wm S u.toNat).2 ∧ actP σ σ' b Wm (gooF Wm S u.toNat).1 ((S :: l).take 20)))) = Q
  have hb := h0_q.2.2.1
  have w1_q := hWI.1
  have w3_q := hWI.2.2.1
  have r0_q := rM_0 h0_q.1
  have b00_q := hSI.1
  have b12_q := hSI.2.2.1
  have bc := hSI.2.2.2.1
  have bm := hSI.2.2.2.2.1
  have bl := hSI.2.2.2.2.2.1
  have goc := goo_c (Wm := Wm) (S := S) w3_q
  refine zaload_n (k := 0) rfl rfl ?_
  refine ziload_n (k := 1) rfl rfl ?_
  refine ziconst (k := 2) rfl (by decide) ?_
  refine zbipush (k := 3) rfl rfl ?_
  refine zfV1 (k := 4) rfl (c_M_isAh r0_q.1.1 b00_q (by omega)) fm_M_isAhead lk_12_498 rfl rfl ob_289 ⟨_, rfl, rfl⟩ (Nat.le_of_ble_eq_true rfl) (by decide) ⟨by decide, by decide⟩ ?_
  refine zif_ne (k := 5) rfl rfl (fun c1_q => ?_) (fun c1_q => ?_)
  · skip
    have hu : 1 ≤ u ∧ u ≤ 100 ∧ u ≤ 999 - S 0 0 := by omega
    obtain ⟨N, rfl⟩ : ∃ N : Nat, u = N := ⟨u.toNat, by omega⟩
    refine zaload_n (k := 10) rfl rfl ?_
    refine zpV0 (k := 11) rfl (c_M_keeps hb1_q h0_q hSI hWI hac) fm_M_keeps lk_12_522 rfl rfl ob_289 ⟨_, rfl, rfl⟩ (Nat.le_of_ble_eq_true rfl) (by decide) ⟨by decide, by decide⟩ (fun σ1 hk => ?_)
    clear h0_q r0_q hb
    have h0_q := hk.1
    have r0_q := rM_0 h0_q.1
    have hb := h0_q.2.2.1
    refine ziconst (k := 12) rfl (by decide) ?_
    refine zistore_n (k := 13) (ls' := [_, _, _, _]) rfl (Nat.le_of_ble_eq_true rfl) rfl ?_
    refine ziconst (k := 14) rfl (by decide) ?_
    refine zistore_n (k := 15) (ls' := [_, _, _, _]) rfl (Nat.le_of_ble_eq_true rfl) rfl ?_
    have lp25_q : ∀ (g : Nat) (j : Nat) (e : Int) (σ2 : zv_H), (N - j) < g → (j ≤ N) → (stM (zup σ1 289 62 e) σ2 b 0 Wm (gooF Wm S j).1) → zV Γ m_M_weeks 8 0 0 Q (GM L) (0, 0) 25 [some (zR 289), some (zI N), some (zI (gooF Wm S j).2), some (zI j)] [] σ2 := by
      intro g
      induction g with
      | zero => intro j e σ2 hg; exact absurd hg (Nat.not_lt_zero _)
      | succ g ih25_q =>
        intro j e σ2 hg hj h0_q
        refine ziload_n (k := 16) rfl rfl ?_
        refine ziload_n (k := 17) rfl rfl ?_
        refine zicmp_ge (k := 18) rfl rfl (fun c2_q => ?_) (fun c2_q => ?_)
        · skip
          refine ziload_n (k := 29) rfl rfl ?_
          refine zireturn (k := 30) rfl rfl rfl ?_
          rw [← hQ]
          refine ⟨rfl, _, rfl, Or.inr ⟨hu, ?_, ?_⟩⟩
          · rw [show (N : Int).toNat = N from rfl, show j = N by omega]
          · rw [show (N : Int).toNat = N from rfl, show N = j by omega]
            exact actP_st hWI hk h0_q
        · skip
          refine zaload_n (k := 19) rfl rfl ?_
          refine ziconst (k := 20) rfl (by decide) ?_
          refine zpV0 (k := 21) rfl (c_M_passes hb1_q ⟨by omega, by omega⟩ h0_q (SI_goo hWI hSI j) hWI (by rw [goo_00 (by omega)]; omega)) fm_M_passes lk_12_501 rfl rfl ob_289 ⟨_, rfl, rfl⟩ (Nat.le_of_ble_eq_true rfl) (by decide) ⟨by decide, by decide⟩ (fun σ3 h2_q => ?_)
          rw [zup_zup] at h2_q
          refine ziload_n (k := 22) rfl rfl ?_
          refine zaload_n (k := 23) rfl rfl ?_
          refine zgI 62 (k := 24) rfl ob_289 fl_12_201 rfl fx_289_62 ?_
          rw [stM_62 h2_q]
          have mc := men_c Wm (gooF Wm S j).1 (Wm 0 3).toNat
          have gj := goc j
          refine ziaddB (k := 25) rfl (by show -2147483648 ≤ (gooF Wm S j).2 + (menF Wm (gooF Wm S j).1 (Wm 0 3).toNat).2 ∧ (gooF Wm S j).2 + (menF Wm (gooF Wm S j).1 (Wm 0 3).toNat).2 ≤ 2147483647; omega) ?_
          refine zistore_n (k := 26) (ls' := [_, _, _, _]) rfl (Nat.le_of_ble_eq_true rfl) rfl ?_
          refine ziincB (k := 27) (ls' := [_, _, _, _]) rfl rfl (by decide) (by omega) rfl ?_
          refine zgoto (k := 28) rfl rfl ?_
          exact ih25_q (j + 1) _ _ (by omega) (by omega) h2_q
    exact lp25_q _ 0 (σ1 289 62) _ (Nat.lt_succ_self _) (by omega) (by rw [zup_id rfl]; exact h0_q)
  · skip
    refine zaload_n (k := 6) rfl rfl ?_
    refine ziconst (k := 7) rfl (by decide) ?_
    refine zfV1 (k := 8) rfl (c_M_refuses (by omega)) fm_M_refuses lk_12_231 rfl rfl ob_289 ⟨_, rfl, rfl⟩ (Nat.le_of_ble_eq_true rfl) (by decide) ⟨by decide, by decide⟩ ?_
    refine zireturn (k := 9) rfl rfl rfl ?_
    rw [← hQ]
    refine ⟨rfl, _, rfl, Or.inl ⟨?_, rfl, rfl⟩⟩
    omega
