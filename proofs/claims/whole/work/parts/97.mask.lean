/-! the model's questions -/
theorem rM_0 {σ S : zv_H} {nc nm : Int} (h : rM σ nc nm 0 S) : (σ 315 0 = S 0 0 ∧ σ 325 0 = S 0 12) ∧
  (∀ c, 0 ≤ c → c < nc → σ 316 c = S 1 c ∧ σ 317 c = S 2 c ∧ σ 318 c = S 3 c) ∧
  (∀ m, 0 ≤ m → m < nm → σ 319 m = S 4 m ∧ σ 320 m = S 5 m ∧ σ 321 m = S 6 m ∧ σ 322 m = S 7 m ∧ σ 323 m = S 8 m) ∧
  (∀ m c, 0 ≤ m → m < nm → 0 ≤ c → c < nc → σ 324 (7 * m + c) = dueM (S 9 (m * 7 + c))) ∧
  (∀ k, 0 ≤ k → k < S 0 12 → σ 326 (4 * k) = S 10 ((S 0 11 + k) % 60) / 1000 ∧ σ 326 (4 * k + 1) = S 10 ((S 0 11 + k) % 60) / 100 % 10 ∧ σ 326 (4 * k + 2) = S 10 ((S 0 11 + k) % 60) / 10 % 10 ∧ σ 326 (4 * k + 3) = S 10 ((S 0 11 + k) % 60) % 10) := by
  obtain ⟨h1, h2, h3, h4, h5⟩ := h
  refine ⟨h1, fun c q1 q2 => ?_, fun m q1 q2 => ?_, fun m c q1 q2 q3 q4 => ?_, fun k q1 q2 => ?_⟩
  · have r := h2 c q1 q2
    rw [show 7 * (0 : Int) + c = c by omega] at r
    exact r
  · have r := h3 m q1 q2
    rw [show 6 * (0 : Int) + m = m by omega] at r
    exact r
  · have r := h4 m c q1 q2 q3 q4
    rw [show 42 * (0 : Int) + 7 * m + c = 7 * m + c by omega] at r
    exact r
  · have r := h5 k q1 q2
    rw [show 240 * (0 : Int) + 4 * k = 4 * k by omega] at r
    exact r
theorem zand_l : ∀ x : Fin 128, 0 < x.val → 0 ≤ zand ((x.val : Nat) : Int) (((x.val : Nat) : Int) - 1) ∧ zand ((x.val : Nat) : Int) (((x.val : Nat) : Int) - 1) < ((x.val : Nat) : Int) ∧ bcn (zand ((x.val : Nat) : Int) (((x.val : Nat) : Int) - 1)) + 1 = bcn ((x.val : Nat) : Int) := by decide +kernel
theorem zand_1 {v : Int} (h : 0 < v ∧ v ≤ 127) : 0 ≤ zand v (v - 1) ∧ zand v (v - 1) < v ∧ bcn (zand v (v - 1)) + 1 = bcn v := by
  have r := zand_l ⟨v.toNat, by omega⟩ (by show 0 < v.toNat; omega)
  dsimp only at r
  rw [show ((v.toNat : Nat) : Int) = v by omega] at r
  exact r
theorem bcn_b {v : Int} (h : 0 ≤ v ∧ v ≤ 127) : 0 ≤ bcn v ∧ bcn v ≤ 7 := by unfold bcn; omega
theorem bcn_0 : bcn 0 = 0 := by decide
theorem szI {a b : Int} (h : a = b) : some (zI a) = some (zI b) := by rw [h]
set_option maxHeartbeats 4000000 in
set_option maxRecDepth 20000 in
theorem c_M_bits {Γ : zv_M} {L : Int} {σ : zv_H} {v : Int} (hv : 0 ≤ v ∧ v ≤ 127) : zC Γ m_M_bits 0 0 0 (GM L) [zI v] σ (zFn (some (zI (bcn v))) (GM L) σ) := by
  refine zC_of (ls0 := [_, _, _]) zm_M_bits (by decide) rfl (Nat.le_of_ble_eq_true rfl) ?_
  generalize hQ : (zFn (some (zI (bcn v))) (GM L) σ) = Q
  have bv := bcn_b hv
  refine ziconst (k := 0) rfl (by decide) ?_
  refine zistore_n (k := 1) (ls' := [_, _, _]) rfl (Nat.le_of_ble_eq_true rfl) rfl ?_
  refine ziload_n (k := 2) rfl rfl ?_
  refine zistore_n (k := 3) (ls' := [_, _, _]) rfl (Nat.le_of_ble_eq_true rfl) rfl ?_
  refine zforget (ls' := [_, _, _]) 0 rfl ?_
  have lp4 : ∀ (g : Nat) (x n : Int), (x.toNat) < g → (0 ≤ x ∧ x ≤ 127) → (n + bcn x = bcn v ∧ 0 ≤ n) → zV Γ m_M_bits 0 0 0 Q (GM L) (0, 0) 4 [none, some (zI n), some (zI x)] [] σ := by
    intro g
    induction g with
    | zero => intro x n hg; exact absurd hg (Nat.not_lt_zero _)
    | succ g ih4 =>
      intro x n hg hx hn
      have bx := bcn_b hx
      refine ziload_n (k := 4) rfl rfl ?_
      refine zif_eq (k := 5) rfl rfl (fun c1 => ?_) (fun c1 => ?_)
      · skip
        refine ziload_n (k := 14) rfl rfl ?_
        refine zireturn (k := 15) rfl rfl rfl ?_
        rw [← hQ]
        have e : x = 0 := by assumption
        subst e
        have := bcn_0
        exact ⟨by rw [show n = bcn v by omega], rfl, rfl⟩
      · skip
        refine ziincB (k := 6) (ls' := [_, _, _]) rfl rfl (by decide) (by omega) rfl ?_
        refine ziload_n (k := 7) rfl rfl ?_
        refine ziload_n (k := 8) rfl rfl ?_
        refine ziconst (k := 9) rfl (by decide) ?_
        refine zisubB (k := 10) rfl (by omega) ?_
        refine ziand (k := 11) rfl ?_
        refine zistore_n (k := 12) (ls' := [_, _, _]) rfl (Nat.le_of_ble_eq_true rfl) rfl ?_
        refine zgoto (k := 13) rfl rfl ?_
        have lz := zand_1 (v := x) (by omega)
        exact ih4 _ _ (by omega) (by omega) ⟨by omega, by omega⟩
  exact lp4 (v.toNat + 1) v 0 (Nat.lt_succ_self _) hv ⟨by omega, by omega⟩
set_option maxHeartbeats 4000000 in
set_option maxRecDepth 20000 in
theorem c_M_quotas {Γ : zv_M} {L : Int} {σ0 σ Wm S : zv_H} {b v : Int} (hb1 : b = 0 ∨ b = 1) (hv : 0 ≤ v ∧ v < 22) (h0 : stM σ0 σ b v Wm S) (hSI : SI (Wm 0 1) (Wm 0 3) S) (hWI : WI Wm)  : zC Γ m_M_quotas 0 0 0 (GM L) [zR 289, zI v] σ (zFn (some (zI (sumN (S 1) (Wm 0 1).toNat))) (GM L) σ) := by
  refine zC_of (ls0 := [_, _, _, _]) zm_M_quotas (by decide) rfl (Nat.le_of_ble_eq_true rfl) ?_
  generalize hQ : (zFn (some (zI (sumN (S 1) (Wm 0 1).toNat))) (GM L) σ) = Q
  have hb := h0.2.2.1
  have w1 := hWI.1
  have w3 := hWI.2.2.1
  have bc := hSI.2.2.2.1
  have sb : ∀ j : Nat, (j : Int) ≤ Wm 0 1 → 0 ≤ sumN (S 1) j ∧ sumN (S 1) j ≤ j * 20 := fun j hj => sumN_b j (fun k h1 h2 => (bc k h1 (by omega)).1)
  refine ziconst (k := 0) rfl (by decide) ?_
  refine zistore_n (k := 1) (ls' := [_, _, _, _]) rfl (Nat.le_of_ble_eq_true rfl) rfl ?_
  refine ziconst (k := 2) rfl (by decide) ?_
  refine zistore_n (k := 3) (ls' := [_, _, _, _]) rfl (Nat.le_of_ble_eq_true rfl) rfl ?_
  have lp4 : ∀ (g : Nat) (j : Nat), ((Wm 0 1).toNat - j) < g → ((j : Int) ≤ Wm 0 1) → zV Γ m_M_quotas 0 0 0 Q (GM L) (0, 0) 4 [some (zR 289), some (zI v), some (zI (sumN (S 1) j)), some (zI j)] [] σ := by
    intro g
    induction g with
    | zero => intro j hg; exact absurd hg (Nat.not_lt_zero _)
    | succ g ih4 =>
      intro j hg hj
      have sj := sb j hj
      refine ziload_n (k := 4) rfl rfl ?_
      refine zaload_n (k := 5) rfl rfl ?_
      refine zgF 14 (k := 6) rfl ob_289 fl_12_54 rfl fx_289_14 ?_
      refine zaload_n (k := 7) rfl rfl ?_
      refine zgI 13 (k := 8) rfl ob_289 fl_12_51 rfl fx_289_13 ?_
      rw [hb]
      refine ziaload (k := 9) rfl ar_291 ⟨by omega, by omega⟩ ?_
      rw [h0.2.1.1.1]
      refine zicmp_ge (k := 10) rfl rfl (fun c1 => ?_) (fun c1 => ?_)
      · skip
        rw [show j = (Wm 0 1).toNat by omega]
        refine ziload_n (k := 24) rfl rfl ?_
        refine zireturn (k := 25) rfl rfl rfl ?_
        rw [← hQ]
        exact ⟨rfl, rfl, rfl⟩
      · skip
        refine ziload_n (k := 11) rfl rfl ?_
        refine zaload_n (k := 12) rfl rfl ?_
        refine zgF 46 (k := 13) rfl ob_289 fl_12_153 rfl fx_289_46 ?_
        refine zbipush (k := 14) rfl rfl ?_
        refine ziload_n (k := 15) rfl rfl ?_
        refine zimulB (k := 16) rfl (by omega) ?_
        refine ziload_n (k := 17) rfl rfl ?_
        refine ziaddB (k := 18) rfl (by omega) ?_
        refine ziaload (k := 19) rfl ar_316 ⟨by omega, by omega⟩ ?_
        rw [(h0.1.2.1 j (by omega) (by omega)).1]
        have q := bc j (by omega) (by omega)
        refine ziaddB (k := 20) rfl (by omega) ?_
        refine zistore_n (k := 21) (ls' := [_, _, _, _]) rfl (Nat.le_of_ble_eq_true rfl) rfl ?_
        refine ziincB (k := 22) (ls' := [_, _, _, _]) rfl rfl (by decide) (by omega) rfl ?_
        refine zgoto (k := 23) rfl rfl ?_
        exact ih4 (j + 1) (by omega) (by omega)
  exact lp4 _ 0 (Nat.lt_succ_self _) (by omega)
theorem hwN_b (f : Int → Int) (v : Int) : ∀ j : Nat, 0 ≤ hwN f v j ∧ hwN f v j ≤ j
  | 0 => ⟨Int.le_refl _, Int.le_refl _⟩
  | j + 1 => by
    have ih := hwN_b f v j
    show 0 ≤ hwN f v j + (if f j = v then 1 else 0) ∧ hwN f v j + (if f j = v then 1 else 0) ≤ ((j + 1 : Nat) : Int)
    split <;> omega
set_option maxHeartbeats 4000000 in
set_option maxRecDepth 20000 in
theorem c_M_are {Γ : zv_M} {L : Int} {σ Wm S : zv_H} {b : Int} (hb1 : b = 0 ∨ b = 1) (h0 : stM σ σ b 0 Wm S) (hSI : SI (Wm 0 1) (Wm 0 3) S) (hWI : WI Wm) {t : Int}  : zC Γ m_M_are 0 0 0 (GM L) [zR 289, zI t] σ (zFn (some (zI (hwN (S 5) t (Wm 0 3).toNat))) (GM L) σ) := by
  refine zC_of (ls0 := [_, _, _, _]) zm_M_are (by decide) rfl (Nat.le_of_ble_eq_true rfl) ?_
  generalize hQ : (zFn (some (zI (hwN (S 5) t (Wm 0 3).toNat))) (GM L) σ) = Q
  have hb := h0.2.2.1
  have w1 := hWI.1
  have w3 := hWI.2.2.1
  have r0 := rM_0 h0.1
  have b00 := hSI.1
  have b12 := hSI.2.2.1
  have bc := hSI.2.2.2.1
  have bm := hSI.2.2.2.2.1
  have bl := hSI.2.2.2.2.2.1
  refine ziconst (k := 0) rfl (by decide) ?_
  refine zistore_n (k := 1) (ls' := [_, _, _, _]) rfl (Nat.le_of_ble_eq_true rfl) rfl ?_
  refine ziconst (k := 2) rfl (by decide) ?_
  refine zistore_n (k := 3) (ls' := [_, _, _, _]) rfl (Nat.le_of_ble_eq_true rfl) rfl ?_
  have lp4 : ∀ (g : Nat) (j : Nat), ((Wm 0 3).toNat - j) < g → ((j : Int) ≤ Wm 0 3) → zV Γ m_M_are 0 0 0 Q (GM L) (0, 0) 4 [some (zR 289), some (zI t), some (zI (hwN (S 5) t j)), some (zI j)] [] σ := by
    intro g
    induction g with
    | zero => intro j hg; exact absurd hg (Nat.not_lt_zero _)
    | succ g ih4 =>
      intro j hg hj
      have sj := hwN_b (S 5) t j
      refine ziload_n (k := 4) rfl rfl ?_
      refine zaload_n (k := 5) rfl rfl ?_
      refine zgF 21 (k := 6) rfl ob_289 fl_12_75 rfl fx_289_21 ?_
      refine zaload_n (k := 7) rfl rfl ?_
      refine zgI 13 (k := 8) rfl ob_289 fl_12_51 rfl fx_289_13 ?_
      rw [hb]
      refine ziaload (k := 9) rfl ar_298 ⟨by omega, by omega⟩ ?_
      rw [h0.2.1.1.2.2.1]
      refine zicmp_ge (k := 10) rfl rfl (fun c1 => ?_) (fun c1 => ?_)
      · skip
        rw [show j = (Wm 0 3).toNat by omega]
        refine ziload_n (k := 25) rfl rfl ?_
        refine zireturn (k := 26) rfl rfl rfl ?_
        rw [← hQ]
        exact ⟨rfl, rfl, rfl⟩
      · skip
        refine ziload_n (k := 11) rfl rfl ?_
        refine zaload_n (k := 12) rfl rfl ?_
        refine zgF 50 (k := 13) rfl ob_289 fl_12_165 rfl fx_289_50 ?_
        refine ziload_n (k := 14) rfl rfl ?_
        refine ziaload (k := 15) rfl ar_320 ⟨by omega, by omega⟩ ?_
        rw [(r0.2.2.1 j (by omega) (by omega)).2.1]
        refine ziload_n (k := 16) rfl rfl ?_
        refine zicmp_ne (k := 17) rfl rfl (fun c2 => ?_) (fun c2 => ?_)
        · skip
          refine ziconst (k := 20) rfl (by decide) ?_
          refine ziaddB (k := 21) rfl (by omega) ?_
          first
          | rw [show hwN (S 5) t j + 1 = hwN (S 5) t (j + 1) by show _ = hwN (S 5) t j + (if S 5 j = t then 1 else 0); rw [if_pos (by omega)]]
          | rw [show hwN (S 5) t j + 0 = hwN (S 5) t (j + 1) by show _ = hwN (S 5) t j + (if S 5 j = t then 1 else 0); rw [if_neg (by omega)]]
          refine zistore_n (k := 22) (ls' := [_, _, _, _]) rfl (Nat.le_of_ble_eq_true rfl) rfl ?_
          refine ziincB (k := 23) (ls' := [_, _, _, _]) rfl rfl (by decide) (by omega) rfl ?_
          refine zgoto (k := 24) rfl rfl ?_
          exact ih4 (j + 1) (by omega) (by omega)
        · skip
          refine ziconst (k := 18) rfl (by decide) ?_
          refine zgoto (k := 19) rfl rfl ?_
          refine ziaddB (k := 21) rfl (by omega) ?_
          first
          | rw [show hwN (S 5) t j + 1 = hwN (S 5) t (j + 1) by show _ = hwN (S 5) t j + (if S 5 j = t then 1 else 0); rw [if_pos (by omega)]]
          | rw [show hwN (S 5) t j + 0 = hwN (S 5) t (j + 1) by show _ = hwN (S 5) t j + (if S 5 j = t then 1 else 0); rw [if_neg (by omega)]]
          refine zistore_n (k := 22) (ls' := [_, _, _, _]) rfl (Nat.le_of_ble_eq_true rfl) rfl ?_
          refine ziincB (k := 23) (ls' := [_, _, _, _]) rfl rfl (by decide) (by omega) rfl ?_
          refine zgoto (k := 24) rfl rfl ?_
          exact ih4 (j + 1) (by omega) (by omega)
  exact lp4 _ 0 (Nat.lt_succ_self _) (by omega)
