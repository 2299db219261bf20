set_option maxHeartbeats 4000000 in
set_option maxRecDepth 20000 in
theorem c_M_paid {Γ : zv_M} {L : Int} {σ Wm S : zv_H} {b : Int} (hb1_q : b = 0 ∨ b = 1) (h0_q : stM σ σ b 0 Wm S) (hSI : SI (Wm 0 1) (Wm 0 3) S) (hWI : WI Wm) {m : Int} {n : Nat} (hn : n ≤ 4) (hR : ∀ i : Nat, i < n → 0 ≤ σ 329 i ∧ σ 329 i < Wm 0 1)  : zC Γ m_M_paid 0 0 0 (GM L) [zR 289, zI n] σ (zFn (some (zI (gaF S (pL Wm S m (σ 329) n)))) (GM L) σ) := by
  refine zC_of (ls0 := [_, _, _, _]) zm_M_paid (by decide) rfl (Nat.le_of_ble_eq_true rfl) ?_
  generalize hQ : (zFn (some (zI (gaF S (pL Wm S m (σ 329) n)))) (GM L) σ) = Q
  have hb := h0_q.2.2.1
  have w1_q := hWI.1
  have w3_q := hWI.2.2.1
  have r0_q := rM_0 h0_q.1
  have b00_q := hSI.1
  have b12_q := hSI.2.2.1
  have bc := hSI.2.2.2.1
  have bm := hSI.2.2.2.2.1
  have bl := hSI.2.2.2.2.2.1
  refine ziconst (k := 0) rfl (by decide) ?_
  refine zistore_n (k := 1) (ls' := [_, _, _, _]) rfl (Nat.le_of_ble_eq_true rfl) rfl ?_
  refine ziconst (k := 2) rfl (by decide) ?_
  refine zistore_n (k := 3) (ls' := [_, _, _, _]) rfl (Nat.le_of_ble_eq_true rfl) rfl ?_
  have lp4_q : ∀ (g : Nat) (i : Nat), (n - i) < g → (i ≤ n) → (0 ≤ gaF S (pL Wm S m (σ 329) i) ∧ gaF S (pL Wm S m (σ 329) i) ≤ 999 * i) → zV Γ m_M_paid 0 0 0 Q (GM L) (0, 0) 4 [some (zR 289), some (zI n), some (zI (gaF S (pL Wm S m (σ 329) i))), some (zI i)] [] σ := by
    intro g
    induction g with
    | zero => intro i hg; exact absurd hg (Nat.not_lt_zero _)
    | succ g ih4_q =>
      intro i hg hi hg
      refine ziload_n (k := 4) rfl rfl ?_
      refine ziload_n (k := 5) rfl rfl ?_
      refine zicmp_ge (k := 6) rfl rfl (fun c1_q => ?_) (fun c1_q => ?_)
      · skip
        rw [show i = n by omega]
        refine ziload_n (k := 19) rfl rfl ?_
        refine zireturn (k := 20) rfl rfl rfl ?_
        rw [← hQ]
        exact ⟨rfl, rfl, rfl⟩
      · skip
        refine ziload_n (k := 7) rfl rfl ?_
        refine zaload_n (k := 8) rfl rfl ?_
        refine zgF 47 (k := 9) rfl ob_289 fl_12_156 rfl fx_289_47 ?_
        refine zaload_n (k := 10) rfl rfl ?_
        refine zgF 63 (k := 11) rfl ob_289 fl_12_204 rfl fx_289_63 ?_
        refine ziload_n (k := 12) rfl rfl ?_
        refine ziaload (k := 13) rfl ar_329 ⟨by omega, by omega⟩ ?_
        have ri := hR i (by omega)
        refine ziaload (k := 14) rfl ar_317 ⟨by omega, by omega⟩ ?_
        rw [(r0_q.2.1 _ ri.1 ri.2).2.1]
        have bi := bc _ ri.1 ri.2
        refine ziaddB (k := 15) rfl (by omega) ?_
        refine zistore_n (k := 16) (ls' := [_, _, _, _]) rfl (Nat.le_of_ble_eq_true rfl) rfl ?_
        refine ziincB (k := 17) (ls' := [_, _, _, _]) rfl rfl (by decide) (by omega) rfl ?_
        refine zgoto (k := 18) rfl rfl ?_
        exact ih4_q (i + 1) (by omega) (by omega) (by rw [gaF_s]; omega)
  exact lp4_q _ 0 (Nat.lt_succ_self _) (by omega) ⟨Int.le_refl _, Int.le_refl _⟩
