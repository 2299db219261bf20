set_option maxHeartbeats 4000000 in
set_option maxRecDepth 20000 in
theorem c_M_draw {Γ : zv_M} {L : Int} {σ : zv_H} {s k : Int} (hs : σ 289 59 = s) (hb : 0 ≤ s ∧ s ≤ 2147483647) (hk : 0 < k ∧ k ≤ 1000) : zC Γ m_M_draw 0 0 0 (GM L) [zR 289, zI k] σ (zFn (some (zI (drwF s / 64 % k))) (GM L) (zup σ 289 59 (drwF s))) := by
  refine zC_of (ls0 := [_, _]) zm_M_draw (by decide) rfl (Nat.le_of_ble_eq_true rfl) ?_
  generalize hQ : (zFn (some (zI (drwF s / 64 % k))) (GM L) (zup σ 289 59 (drwF s))) = Q
  have db := drw_b s
  refine zaload_n (k := 0) rfl rfl ?_
  refine zldc2 (k := 1) (z := 1103515245) rfl kc_12_525 rfl ?_
  refine zaload_n (k := 2) rfl rfl ?_
  refine zgL 59 (k := 3) rfl ob_289 fl_12_192 rfl fx_289_59 ?_
  rw [hs]
  refine zlmulB (k := 4) rfl (by omega) ?_
  refine zldc2 (k := 5) (z := 12345) rfl kc_12_527 rfl ?_
  refine zladdB (k := 6) rfl (by omega) ?_
  refine zldc2 (k := 7) (z := 2147483648) rfl kc_12_529 rfl ?_
  refine zlremP (k := 8) rfl (by omega) ?_
  rw [show (1103515245 * s + 12345) % 2147483648 = drwF s from rfl]
  refine zpL 59 (k := 9) rfl ob_289 fl_12_192 ⟨_, rfl, rfl⟩ rfl (by omega) rfl fx_289_59 ?_
  refine zaload_n (k := 10) rfl rfl ?_
  refine zgL 59 (k := 11) rfl ob_289 fl_12_192 rfl fx_289_59 ?_
  rw [zup_s]
  refine zldc2 (k := 12) (z := 64) rfl kc_12_531 rfl ?_
  refine zldivP (k := 13) rfl (by omega) ?_
  refine ziload_n (k := 14) rfl rfl ?_
  refine zi2l (k := 15) rfl ?_
  refine zlremP (k := 16) rfl (by omega) ?_
  refine zl2i (k := 17) rfl ?_
  rw [w32_id (by have := Int.emod_lt_of_pos (drwF s / 64) hk.1; have := Int.emod_nonneg (drwF s / 64) (show k ≠ 0 by omega); omega) (by have := Int.emod_lt_of_pos (drwF s / 64) hk.1; have := Int.emod_nonneg (drwF s / 64) (show k ≠ 0 by omega); omega)]
  refine zireturn (k := 18) rfl rfl rfl ?_
  rw [← hQ]
  exact ⟨rfl, rfl, rfl⟩
theorem zup_c {σ : zv_H} {a k j v u : Int} (h : k ≠ j) : zup (zup σ a k v) a j u = zup (zup σ a j u) a k v := by
  funext x i
  unfold zup
  (repeat' split) <;> first | rfl | (exfalso; omega)
theorem stM_k {σ0 σ Wm S : zv_H} {b v k e e2_q : Int} (h : stM (zup σ0 289 k e) σ b v Wm S) (hk : k ≠ 13) : stM (zup σ0 289 k e2_q) (zup σ 289 k e2_q) b v Wm S := by
  obtain ⟨h1_q, h2_q, h3_q, h4_q⟩ := h
  refine ⟨rM_x h1_q (fun x k a c => zup_n (by omega)), wM_fr h2_q (fun x k q1_q q2_q => zup_n (by omega)), by rw [zup_n (by omega)]; exact h3_q, fun x j a c d => ?_⟩
  by_cases q : x = 289 ∧ j = k
  · rw [q.1, q.2, zup_s, zup_s]
  · rw [zup_n q, zup_n q, h4_q x j a c d, zup_n q]
theorem actP_59 {σ σ1 σ2 Wm S S2 : zv_H} {b s : Int} {l : List zv_H} (hW : WI Wm) (h : actP σ σ1 b Wm S l) (h2_q : stM (zup σ1 289 59 s) σ2 b 0 Wm S2) : actP (zup σ 289 59 s) σ2 b Wm S2 l := by
  refine actP_s0 (σ1 := zup σ1 289 59 s) (S := S) hW ?_ h2_q
  obtain ⟨⟨a1_q, a2_q, a3_q, _⟩, ⟨b1_q, b2_q, b3_q⟩, c⟩ := h
  refine ⟨⟨rM_x a1_q (fun x k q1_q q2_q => zup_n (by omega)), wM_fr a2_q (fun x k q1_q q2_q => zup_n (by omega)), by rw [zup_n (by omega)]; exact a3_q, fun _ _ _ _ _ => rfl⟩, ⟨by rw [zup_n (by omega)]; exact b1_q, by rw [zup_n (by omega)]; exact b2_q, fun j T hj => ?_⟩, fun x k q1_q q2_q => ?_⟩
  · rw [zup_n (by omega)]
    exact ⟨rM_x (b3_q j T hj).1 (fun x k q1_q q2_q => zup_n (by omega)), (b3_q j T hj).2⟩
  · by_cases q : x = 289 ∧ k = 59
    · rw [q.1, q.2, zup_s, zup_s]
    · rw [zup_n q, zup_n q]; exact c x k q1_q q2_q
