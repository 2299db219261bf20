/-! CALLS that change more -/
theorem GK_t {c : Int → Int} {σ σ' : zv_H} {w u b q : Int} {Wm S : zv_H} {l : List zv_H} (h : GK c σ w u b q Wm S l) (he : ∀ x k, ¬ (u ≤ x ∧ x ≤ u + 12) → x = 0 ∨ (x = 1 ∧ (k = 8 ∨ k = 9)) ∨ (4 ≤ x ∧ x ≤ 51) ∨ x = 54 ∨ (62 ≤ x ∧ x ≤ 283) → σ' x k = σ x k) (tp : gTp σ') (fl : gFl σ') (sd : gSd σ') (sn : gSn σ') (im : gIm σ') (rf : gRf σ') (mo : gMo σ' b Wm S l) : GK c σ' w u b q Wm S l := by
  obtain ⟨h0_q, ⟨hn, h8_q, h9_q⟩, ⟨hw, hs⟩, hi, hz, ac, _, ow, _⟩ := h
  have hu : (w = 4 ∧ u = 17) ∨ (w = 17 ∧ u = 4) := hn
  refine ⟨fun k => by rw [he 0 k (by omega) (by omega)]; exact h0_q k, ⟨hn, by rw [he 1 8 (by omega) (by omega)]; exact h8_q, by rw [he 1 9 (by omega) (by omega)]; exact h9_q⟩, ⟨?_, ?_⟩, hi, ?_, gAc_x ac (fun x k q => he x k (by omega) (by omega)), tp, gOw_x ow (fun k => he 54 k (by omega) (by omega)), fl, sd, sn, im, rf, mo⟩
  · rw [← hw]
    exact vw_eq (fun x k q1_q q2_q => he x k (by omega) (by omega)) (by omega)
  · rw [← hs]
    exact vw_eq (fun x k q1_q q2_q => he x k (by omega) (by omega)) (by omega)
  · rw [vw_eq (σ := σ) (fun x k q1_q q2_q => he x k (by omega) (by omega)) (by omega)]
    exact hz
theorem rfM_n {σ : zv_H} {i x k : Int} (h : x ≠ 314) : rfM σ i x k = σ x k := zup_n (by omega)
theorem rfu_n {σ : zv_H} {i x k : Int} (h : x ≠ 288) : rfu σ i x k = σ x k := zup_n (by omega)
theorem rf_2 {σ : zv_H} {i : Int} (h : gRf σ) (hi : 0 ≤ i ∧ i < 6) : gRf (rfM (rfu σ i) i) := gRf_r h (fun k => by
  rw [rfM_n (by omega)]
  unfold rfu
  by_cases e : k = i
  · rw [e, zup_s, if_pos rfl]
  · rw [zup_n (by omega), if_neg e]) (fun k => by
  unfold rfM
  by_cases e : k = i
  · rw [e, zup_s, if_pos rfl, rfu_n (by omega)]
  · rw [zup_n (by omega), if_neg e, rfu_n (by omega)]) hi
theorem GK_r {c : Int → Int} {σ : zv_H} {w u b q : Int} {Wm S : zv_H} {l : List zv_H} (h : GK c σ w u b q Wm S l) {i : Int} (hi : 0 ≤ i ∧ i < 6) : GK c (rfM (rfu σ i) i) w u b q Wm S l := by
  have e : ∀ x k, x ≠ 288 → x ≠ 314 → rfM (rfu σ i) i x k = σ x k := fun x k a b => by rw [rfM_n b, rfu_n a]
  obtain ⟨h0_q, hn, hv, hii, hz, ac, tp, ow, fl, sd, sn, im, rf, mo⟩ := id h
  exact GK_t h (fun x k _ q => e x k (by omega) (by omega)) (gTp_x tp (fun x k q => e x k (by omega) (by omega))) (gFl_x fl (fun x k q => e x k (by omega) (by omega))) (gSd_x sd (fun x k q => e x k (by omega) (by omega))) (gSn_x sn (fun x k q => e x k (by omega) (by omega))) (gIm_x im (fun x k q => e x k (by omega) (by omega))) (rf_2 rf hi) (gMo_x mo hii.2.1 hii.1.2.2.1.2 (fun x k q => e x k (by unfold inB at q; omega) (by unfold inB at q; omega)))
theorem zab_n {σ : zv_H} {a b c z j x k : Int} (h1_q : x ≠ a) (h2_q : ¬ (x = b ∧ k = c)) : zab σ a b c z j x k = σ x k := by
  unfold zab
  rw [if_neg (by omega), if_neg h2_q]
/-- the tapes are alike -/
def tpR (σ σ' : zv_H) : Prop := σ' 289 1 = σ 2 1 ∧ 0 ≤ σ 2 1 ∧ ∀ k, 0 ≤ k → k < σ 2 1 → σ' 290 k = σ 3 k ∧ 0 ≤ σ 3 k ∧ σ 3 k ≤ 255
theorem zby_b {z : Int} {j : Int} : 0 ≤ zby z j ∧ zby z j ≤ 255 := by
  unfold zby
  omega
theorem tpR_s {σ σ' : zv_H} {z : Int} (h : tpR σ σ') : tpR (zab σ 3 2 1 z 4) (zab σ' 290 289 1 z 4) := by
  obtain ⟨a, b, c⟩ := h
  refine ⟨by rw [zab_4, zam_4, a], by rw [zab_4]; omega, fun k h1_q h2_q => ?_⟩
  rw [zab_4] at h2_q
  unfold zab
  by_cases e : σ 2 1 ≤ k ∧ k < σ 2 1 + 4
  · rw [if_pos (c := (290 : Int) = 290 ∧ σ' 289 1 ≤ k ∧ k < σ' 289 1 + 4) (by omega), if_pos (c := (3 : Int) = 3 ∧ σ 2 1 ≤ k ∧ k < σ 2 1 + 4) (by omega), a]
    exact ⟨rfl, zby_b⟩
  · rw [if_neg (c := (290 : Int) = 290 ∧ σ' 289 1 ≤ k ∧ k < σ' 289 1 + 4) (by omega), if_neg (c := (3 : Int) = 3 ∧ σ 2 1 ≤ k ∧ k < σ 2 1 + 4) (by omega), if_neg (by omega), if_neg (by omega)]
    exact c k h1_q (by omega)
theorem feeF_n {σ : zv_H} {a b c d e x k : Int} (h1_q : x ≠ 3) (h2_q : ¬ (x = 2 ∧ k = 1)) : feeF σ a b c d e x k = σ x k := by
  unfold feeF
  rw [zab_n h1_q h2_q, zab_n h1_q h2_q, zab_n h1_q h2_q, zab_n h1_q h2_q, zab_n h1_q h2_q]
theorem feM_n {σ : zv_H} {a b c d e x k : Int} (h1_q : x ≠ 290) (h2_q : ¬ (x = 289 ∧ k = 1)) : feM σ a b c d e x k = σ x k := by
  unfold feM
  rw [zab_n h1_q h2_q, zab_n h1_q h2_q, zab_n h1_q h2_q, zab_n h1_q h2_q, zab_n h1_q h2_q]
theorem tp_fee {σ : zv_H} {a b c d e : Int} (h : gTp σ) (h2_q : σ 2 1 + 20 ≤ 1600) : gTp (feM (feeF σ a b c d e) a b c d e) := by
  have r0_q : tpR σ (feeF σ a b c d e) := ⟨by rw [feeF_n (by omega) (by omega)]; exact h.2.1, h.1.1, fun k k1_q k2_q => by rw [feeF_n (by omega) (by omega)]; exact h.2.2 k k1_q k2_q⟩
  have r5_q : tpR (feeF σ a b c d e) (feM (feeF σ a b c d e) a b c d e) := tpR_s (tpR_s (tpR_s (tpR_s (tpR_s r0_q))))
  have el := fee_l σ a b c d e
  have h0_q := h.1
  obtain ⟨x1_q, x2_q, x3_q⟩ := r5_q
  refine ⟨by rw [feM_n (by omega) (by omega), el]; omega, by rw [feM_n (x := 2) (by omega) (by omega)]; exact x1_q, fun k k1_q k2_q => ?_⟩
  rw [feM_n (by omega) (by omega)] at k2_q
  rw [feM_n (x := 3) (by omega) (by omega)]
  exact x3_q k k1_q k2_q
/-- the model's part where only the tape and what is refused differ -/
theorem GK_tp {c : Int → Int} {σ σ' : zv_H} {w u b q : Int} {Wm S : zv_H} {l : List zv_H} (h : GK c σ w u b q Wm S l) (he : ∀ x k, x ≠ 3 → ¬ (x = 2 ∧ k = 1) → x ≠ 290 → ¬ (x = 289 ∧ k = 1) → σ' x k = σ x k) (tp : gTp σ') : GK c σ' w u b q Wm S l := by
  obtain ⟨h0_q, hn, hv, hii, hz, ac, _, ow, fl, sd, sn, im, rf, mo⟩ := id h
  exact GK_t h (fun x k _ q => he x k (by omega) (by omega) (by omega) (by omega)) tp (gFl_x fl (fun x k q => he x k (by omega) (by omega) (by omega) (by omega))) (gSd_x sd (fun x k q => he x k (by omega) (by omega) (by omega) (by omega))) (gSn_x sn (fun x k q => he x k (by omega) (by omega) (by omega) (by omega))) (gIm_x im (fun x k q => he x k (by omega) (by omega) (by omega) (by omega))) (gRf_x rf (fun x k q => he x k (by omega) (by omega) (by omega) (by omega))) (gMo_x mo hii.2.1 hii.1.2.2.1.2 (fun x k q => he x k (by unfold inB at q; omega) (by unfold inB at q; omega) (by unfold inB at q; omega) (by unfold inB at q; omega)))
theorem gc_feed {Γ : zv_M} {L : Int} {c : Int → Int} {σ : zv_H} {a b0_q c0_q d e : Int} (hG : GI c σ) (hr : (-2147483648 ≤ a ∧ a ≤ 2147483647) ∧ (-2147483648 ≤ b0_q ∧ b0_q ≤ 2147483647) ∧ (-2147483648 ≤ c0_q ∧ c0_q ≤ 2147483647) ∧ (-2147483648 ≤ d ∧ d ≤ 2147483647) ∧ (-2147483648 ≤ e ∧ e ≤ 2147483647)) : zC Γ m_NT_feed 2 0 0 (GM L) [zR 1, zI a, zI b0_q, zI c0_q, zI d, zI e] σ (zPI (GM L) (gQ Γ L c m_M_feed 1 [zR 289, zI a, zI b0_q, zI c0_q, zI d, zI e] σ)) := by
  obtain ⟨w, u, b, q, Wm, S, l, h⟩ := hG
  obtain ⟨h0_q, hn, hv, hi, hz, ac, tp, ow, fl, sd, sn, im, rf, mo⟩ := id h
  refine g_p (c_NT_feed tp.1) (fun z σ1 k => ?_)
  rcases k with ⟨k1_q, k2_q, k3_q⟩ | ⟨k1_q, k2_q, k3_q⟩
  · have e1_q : σ1 289 1 = σ 2 1 := by rw [k3_q, feeF_n (by omega) (by omega)]; exact tp.2.1
    refine g2_p (fun j => by rw [k3_q, feeF_n (by omega) (by omega)]) (c_M_feed (by rw [e1_q]; exact tp.1) hr) (fun z2_q σ2 k4_q => ?_)
    rw [e1_q] at k4_q
    rcases k4_q with ⟨q1_q, q2_q, q3_q⟩ | ⟨q1_q, q2_q, q3_q⟩
    · refine ⟨by omega, w, u, b, q, Wm, S, l, ?_⟩
      rw [q3_q, k3_q]
      exact GK_tp h (fun x j n1_q n2_q n3_q n4_q => by rw [feM_n n3_q n4_q, feeF_n n1_q n2_q]) (tp_fee tp k1_q)
    · exfalso; omega
  · have e1_q : σ1 289 1 = σ 2 1 := by rw [k3_q, rfu_n (by omega)]; exact tp.2.1
    refine g2_p (fun j => by rw [k3_q, rfu_n (by omega)]) (c_M_feed (by rw [e1_q]; exact tp.1) hr) (fun z2_q σ2 k4_q => ?_)
    rw [e1_q] at k4_q
    rcases k4_q with ⟨q1_q, q2_q, q3_q⟩ | ⟨q1_q, q2_q, q3_q⟩
    · exfalso; omega
    · refine ⟨by omega, w, u, b, q, Wm, S, l, ?_⟩
      rw [q3_q, k3_q]
      exact GK_r h (by omega)
theorem tp_end {σ : zv_H} {n : Int} (h : gTp σ) (h1_q : 0 ≤ n ∧ n ≤ σ 2 1) : gTp (zup (zup σ 2 1 n) 289 1 n) := by
  have h0_q := h.1
  refine ⟨by rw [zup_n (by omega), zup_s]; omega, by rw [zup_s, zup_n (by omega), zup_s], fun k k1_q k2_q => ?_⟩
  rw [zup_n (by omega), zup_s] at k2_q
  rw [zup_n (by omega), zup_n (by omega), zup_n (a' := 3) (by omega), zup_n (a' := 3) (by omega)]
  exact h.2.2 k k1_q (by omega)
theorem GK_end {c : Int → Int} {σ : zv_H} {w u b q n : Int} {Wm S : zv_H} {l : List zv_H} (h : GK c σ w u b q Wm S l) (h1_q : 0 ≤ n ∧ n ≤ σ 2 1) : GK c (zup (zup σ 2 1 n) 289 1 n) w u b q Wm S l := GK_tp h (fun x j n1_q n2_q n3_q n4_q => by rw [zup_n n4_q, zup_n n2_q]) (tp_end h.2.2.2.2.2.2.1 h1_q)
theorem gc_end {Γ : zv_M} {L : Int} {c : Int → Int} {σ : zv_H} {n : Int} (hG : GI c σ) : zC Γ m_NT_end 2 0 0 (GM L) [zR 1, zI n] σ (zPI (GM L) (gQ Γ L c m_M_end 1 [zR 289, zI n] σ)) := by
  obtain ⟨w, u, b, q, Wm, S, l, h⟩ := hG
  obtain ⟨h0_q, hn, hv, hi, hz, ac, tp, ow, fl, sd, sn, im, rf, mo⟩ := id h
  refine g_p c_NT_end (fun z σ1 k => ?_)
  rcases k with ⟨k1_q, k2_q, k3_q⟩ | ⟨k1_q, k2_q, k3_q⟩
  · have e1_q : σ1 289 1 = σ 2 1 := by rw [k3_q, zup_n (by omega)]; exact tp.2.1
    refine g2_p (fun j => by rw [k3_q, zup_n (by omega)]) c_M_end (fun z2_q σ2 k4_q => ?_)
    rw [e1_q] at k4_q
    rcases k4_q with ⟨q1_q, q2_q, q3_q⟩ | ⟨q1_q, q2_q, q3_q⟩
    · refine ⟨by omega, w, u, b, q, Wm, S, l, ?_⟩
      rw [q3_q, k3_q]
      exact GK_end h k1_q
    · exfalso; omega
  · have e1_q : σ1 289 1 = σ 2 1 := by rw [k3_q, rfu_n (by omega)]; exact tp.2.1
    refine g2_p (fun j => by rw [k3_q, rfu_n (by omega)]) c_M_end (fun z2_q σ2 k4_q => ?_)
    rw [e1_q] at k4_q
    rcases k4_q with ⟨q1_q, q2_q, q3_q⟩ | ⟨q1_q, q2_q, q3_q⟩
    · exfalso; omega
    · refine ⟨by omega, w, u, b, q, Wm, S, l, ?_⟩
      rw [q3_q, k3_q]
      exact GK_r h (by omega)
theorem see_Q {σ : zv_H} (h : gTp σ) : seeP σ ↔ seeQ (σ 290) (σ 2 1) := by
  have e : seeB (σ 290) (σ 2 1 / 2).toNat = seeB (σ 3) (σ 2 1 / 2).toNat := seeB_c _ (fun k h1_q h2_q => (h.2.2 k h1_q (by have := h.1; omega)).1)
  unfold seeP seeQ
  rw [e]
theorem seM_o {T : Int → Int} {σ : zv_H} {r x k : Int} (h1_q : x ≠ 332) (h2_q : x ≠ 333) : seM T σ r x k = σ x k := by
  unfold seM
  rw [if_neg (by omega), if_neg (by omega)]
theorem see_n {σ : zv_H} {x k : Int} (h1_q : x ≠ 286) (h2_q : x ≠ 287) (h3_q : ¬ (x = 2 ∧ k = 1)) (h4_q : ¬ (x = 1 ∧ k = 15)) : seeF σ x k = σ x k := by
  unfold seeF
  rw [zup_n h4_q, zup_n h3_q, see2_n h1_q h2_q]
theorem gc_see {Γ : zv_M} {L : Int} {c : Int → Int} {σ : zv_H} (hG : GI c σ) : zC Γ m_NT_see 2 0 0 (GM L) [zR 1] σ (zPI (GM L) (gQ Γ L c m_M_see 2 [zR 289] σ)) := by
  obtain ⟨w, u, b, q, Wm, S, l, h⟩ := hG
  obtain ⟨h0_q, hn, hv, hi, hz, ac, tp, ow, fl, sd, sn, im, rf, mo⟩ := id h
  have hQ := see_Q tp
  refine g_p (c_NT_see tp.1) (fun z σ1 k => ?_)
  rcases k with ⟨k1_q, k2_q, k3_q⟩ | ⟨k1_q, k2_q, k3_q⟩
  · have e1_q : σ1 289 1 = σ 2 1 := by rw [k3_q, see_n (by omega) (by omega) (by omega) (by omega)]; exact tp.2.1
    have e2_q : ∀ j, σ1 290 j = σ 290 j := fun j => by rw [k3_q, see_n (by omega) (by omega) (by omega) (by omega)]
    have e3_q : σ1 290 = σ 290 := funext e2_q
    refine g2_p (fun j => by rw [k3_q, see_n (by omega) (by omega) (by omega) (by omega)]) (c_M_see e1_q tp.1 (fun j j1_q j2_q => by rw [e2_q, (tp.2.2 j j1_q j2_q).1]; exact (tp.2.2 j j1_q j2_q).2)) (fun z2_q σ2 k4_q => ?_)
    rw [e3_q] at k4_q
    rcases k4_q with ⟨q1_q, q2_q, q3_q⟩ | ⟨q1_q, q2_q, q3_q⟩
    · refine ⟨by omega, w, u, b, q, Wm, S, l, ?_⟩
      have p2_q := k1_q.2.1
      have p3_q := k1_q.2.2.1
      have t0_q := tp.1
      have ev : ∀ x j, x ≠ 332 → x ≠ 333 → x ≠ 286 → x ≠ 287 → ¬ (x = 2 ∧ j = 1) → ¬ (x = 1 ∧ j = 15) → ¬ (x = 289 ∧ (j = 1 ∨ j = 67)) → σ2 x j = σ x j := fun x j n1_q n2_q n3_q n4_q n5_q n6_q n7_q => by
        rw [q3_q, seM_o n1_q n2_q, zup_n (by omega), zup_n (by omega), k3_q, see_n n3_q n4_q n5_q n6_q]
      have v21_q : σ2 2 1 = 0 := by
        rw [q3_q, seM_o (by omega) (by omega), zup_n (by omega), zup_n (by omega), k3_q]
        unfold seeF
        rw [zup_n (by omega), zup_s]
      have v1_q : σ2 289 1 = 0 := by rw [q3_q, seM_o (by omega) (by omega), zup_n (by omega), zup_s]
      have v15_q : σ2 1 15 = σ 2 1 / 2 := by
        rw [q3_q, seM_o (by omega) (by omega), zup_n (by omega), zup_n (by omega), k3_q]
        unfold seeF
        rw [zup_s]
      have v67_q : σ2 289 67 = σ 2 1 / 2 := by rw [q3_q, seM_o (by omega) (by omega), zup_s]
      refine GK_t h (fun x j _ r => ev x j (by omega) (by omega) (by omega) (by omega) (by omega) (by omega) (by omega)) ⟨by rw [v21_q]; omega, by rw [v1_q, v21_q], fun j j1_q j2_q => by rw [v21_q] at j2_q; omega⟩ (gFl_x fl (fun x j r => ev x j (by omega) (by omega) (by omega) (by omega) (by omega) (by omega) (by omega))) (gSd_x sd (fun x j r => ev x j (by omega) (by omega) (by omega) (by omega) (by omega) (by omega) (by omega))) ⟨by rw [v67_q, v15_q], by rw [v15_q]; omega, fun j j1_q j2_q => ?_⟩ (gIm_x im (fun x j r => ev x j (by omega) (by omega) (by omega) (by omega) (by omega) (by omega) (by omega))) (gRf_x rf (fun x j r => ev x j (by omega) (by omega) (by omega) (by omega) (by omega) (by omega) (by omega))) (gMo_x mo hi.2.1 hi.1.2.2.1.2 (fun x j r => ev x j (by unfold inB at r; omega) (by unfold inB at r; omega) (by unfold inB at r; omega) (by unfold inB at r; omega) (by unfold inB at r; omega) (by unfold inB at r; omega) (by unfold inB at r; omega)))
      rw [v15_q] at j2_q
      have m332_q : σ2 332 j = σ 290 (2 * j) := by
        rw [q3_q]
        exact if_pos ⟨rfl, j1_q, j2_q⟩
      have m333_q : σ2 333 j = σ 290 (2 * j + 1) := by
        rw [q3_q]
        unfold seM
        rw [if_neg (by omega), if_pos ⟨rfl, j1_q, j2_q⟩]
      have m286_q : σ2 286 j = σ 3 (2 * j) := by
        rw [q3_q, seM_o (by omega) (by omega), zup_n (by omega), zup_n (by omega), k3_q]
        unfold seeF
        rw [zup_n (by omega), zup_n (by omega)]
        exact if_pos ⟨rfl, j1_q, j2_q⟩
      have m287_q : σ2 287 j = σ 3 (2 * j + 1) := by
        rw [q3_q, seM_o (by omega) (by omega), zup_n (by omega), zup_n (by omega), k3_q]
        unfold seeF
        rw [zup_n (by omega), zup_n (by omega)]
        unfold see2
        rw [if_neg (by omega), if_pos ⟨rfl, j1_q, j2_q⟩]
      rw [m332_q, m333_q, m286_q, m287_q]
      exact ⟨(tp.2.2 _ (by omega) (by omega)).1, (tp.2.2 _ (by omega) (by omega)).1⟩
    · exact absurd (hQ.mp k1_q) q1_q
  · have en : ∀ x j, x ≠ 288 → ¬ (x = 2 ∧ j = 1) → σ1 x j = σ x j := fun x j n1_q n2_q => by rw [k3_q, rfu_n n1_q, zup_n n2_q]
    have e1_q : σ1 289 1 = σ 2 1 := by rw [en 289 1 (by omega) (by omega)]; exact tp.2.1
    have e3_q : σ1 290 = σ 290 := funext (fun j => en 290 j (by omega) (by omega))
    refine g2_p (fun j => en 0 j (by omega) (by omega)) (c_M_see e1_q tp.1 (fun j j1_q j2_q => by rw [e3_q, (tp.2.2 j j1_q j2_q).1]; exact (tp.2.2 j j1_q j2_q).2)) (fun z2_q σ2 k4_q => ?_)
    rw [e3_q] at k4_q
    rcases k4_q with ⟨q1_q, q2_q, q3_q⟩ | ⟨q1_q, q2_q, q3_q⟩
    · exact absurd (hQ.mpr q1_q) k1_q
    · refine ⟨by omega, w, u, b, q, Wm, S, l, ?_⟩
      have t0_q := tp.1
      have g := GK_r (GK_end (n := 0) h (by omega)) (i := 5) (by omega)
      have e : σ2 = rfM (rfu (zup (zup σ 2 1 0) 289 1 0) 5) 5 := by
        rw [q3_q, k3_q]
        funext x j
        unfold rfM rfu
        by_cases c1_q : x = 314 ∧ j = 5
        · rw [c1_q.1, c1_q.2, zup_s, zup_s, zup_n (by omega), zup_n (by omega), zup_n (by omega), zup_n (by omega), zup_n (by omega), zup_n (by omega)]
        · rw [zup_n c1_q, zup_n c1_q]
          by_cases c2_q : x = 289 ∧ j = 1
          · rw [c2_q.1, c2_q.2, zup_s, zup_n (by omega), zup_s]
          · rw [zup_n c2_q]
            by_cases c3_q : x = 288 ∧ j = 5
            · rw [c3_q.1, c3_q.2, zup_s, zup_s, zup_n (by omega), zup_n (by omega), zup_n (by omega)]
            · rw [zup_n c3_q, zup_n c3_q, zup_n c2_q]
      rw [e]
      exact g
theorem gc_seed {Γ : zv_M} {L : Int} {c : Int → Int} {σ : zv_H} {v : Int} (hG : GI c σ) (hr : -2147483648 ≤ v ∧ v ≤ 2147483647) : zC Γ m_NT_seed 2 0 0 (GM L) [zR 1, zI v] σ (zPI (GM L) (gQ Γ L c m_M_seed 1 [zR 289, zI v] σ)) := by
  obtain ⟨w, u, b, q, Wm, S, l, h⟩ := hG
  obtain ⟨h0_q, hn, hv, hi, hz, ac, tp, ow, fl, sd, sn, im, rf, mo⟩ := id h
  by_cases hneg : v < 0
  · have c1_q := c_NT_seed (Γ := Γ) (L := L) (σ := σ) (v := v)
    rw [if_pos hneg, if_pos hneg] at c1_q
    have c2_q := c_M_seed (Γ := Γ) (L := L) (σ := rfu σ 5) (v := v)
    rw [if_pos hneg, if_pos hneg] at c2_q
    exact g_f c1_q (g2_f (fun j => rfu_n (by omega)) c2_q rfl ⟨w, u, b, q, Wm, S, l, GK_r h (by omega)⟩)
  · have c1_q := c_NT_seed (Γ := Γ) (L := L) (σ := σ) (v := v)
    rw [if_neg hneg, if_neg hneg] at c1_q
    have c2_q := c_M_seed (Γ := Γ) (L := L) (σ := zup σ 1 10 v) (v := v)
    rw [if_neg hneg, if_neg hneg] at c2_q
    refine g_f c1_q (g2_f (fun j => zup_n (by omega)) c2_q rfl ⟨w, u, b, q, Wm, S, l, ?_⟩)
    have e : ∀ x j, ¬ (x = 1 ∧ j = 10) → ¬ (x = 289 ∧ j = 59) → zup (zup σ 1 10 v) 289 59 v x j = σ x j := fun x j n1_q n2_q => by rw [zup_n n2_q, zup_n n1_q]
    exact GK_t h (fun x j _ r => e x j (by omega) (by omega)) (gTp_x tp (fun x j r => e x j (by omega) (by omega))) (gFl_x fl (fun x j r => e x j (by omega) (by omega))) ⟨by rw [zup_s, zup_n (by omega), zup_s], by rw [zup_n (by omega), zup_s]; omega, by rw [zup_n (by omega), zup_s]; omega⟩ (gSn_x sn (fun x j r => e x j (by omega) (by omega))) (gIm_x im (fun x j r => e x j (by omega) (by omega))) (gRf_x rf (fun x j r => e x j (by omega) (by omega))) (gMo_x mo hi.2.1 hi.1.2.2.1.2 (fun x j r => e x j (by unfold inB at r; omega) (by unfold inB at r; omega)))
theorem gc_image {Γ : zv_M} {L : Int} {c : Int → Int} {σ : zv_H} (hG : GI c σ) : zC Γ m_NT_image 5 0 0 (GM L) [zR 1] σ (zPI (GM L) (gQ Γ L c m_M_image 3 [zR 289] σ)) := by
  obtain ⟨w, u, b, q, Wm, S, l, h⟩ := hG
  obtain ⟨h0_q, hn, hv, hi, hz, ac, tp, ow, fl, sd, sn, im, rf, mo⟩ := id h
  refine g_p (c_NT_image hn.2.1 (gN_w hn.1).1 hv.1 hv.2 hi.1 hi.2.1) (fun z σ1 k => ?_)
  obtain ⟨k1_q, k2_q, k3_q, k4_q⟩ := k
  have mo1_q : gMo σ1 b Wm S l := gMo_lo mo hi.2.1 hi.1.2.2.1.2 (fun x j r => k4_q x j (by omega) (by omega))
  refine g2_p (fun j => k4_q 0 j (by omega) (by omega)) (c_M_image mo1_q.1 mo1_q.2.1 hi.1 hi.2.1) (fun z2_q σ2 k5_q => ?_)
  obtain ⟨q1_q, q2_q, q3_q, q4_q⟩ := k5_q
  have lb := imgL_b (S := S) hi.2.1
  have e : ∀ x j, x ≠ 285 → ¬ (x = 284 ∧ j = 1) → x ≠ 334 → ¬ (x = 289 ∧ j = 71) → σ2 x j = σ x j := fun x j n1_q n2_q n3_q n4_q => by rw [q4_q x j n3_q n4_q, k4_q x j n1_q n2_q]
  have e284_q : σ2 284 1 = ((imgL Wm S).length : Int) := by rw [q4_q 284 1 (by omega) (by omega)]; exact k2_q
  refine ⟨q1_q.trans k1_q.symm, w, u, b, q, Wm, S, l, GK_t h (fun x j _ r => e x j (by omega) (by omega) (by omega) (by omega)) (gTp_x tp (fun x j r => e x j (by omega) (by omega) (by omega) (by omega))) (gFl_x fl (fun x j r => e x j (by omega) (by omega) (by omega) (by omega))) (gSd_x sd (fun x j r => e x j (by omega) (by omega) (by omega) (by omega))) (gSn_x sn (fun x j r => e x j (by omega) (by omega) (by omega) (by omega))) ⟨by rw [q2_q, e284_q], by rw [e284_q]; omega, fun j j1_q j2_q => ?_⟩ (gRf_x rf (fun x j r => e x j (by omega) (by omega) (by omega) (by omega))) (gMo_x mo hi.2.1 hi.1.2.2.1.2 (fun x j r => e x j (by unfold inB at r; omega) (by unfold inB at r; omega) (by unfold inB at r; omega) (by unfold inB at r; omega)))⟩
  rw [e284_q] at j2_q
  have a := q3_q j.toNat (by omega)
  have d := k3_q j.toNat (by omega)
  rw [show ((j.toNat : Nat) : Int) = j by omega] at a d
  rw [a, q4_q 285 j (by omega) (by omega), d]
