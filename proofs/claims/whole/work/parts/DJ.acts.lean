/-! ACTS -/
theorem GK_act {c : Int → Int} {σ0 σ σ1 σ1' σ2 : zv_H} {w u b q : Int} {Wm S S1 : zv_H} {l : List zv_H} (h : GK c σ0 w u b q Wm S l) (e0_q : ∀ x k, ¬ (x = 1 ∧ k = 10) → σ x k = σ0 x k) (hr : remP σ σ1 q S S1) (e1_q : ∀ x k, ¬ (x = 289 ∧ k = 59) → σ1' x k = σ1 x k) (ha : actP σ1' σ2 b Wm S1 ((S :: l).take 20)) (i1_q : SI (Wm 0 1) (Wm 0 3) S1) (z1_q : SZ S1) (sd2_q : gSd σ2) : GK c σ2 w u b ((q + 1) % 20) Wm S1 ((S :: l).take 20) := by
  obtain ⟨h0_q, ⟨hn, h8_q, h9_q⟩, ⟨hw, hs⟩, ⟨iS, iW, iT, iZ⟩, hz, ⟨a1_q, a2_q, ⟨a3_q, a4_q⟩, a5_q, a6_q⟩, tp, ow, fl, _, sn, im, rf, mo⟩ := h
  obtain ⟨r1_q, r2_q, r3_q, r4_q, r5_q⟩ := hr
  obtain ⟨m1_q, m2_q, m3_q⟩ := ha
  have hu : (w = 4 ∧ u = 17) ∨ (w = 17 ∧ u = 4) := hn
  -- cells of names below 289
  have e : ∀ x k, x ≤ 288 → ¬ (30 ≤ x ∧ x ≤ 40) → ¬ (actn q ≤ x ∧ x ≤ actn q + 10) → ¬ (x = 62 ∧ (k = 1 ∨ k = 2)) → x ≠ 56 → x ≠ 57 → ¬ (x = 1 ∧ k = 10) → σ2 x k = σ0 x k := fun x k n1_q n2_q n3_q n4_q n5_q n6_q n7_q => by
    rw [m3_q x k (by omega) (by omega), e1_q x k (by omega), r5_q x k n2_q n3_q n4_q n5_q n6_q, e0_q x k n7_q]
  have elo : ∀ x k, x ≤ 288 → σ2 x k = σ1 x k := fun x k n1_q => by rw [m3_q x k (by omega) (by omega), e1_q x k (by omega)]
  have ehi : ∀ x k, 289 ≤ x → ¬ (315 ≤ x ∧ x ≤ 328) → ¬ (x = 289 ∧ (k = 57 ∨ k = 58 ∨ k = 59 ∨ k = 62)) → σ2 x k = σ0 x k := fun x k n1_q n2_q n3_q => by
    rw [m3_q x k n2_q (by omega), e1_q x k (by omega), r5_q x k (by omega) (by unfold actn; omega) (by omega) (by omega) (by omega), e0_q x k (by omega)]
  have eact : ∀ j, 0 ≤ j → j < 20 → j ≠ q → vw 10 σ2 (actn j) = vw 10 σ0 (actn j) := fun j j1_q j2_q j3_q => vw_eq (fun x k n1_q n2_q => by
    unfold actn at n1_q n2_q
    exact e x k (by omega) (by omega) (by unfold actn; omega) (by omega) (by omega) (by omega) (by omega)) (by omega)
  have eq0_q : vw 10 σ2 (actn q) = S := by
    rw [vw_eq (σ := σ1) (fun x k n1_q n2_q => elo x k (by unfold actn at n1_q n2_q; omega)) (by omega)]
    exact r2_q
  have hlen : ((S :: l).take 20).length = min 20 (l.length + 1) := by rw [List.length_take, List.length_cons]
  refine ⟨fun k => by rw [e 0 k (by omega) (by omega) (by unfold actn; omega) (by omega) (by omega) (by omega) (by omega)]; exact h0_q k, ⟨hn, by rw [e 1 8 (by omega) (by omega) (by unfold actn; omega) (by omega) (by omega) (by omega) (by omega)]; exact h8_q, by rw [e 1 9 (by omega) (by omega) (by unfold actn; omega) (by omega) (by omega) (by omega) (by omega)]; exact h9_q⟩, ⟨?_, ?_⟩, ⟨i1_q, iW, iT, z1_q⟩, ?_, ⟨?_, by omega, ⟨?_, by omega⟩, fun j j1_q j2_q => ?_, fun j T hj => ?_⟩, gTp_x tp (fun x k r => ?_), gOw_x ow (fun k => e 54 k (by omega) (by omega) (by unfold actn; omega) (by omega) (by omega) (by omega) (by omega)), gFl_x fl (fun x k r => ?_), sd2_q, gSn_x sn (fun x k r => ?_), gIm_x im (fun x k r => ?_), gRf_x rf (fun x k r => ?_), ⟨mo.1, m1_q, m2_q⟩⟩
  · rw [← hw]
    exact vw_eq (fun x k n1_q n2_q => e x k (by omega) (by omega) (by unfold actn; omega) (by omega) (by omega) (by omega) (by omega)) (by omega)
  · rw [vw_eq (σ := σ1) (fun x k n1_q n2_q => elo x k (by omega)) (by omega)]
    exact r1_q
  · rw [vw_eq (σ := σ0) (fun x k n1_q n2_q => e x k (by omega) (by omega) (by unfold actn; omega) (by omega) (by omega) (by omega) (by omega)) (by omega)]
    exact hz
  · rw [elo 62 1 (by omega)]; exact r3_q
  · rw [elo 62 2 (by omega), r4_q, e0_q 62 2 (by omega), a3_q, hlen]; omega
  · by_cases c1_q : j = q
    · rw [c1_q, eq0_q]; exact iZ
    · rw [eact j j1_q j2_q c1_q]; exact a5_q j j1_q j2_q
  · rw [List.getElem?_take] at hj
    by_cases c1_q : j < 20
    · rw [if_pos c1_q] at hj
      rcases j with _ | j
      · have e3_q : S = T := by
          have q3_q : (some S : Option zv_H) = some T := hj
          exact Option.some.inj q3_q
        rw [show ((q + 1) % 20 + 19 - ((0 : Nat) : Int)) % 20 = q by omega, eq0_q, ← e3_q]
        exact ⟨rfl, iS⟩
      · have q3_q : l[j]? = some T := hj
        have q4_q := a6_q j T q3_q
        rw [show ((q + 1) % 20 + 19 - ((j + 1 : Nat) : Int)) % 20 = (q + 19 - (j : Int)) % 20 by omega, eact _ (by omega) (by omega) (by omega)]
        exact q4_q
    · rw [if_neg c1_q] at hj
      cases hj
  · by_cases c1_q : x ≤ 288
    · exact e x k c1_q (by omega) (by unfold actn; omega) (by omega) (by omega) (by omega) (by omega)
    · exact ehi x k (by omega) (by omega) (by omega)
  · by_cases c1_q : x ≤ 288
    · exact e x k c1_q (by omega) (by unfold actn; omega) (by omega) (by omega) (by omega) (by omega)
    · exact ehi x k (by omega) (by omega) (by omega)
  · by_cases c1_q : x ≤ 288
    · exact e x k c1_q (by omega) (by unfold actn; omega) (by omega) (by omega) (by omega) (by omega)
    · exact ehi x k (by omega) (by omega) (by omega)
  · by_cases c1_q : x ≤ 288
    · exact e x k c1_q (by omega) (by unfold actn; omega) (by omega) (by omega) (by omega) (by omega)
    · exact ehi x k (by omega) (by omega) (by omega)
  · by_cases c1_q : x ≤ 288
    · exact e x k c1_q (by omega) (by unfold actn; omega) (by omega) (by omega) (by omega) (by omega)
    · exact ehi x k (by omega) (by omega) (by omega)
/-- .. without a seed -/
theorem GK_act0 {c : Int → Int} {σ σ1 σ2 : zv_H} {w u b q : Int} {Wm S S1 : zv_H} {l : List zv_H} (h : GK c σ w u b q Wm S l) (hr : remP σ σ1 q S S1) (ha : actP σ1 σ2 b Wm S1 ((S :: l).take 20)) (i1_q : SI (Wm 0 1) (Wm 0 3) S1) (z1_q : SZ S1) : GK c σ2 w u b ((q + 1) % 20) Wm S1 ((S :: l).take 20) := GK_act h (fun _ _ _ => rfl) hr (fun _ _ _ => rfl) ha i1_q z1_q (gSd_x h.2.2.2.2.2.2.2.2.2.1 (fun x k r => by
  rw [ha.2.2 x k (by omega) (by omega)]
  exact hr.2.2.2.2 x k (by omega) (by have a2_q := h.2.2.2.2.2.1.2.1; unfold actn; omega) (by omega) (by omega) (by omega)))
theorem rem_hi {σ σ1 : zv_H} {q : Int} {S S1 : zv_H} (hr : remP σ σ1 q S S1) (hq : 0 ≤ q ∧ q < 20) {x k : Int} (hx : 289 ≤ x ∨ x = 0) : σ1 x k = σ x k := hr.2.2.2.2 x k (by omega) (by unfold actn; omega) (by omega) (by omega) (by omega)
theorem gc_weeks {Γ : zv_M} {L : Int} {c : Int → Int} {σ : zv_H} {n : Int} (hG : GI c σ) : zC Γ m_NT_weeks 8 0 0 (GM L) [zR 1, zI n] σ (zPI (GM L) (gQ Γ L c m_M_weeks 8 [zR 289, zI n] σ)) := by
  obtain ⟨w, u, b, q, Wm, S, l, h⟩ := hG
  obtain ⟨h0_q, hn, hv, hi, hz, ac, tp, ow, fl, sd, sn, im, rf, mo⟩ := id h
  refine g_p (c_NT_weeks hn.2.1 (gN_w hn.1).1 hv.1 hv.2 hi.1 hi.2.1 hi.2.2.2 ac.1 ac.2.1 (by rw [ac.2.2.1.1]; have := ac.2.2.1.2; omega) (ac.2.2.2.1 q ac.2.1.1 ac.2.1.2)) (fun z σ1 k1_q => ?_)
  rcases k1_q with ⟨x1_q, x2_q, x3_q⟩ | ⟨x1_q, x2_q, x3_q⟩
  · have en : ∀ x j, x ≠ 288 → σ1 x j = σ x j := fun x j n1_q => by rw [x3_q, rfu_n n1_q]
    have mo1_q : gMo σ1 b Wm S l := gMo_lo mo hi.2.1 hi.1.2.2.1.2 (fun x j r => en x j (by omega))
    refine g2_p (fun j => en 0 j (by omega)) (c_M_weeks mo1_q.1 mo1_q.2.1 hi.1 hi.2.1 mo1_q.2.2) (fun z2_q σ2 k2_q => ?_)
    rcases k2_q with ⟨y1_q, y2_q, y3_q⟩ | ⟨y1_q, y2_q, y3_q⟩
    · refine ⟨by omega, w, u, b, q, Wm, S, l, ?_⟩
      rw [y3_q, x3_q]
      exact GK_r h (by omega)
    · exact absurd y1_q x1_q
  · have mo1_q : gMo σ1 b Wm S l := gMo_lo mo hi.2.1 hi.1.2.2.1.2 (fun x j r => rem_hi x3_q ac.2.1 (Or.inl r))
    refine g2_p (fun j => rem_hi x3_q ac.2.1 (Or.inr rfl)) (c_M_weeks mo1_q.1 mo1_q.2.1 hi.1 hi.2.1 mo1_q.2.2) (fun z2_q σ2 k2_q => ?_)
    rcases k2_q with ⟨y1_q, y2_q, y3_q⟩ | ⟨y1_q, y2_q, y3_q⟩
    · exact absurd x1_q y1_q
    · exact ⟨y2_q.trans x2_q.symm, w, u, b, _, Wm, _, _, GK_act0 h x3_q y3_q (SI_goo hi.2.1 hi.1 _) (SZ_goo hi.2.1 hi.1 hi.2.2.2 _)⟩
theorem gc_pay {Γ : zv_M} {L : Int} {c : Int → Int} {σ : zv_H} {c0_q p : Int} (hG : GI c σ) : zC Γ m_NT_pay 4 0 0 (GM L) [zR 1, zI c0_q, zI p] σ (zPI (GM L) (gQ Γ L c m_M_pay 4 [zR 289, zI c0_q, zI p] σ)) := by
  obtain ⟨w, u, b, q, Wm, S, l, h⟩ := hG
  obtain ⟨h0_q, hn, hv, hi, hz, ac, tp, ow, fl, sd, sn, im, rf, mo⟩ := id h
  refine g_p (c_NT_pay hn.2.1 (gN_w hn.1).1 hv.1 hv.2 hi.1 hi.2.1 hi.2.2.2 ac.1 ac.2.1 (by rw [ac.2.2.1.1]; have := ac.2.2.1.2; omega) (ac.2.2.2.1 q ac.2.1.1 ac.2.1.2)) (fun z σ1 k1_q => ?_)
  rcases k1_q with ⟨x1_q, x2_q, x3_q⟩ | ⟨x1_q, x2_q, x3_q⟩
  · have en : ∀ x j, x ≠ 288 → σ1 x j = σ x j := fun x j n1_q => by rw [x3_q, rfu_n n1_q]
    have mo1_q : gMo σ1 b Wm S l := gMo_lo mo hi.2.1 hi.1.2.2.1.2 (fun x j r => en x j (by omega))
    refine g2_p (fun j => en 0 j (by omega)) (c_M_pay mo1_q.1 mo1_q.2.1 hi.1 hi.2.1 mo1_q.2.2) (fun z2_q σ2 k2_q => ?_)
    rcases k2_q with ⟨y1_q, y2_q, y3_q⟩ | ⟨y1_q, y2_q, y3_q⟩
    · refine ⟨by omega, w, u, b, q, Wm, S, l, ?_⟩
      rw [y3_q, x3_q]
      exact GK_r h (by omega)
    · exact absurd y1_q x1_q
  · have mo1_q : gMo σ1 b Wm S l := gMo_lo mo hi.2.1 hi.1.2.2.1.2 (fun x j r => rem_hi x3_q ac.2.1 (Or.inl r))
    refine g2_p (fun j => rem_hi x3_q ac.2.1 (Or.inr rfl)) (c_M_pay mo1_q.1 mo1_q.2.1 hi.1 hi.2.1 mo1_q.2.2) (fun z2_q σ2 k2_q => ?_)
    rcases k2_q with ⟨y1_q, y2_q, y3_q⟩ | ⟨y1_q, y2_q, y3_q⟩
    · exact absurd x1_q y1_q
    · exact ⟨y2_q.trans x2_q.symm, w, u, b, _, Wm, _, _, GK_act0 h x3_q y3_q (SI_p hi.1 x1_q.2.1) (SZ_up hi.2.2.2 (by unfold inS; have := hi.2.1.1; omega))⟩
theorem gc_guard {Γ : zv_M} {L : Int} {c : Int → Int} {σ : zv_H} {c0_q p : Int} (hG : GI c σ) : zC Γ m_NT_guard 4 0 0 (GM L) [zR 1, zI c0_q, zI p] σ (zPI (GM L) (gQ Γ L c m_M_guard 4 [zR 289, zI c0_q, zI p] σ)) := by
  obtain ⟨w, u, b, q, Wm, S, l, h⟩ := hG
  obtain ⟨h0_q, hn, hv, hi, hz, ac, tp, ow, fl, sd, sn, im, rf, mo⟩ := id h
  refine g_p (c_NT_guard hn.2.1 (gN_w hn.1).1 hv.1 hv.2 hi.1 hi.2.1 hi.2.2.2 ac.1 ac.2.1 (by rw [ac.2.2.1.1]; have := ac.2.2.1.2; omega) (ac.2.2.2.1 q ac.2.1.1 ac.2.1.2)) (fun z σ1 k1_q => ?_)
  rcases k1_q with ⟨x1_q, x2_q, x3_q⟩ | ⟨x1_q, x2_q, x3_q⟩
  · have en : ∀ x j, x ≠ 288 → σ1 x j = σ x j := fun x j n1_q => by rw [x3_q, rfu_n n1_q]
    have mo1_q : gMo σ1 b Wm S l := gMo_lo mo hi.2.1 hi.1.2.2.1.2 (fun x j r => en x j (by omega))
    refine g2_p (fun j => en 0 j (by omega)) (c_M_guard mo1_q.1 mo1_q.2.1 hi.1 hi.2.1 mo1_q.2.2) (fun z2_q σ2 k2_q => ?_)
    rcases k2_q with ⟨y1_q, y2_q, y3_q⟩ | ⟨y1_q, y2_q, y3_q⟩
    · refine ⟨by omega, w, u, b, q, Wm, S, l, ?_⟩
      rw [y3_q, x3_q]
      exact GK_r h (by omega)
    · exact absurd y1_q x1_q
  · have mo1_q : gMo σ1 b Wm S l := gMo_lo mo hi.2.1 hi.1.2.2.1.2 (fun x j r => rem_hi x3_q ac.2.1 (Or.inl r))
    refine g2_p (fun j => rem_hi x3_q ac.2.1 (Or.inr rfl)) (c_M_guard mo1_q.1 mo1_q.2.1 hi.1 hi.2.1 mo1_q.2.2) (fun z2_q σ2 k2_q => ?_)
    rcases k2_q with ⟨y1_q, y2_q, y3_q⟩ | ⟨y1_q, y2_q, y3_q⟩
    · exact absurd x1_q y1_q
    · exact ⟨y2_q.trans x2_q.symm, w, u, b, _, Wm, _, _, GK_act0 h x3_q y3_q (SI_3 hi.1 x1_q.2.1) (SZ_up hi.2.2.2 (by unfold inS; have := hi.2.1.1; omega))⟩
theorem gc_tell {Γ : zv_M} {L : Int} {c : Int → Int} {σ : zv_H} {m c0_q : Int} (hG : GI c σ) : zC Γ m_NT_tell 4 0 0 (GM L) [zR 1, zI m, zI c0_q] σ (zPI (GM L) (gQ Γ L c m_M_tell 4 [zR 289, zI m, zI c0_q] σ)) := by
  obtain ⟨w, u, b, q, Wm, S, l, h⟩ := hG
  obtain ⟨h0_q, hn, hv, hi, hz, ac, tp, ow, fl, sd, sn, im, rf, mo⟩ := id h
  refine g_p (c_NT_tell hn.2.1 (gN_w hn.1).1 hv.1 hv.2 hi.1 hi.2.1 hi.2.2.2 ac.1 ac.2.1 (by rw [ac.2.2.1.1]; have := ac.2.2.1.2; omega) (ac.2.2.2.1 q ac.2.1.1 ac.2.1.2)) (fun z σ1 k1_q => ?_)
  rcases k1_q with ⟨x1_q, x2_q, x3_q⟩ | ⟨x1_q, x2_q, x3_q⟩
  · have en : ∀ x j, x ≠ 288 → σ1 x j = σ x j := fun x j n1_q => by rw [x3_q, rfu_n n1_q]
    have mo1_q : gMo σ1 b Wm S l := gMo_lo mo hi.2.1 hi.1.2.2.1.2 (fun x j r => en x j (by omega))
    refine g2_p (fun j => en 0 j (by omega)) (c_M_tell mo1_q.1 mo1_q.2.1 hi.1 hi.2.1 mo1_q.2.2) (fun z2_q σ2 k2_q => ?_)
    rcases k2_q with ⟨y1_q, y2_q, y3_q⟩ | ⟨y1_q, y2_q, y3_q⟩
    · refine ⟨by omega, w, u, b, q, Wm, S, l, ?_⟩
      rw [y3_q, x3_q]
      exact GK_r h (by omega)
    · exact absurd y1_q x1_q
  · have mo1_q : gMo σ1 b Wm S l := gMo_lo mo hi.2.1 hi.1.2.2.1.2 (fun x j r => rem_hi x3_q ac.2.1 (Or.inl r))
    refine g2_p (fun j => rem_hi x3_q ac.2.1 (Or.inr rfl)) (c_M_tell mo1_q.1 mo1_q.2.1 hi.1 hi.2.1 mo1_q.2.2) (fun z2_q σ2 k2_q => ?_)
    rcases k2_q with ⟨y1_q, y2_q, y3_q⟩ | ⟨y1_q, y2_q, y3_q⟩
    · exact absurd x1_q y1_q
    · exact ⟨y2_q.trans x2_q.symm, w, u, b, _, Wm, _, _, GK_act0 h x3_q y3_q (SI_snd hi.1 (by have := hi.1.1; omega)) (SZ_snd hi.2.2.2 (by have := hi.2.1.2.2.1; omega) (by have := hi.2.1.1; omega))⟩
theorem gc_chance {Γ : zv_M} {L : Int} {c : Int → Int} {σ : zv_H} {n : Int} (hG : GI c σ) : zC Γ m_NT_chance 8 0 0 (GM L) [zR 1, zI n] σ (zPI (GM L) (gQ Γ L c m_M_chance 8 [zR 289, zI n] σ)) := by
  obtain ⟨w, u, b, q, Wm, S, l, h⟩ := hG
  obtain ⟨h0_q, hn, hv, hi, hz, ac, tp, ow, fl, sd, sn, im, rf, mo⟩ := id h
  have cb := chn_b hi.2.1 hi.1 sd.2 hi.2.2.2 n.toNat
  refine g_p (c_NT_chance hn.2.1 (gN_w hn.1).1 hv.1 hv.2 hi.1 hi.2.1 hi.2.2.2 ac.1 ac.2.1 (by rw [ac.2.2.1.1]; have := ac.2.2.1.2; omega) (ac.2.2.2.1 q ac.2.1.1 ac.2.1.2) rfl sd.2) (fun z σ1 k1_q => ?_)
  rcases k1_q with ⟨x1_q, x2_q, x3_q⟩ | ⟨x1_q, x2_q, x3_q⟩
  · have en : ∀ x j, x ≠ 288 → σ1 x j = σ x j := fun x j n1_q => by rw [x3_q, rfu_n n1_q]
    have mo1_q : gMo σ1 b Wm S l := gMo_lo mo hi.2.1 hi.1.2.2.1.2 (fun x j r => en x j (by omega))
    refine g2_p (fun j => en 0 j (by omega)) (c_M_chance mo1_q.1 mo1_q.2.1 hi.1 hi.2.1 mo1_q.2.2 (s := σ 1 10) (by rw [en 289 59 (by omega)]; exact sd.1) sd.2 hi.2.2.2) (fun z2_q σ2 k2_q => ?_)
    rcases k2_q with ⟨y1_q, y2_q, y3_q⟩ | ⟨y1_q, y2_q, y3_q⟩
    · refine ⟨by omega, w, u, b, q, Wm, S, l, ?_⟩
      rw [y3_q, x3_q]
      exact GK_r h (by omega)
    · exact absurd y1_q x1_q
  · have en : ∀ x j, 289 ≤ x ∨ x = 0 → σ1 x j = σ x j := fun x j n1_q => by rw [rem_hi x3_q ac.2.1 n1_q, zup_n (by omega)]
    have mo1_q : gMo σ1 b Wm S l := gMo_lo mo hi.2.1 hi.1.2.2.1.2 (fun x j r => en x j (Or.inl r))
    refine g2_p (fun j => en 0 j (Or.inr rfl)) (c_M_chance mo1_q.1 mo1_q.2.1 hi.1 hi.2.1 mo1_q.2.2 (s := σ 1 10) (by rw [en 289 59 (by omega)]; exact sd.1) sd.2 hi.2.2.2) (fun z2_q σ2 k2_q => ?_)
    rcases k2_q with ⟨y1_q, y2_q, y3_q⟩ | ⟨y1_q, y2_q, y59_q, y3_q⟩
    · exact absurd x1_q y1_q
    · have e10_q : σ2 1 10 = (chnF Wm S (σ 1 10) n.toNat).2.1 := by
        rw [y3_q.2.2 1 10 (by omega) (by omega), zup_n (by omega), x3_q.2.2.2.2 1 10 (by omega) (by have a2_q := ac.2.1; unfold actn; omega) (by omega) (by omega) (by omega), zup_s]
      exact ⟨y2_q.trans x2_q.symm, w, u, b, _, Wm, _, _, GK_act h (fun x j n1_q => zup_n n1_q) x3_q (fun x j n1_q => zup_n n1_q) y3_q cb.1 cb.2.2.2 ⟨by rw [y59_q, e10_q], by rw [e10_q]; exact cb.2.1.1, by rw [e10_q]; exact cb.2.1.2⟩⟩
