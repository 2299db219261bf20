theorem gc_undo {Γ : zv_M} {L : Int} {c : Int → Int} {σ : zv_H} (hG : GI c σ) : zC Γ m_NT_undo 4 0 0 (GM L) [zR 1] σ (zPI (GM L) (gQ Γ L c m_M_undo 3 [zR 289] σ)) := by
  obtain ⟨w, u, b, q, Wm, S, l, h⟩ := hG
  obtain ⟨h0_q, hn, hv, hi, hz, ac, tp, ow, fl, sd, sn, im, rf, mo⟩ := id h
  have aq := ac.2.1
  have al := ac.2.2.1.1
  refine g_p (c_NT_undo hn.2.1 (gN_w hn.1).1 hv.1 hv.2 hi.1 hi.2.1 hi.2.2.2 ac.1 ac.2.1 (by rw [al]; have := ac.2.2.1.2; omega) (ac.2.2.2.1 _ (by omega) (by omega))) (fun z σ1 k1_q => ?_)
  rcases k1_q with ⟨x1_q, x2_q, x3_q⟩ | ⟨x1_q, x2_q, x3_q, x4_q, x5_q, x6_q⟩
  · have en : ∀ x j, x ≠ 288 → σ1 x j = σ x j := fun x j n1_q => by rw [x3_q, rfu_n n1_q]
    have mo1_q : gMo σ1 b Wm S l := gMo_lo mo hi.2.1 hi.1.2.2.1.2 (fun x j r => en x j (by omega))
    refine g2_p (fun j => en 0 j (by omega)) (c_M_undo mo1_q.1 mo1_q.2.1 hi.1 hi.2.1 mo1_q.2.2) (fun z2_q σ2 k2_q => ?_)
    rcases k2_q with ⟨y1_q, y2_q, y3_q⟩ | ⟨T, r, y1_q, y2_q, y3_q⟩
    · refine ⟨by omega, w, u, b, q, Wm, S, l, ?_⟩
      rw [y3_q, x3_q]
      exact GK_r h (by omega)
    · rw [al, y1_q, List.length_cons] at x1_q
      exfalso; omega
  · have en : ∀ x j, 289 ≤ x ∨ x = 0 → σ1 x j = σ x j := fun x j n1_q => x6_q x j (by omega) (by omega) (by omega) (by omega)
    have mo1_q : gMo σ1 b Wm S l := gMo_lo mo hi.2.1 hi.1.2.2.1.2 (fun x j r => en x j (Or.inl r))
    refine g2_p (fun j => en 0 j (Or.inr rfl)) (c_M_undo mo1_q.1 mo1_q.2.1 hi.1 hi.2.1 mo1_q.2.2) (fun z2_q σ2 k2_q => ?_)
    rcases k2_q with ⟨y1_q, y2_q, y3_q⟩ | ⟨T, r, y1_q, y2_q, y3_q⟩
    · rw [al, y1_q, List.length_nil] at x1_q
      exfalso; omega
    · have t0_q := ac.2.2.2.2 0 T (by rw [y1_q]; rfl)
      rw [show (q + 19 - ((0 : Nat) : Int)) % 20 = (q + 20 - 1) % 20 by omega] at t0_q
      have tz : SZ T := by rw [← t0_q.1]; exact ac.2.2.2.1 _ (by omega) (by omega)
      refine ⟨y2_q.trans x2_q.symm, w, u, b, (q + 20 - 1) % 20, Wm, T, r, ?_⟩
      have hu : (w = 4 ∧ u = 17) ∨ (w = 17 ∧ u = 4) := hn.1
      have m3_q := y3_q.2.2
      have elo : ∀ x j, x ≤ 288 → σ2 x j = σ1 x j := fun x j n1_q => m3_q x j (by omega) (by omega)
      have e : ∀ x j, x ≤ 288 → ¬ (30 ≤ x ∧ x ≤ 40) → ¬ (x = 62 ∧ (j = 1 ∨ j = 2)) → x ≠ 56 → x ≠ 57 → σ2 x j = σ x j := fun x j n1_q n2_q n3_q n4_q n5_q => by rw [elo x j n1_q, x6_q x j n2_q n3_q n4_q n5_q]
      have ehi : ∀ x j, 289 ≤ x → ¬ (315 ≤ x ∧ x ≤ 328) → ¬ (x = 289 ∧ (j = 57 ∨ j = 58 ∨ j = 62)) → σ2 x j = σ x j := fun x j n1_q n2_q n3_q => by rw [m3_q x j n2_q n3_q]; exact en x j (Or.inl n1_q)
      have eact : ∀ j, 0 ≤ j → j < 20 → vw 10 σ2 (actn j) = vw 10 σ (actn j) := fun j j1_q j2_q => vw_eq (fun x k n1_q n2_q => by
        unfold actn at n1_q n2_q
        exact e x k (by omega) (by omega) (by omega) (by omega) (by omega)) (by omega)
      refine ⟨fun j => by rw [e 0 j (by omega) (by omega) (by omega) (by omega) (by omega)]; exact h0_q j, ⟨hn.1, by rw [e 1 8 (by omega) (by omega) (by omega) (by omega) (by omega)]; exact hn.2.1, by rw [e 1 9 (by omega) (by omega) (by omega) (by omega) (by omega)]; exact hn.2.2⟩, ⟨?_, ?_⟩, ⟨t0_q.2, hi.2.1, hi.2.2.1, tz⟩, ?_, ⟨?_, by omega, ⟨?_, ?_⟩, fun j j1_q j2_q => by rw [eact j j1_q j2_q]; exact ac.2.2.2.1 j j1_q j2_q, fun j T2 hj => ?_⟩, gTp_x tp (fun x k r => ?_), gOw_x ow (fun k => e 54 k (by omega) (by omega) (by omega) (by omega) (by omega)), gFl_x fl (fun x k r => ?_), gSd_x sd (fun x k r => ?_), gSn_x sn (fun x k r => ?_), gIm_x im (fun x k r => ?_), gRf_x rf (fun x k r => ?_), ⟨mo.1, y3_q.1, y3_q.2.1⟩⟩
      · rw [← hv.1]
        exact vw_eq (fun x k n1_q n2_q => e x k (by omega) (by omega) (by omega) (by omega) (by omega)) (by omega)
      · rw [vw_eq (σ := σ1) (fun x k n1_q n2_q => elo x k (by omega)) (by omega), x3_q]
        exact t0_q.1
      · rw [vw_eq (σ := σ) (fun x k n1_q n2_q => e x k (by omega) (by omega) (by omega) (by omega) (by omega)) (by omega)]
        exact hz
      · rw [elo 62 1 (by omega)]; exact x4_q
      · rw [elo 62 2 (by omega), x5_q, al, y1_q, List.length_cons]; omega
      · have := ac.2.2.1.2
        rw [y1_q, List.length_cons] at this
        omega
      · have t1_q := ac.2.2.2.2 (j + 1) T2 (by rw [y1_q]; exact hj)
        rw [show (q + 19 - ((j + 1 : Nat) : Int)) % 20 = ((q + 20 - 1) % 20 + 19 - (j : Int)) % 20 by omega] at t1_q
        rw [eact _ (by omega) (by omega)]
        exact t1_q
      · by_cases c1_q : x ≤ 288
        · exact e x k c1_q (by omega) (by omega) (by omega) (by omega)
        · exact ehi x k (by omega) (by omega) (by omega)
      · by_cases c1_q : x ≤ 288
        · exact e x k c1_q (by omega) (by omega) (by omega) (by omega)
        · exact ehi x k (by omega) (by omega) (by omega)
      · by_cases c1_q : x ≤ 288
        · exact e x k c1_q (by omega) (by omega) (by omega) (by omega)
        · exact ehi x k (by omega) (by omega) (by omega)
      · by_cases c1_q : x ≤ 288
        · exact e x k c1_q (by omega) (by omega) (by omega) (by omega)
        · exact ehi x k (by omega) (by omega) (by omega)
      · by_cases c1_q : x ≤ 288
        · exact e x k c1_q (by omega) (by omega) (by omega) (by omega)
        · exact ehi x k (by omega) (by omega) (by omega)
      · by_cases c1_q : x ≤ 288
        · exact e x k c1_q (by omega) (by omega) (by omega) (by omega)
        · exact ehi x k (by omega) (by omega) (by omega)
theorem tA_b {σ : zv_H} (h : gTp σ) {k : Int} (h1_q : 0 ≤ k) (h2_q : k < σ 2 1) : tA σ k = σ 3 k ∧ 0 ≤ tA σ k ∧ tA σ k ≤ 255 := by
  have e : tA σ k = σ 3 k := if_pos ⟨h1_q, h2_q⟩
  rw [e]
  exact ⟨rfl, (h.2.2 k h1_q h2_q).2⟩
theorem gc_on {Γ : zv_M} {L : Int} {c : Int → Int} {σ : zv_H} (hG : GI c σ) : zC Γ m_NT_on 6 0 0 (GM L) [zR 1] σ (zPI (GM L) (gQ Γ L c m_M_on 3 [zR 289] σ)) := by
  obtain ⟨w, u, b, q, Wm, S, l, h⟩ := hG
  obtain ⟨h0_q, hn, hv, hi, hz, ac, tp, ow, fl, sd, sn, im, rf, mo⟩ := id h
  have hu : (w = 4 ∧ u = 17) ∨ (w = 17 ∧ u = 4) := hn.1
  have t0_q := tp.1
  refine g_p (r_NT_on hn.2.1 (gN_w hn.1).1 hv.1 hv.2 hi.1 hi.2.1 hi.2.2.2 rfl hz tp.1 (fun j j1_q j2_q => (tp.2.2 j j1_q j2_q).2)) (fun z σ1 k1_q => ?_)
  rcases k1_q with ⟨x1_q, x2_q, σa, x3_q, x4_q, x5_q⟩ | ⟨x1_q, x2_q, x3_q, x4_q, x5_q, x6_q, x7_q⟩
  · have ga : GK c σa w u b q Wm S l := GK_x h (fun x j r => by
      have q1_q := fr_s r
      have q2_q : ¬ (x = 284 ∧ j ≠ 1) := fun q => r (by unfold fr; omega)
      exact x3_q x j (by omega) (by omega) (by omega) (by omega)) x4_q
    have en : ∀ x j, 289 ≤ x ∨ x = 0 → σ1 x j = σa x j := fun x j n1_q => by rw [x5_q, rfu_n (by omega), zup_n (by omega)]
    have en0_q : ∀ x j, 289 ≤ x ∨ x = 0 → σ1 x j = σ x j := fun x j n1_q => by rw [en x j n1_q, x3_q x j (by omega) (by omega) (by omega) (by omega)]
    have mo1_q : gMo σ1 b Wm S l := gMo_lo mo hi.2.1 hi.1.2.2.1.2 (fun x j r => en0_q x j (Or.inl r))
    refine g2_p (fun j => en0_q 0 j (Or.inr rfl)) (c_M_on (T := tA σ) (n := σ 2 1) (A := vw 10 σ 41) mo1_q.1 mo1_q.2.1 hi.1 hi.2.1 (by rw [en0_q 289 1 (by omega)]; exact tp.2.1) tp.1 (fun j j1_q j2_q => by rw [en0_q 290 j (by omega), (tp.2.2 j j1_q j2_q).1]; have tb := tA_b tp j1_q j2_q; exact ⟨tb.1.symm, tb.2⟩)) (fun z2_q σ2 k2_q => ?_)
    rcases k2_q with ⟨y1_q, y2_q, σb, y3_q, y4_q⟩ | ⟨y1_q, y2_q, _⟩
    · refine ⟨by omega, w, u, b, q, Wm, S, l, ?_⟩
      have ta := ga.2.2.2.2.2.2.1.1
      have g1_q : GK c (zup (zup σa 2 1 0) 289 1 0) w u b q Wm S l := GK_end (n := 0) ga (by omega)
      have g2_q : GK c (rfM (rfu (zup (zup σa 2 1 0) 289 1 0) 5) 5) w u b q Wm S l := GK_r g1_q (by omega)
      refine GK_x g2_q (fun x j r => ?_) ?_
      · have q1_q := fr_s r
        rw [y4_q]
        unfold rfM
        by_cases c1_q : x = 314 ∧ j = 5
        · rw [c1_q.1, c1_q.2, zup_s, zup_s, y3_q 314 5 (by unfold inV; omega), zup_n (by omega), en 314 5 (by omega), rfu_n (by omega), zup_n (by omega), zup_n (by omega)]
        · rw [zup_n c1_q, zup_n c1_q, y3_q x j q1_q.2.2.1]
          by_cases c2_q : x = 289 ∧ j = 1
          · rw [c2_q.1, c2_q.2, zup_s, rfu_n (by omega), zup_s]
          · rw [zup_n c2_q, x5_q]
            unfold rfu
            by_cases c3_q : x = 288 ∧ j = 5
            · rw [c3_q.1, c3_q.2, zup_s, zup_s, zup_n (by omega), zup_n (by omega), zup_n (by omega)]
            · rw [zup_n c3_q, zup_n c3_q, zup_n c2_q]
      · rw [vw_eq (σ := σa) (fun x j n1_q n2_q => by
          rw [y4_q]
          unfold rfM
          rw [zup_n (by omega), y3_q x j (by unfold inV; omega), zup_n (by omega), x5_q, rfu_n (by omega), zup_n (by omega)]) (by omega)]
        exact x4_q
    · exact absurd y2_q x1_q
  · have en : ∀ x j, 289 ≤ x ∨ x = 0 → σ1 x j = σ x j := fun x j n1_q => x7_q x j (by omega) (by omega) (by omega) (by omega) (by omega) (by omega)
    have mo1_q : gMo σ1 b Wm S l := gMo_lo mo hi.2.1 hi.1.2.2.1.2 (fun x j r => en x j (Or.inl r))
    refine g2_p (fun j => en 0 j (Or.inr rfl)) (c_M_on (T := tA σ) (n := σ 2 1) (A := vw 10 σ 41) mo1_q.1 mo1_q.2.1 hi.1 hi.2.1 (by rw [en 289 1 (by omega)]; exact tp.2.1) tp.1 (fun j j1_q j2_q => by rw [en 290 j (by omega), (tp.2.2 j j1_q j2_q).1]; have tb := tA_b tp j1_q j2_q; exact ⟨tb.1.symm, tb.2⟩)) (fun z2_q σ2 k2_q => ?_)
    rcases k2_q with ⟨y1_q, y2_q, _⟩ | ⟨y1_q, y2_q, y3_q, y4_q, y5_q, y6_q⟩
    · exact absurd x1_q y2_q
    · refine ⟨y1_q.trans x2_q.symm, w, u, b, q, Wm, rdA (tA σ) Wm (sttF Wm (vw 10 σ 41)), [], ?_⟩
      have elo : ∀ x j, x ≤ 288 → σ2 x j = σ1 x j := fun x j n1_q => y6_q x j (by omega) (by omega)
      have e : ∀ x j, x ≤ 288 → ¬ (30 ≤ x ∧ x ≤ 51) → x ≠ 56 → x ≠ 57 → ¬ (x = 284 ∧ (j = 3 ∨ j = 4)) → ¬ (x = 62 ∧ j = 2) → ¬ (x = 2 ∧ j = 1) → σ2 x j = σ x j := fun x j n1_q n2_q n3_q n4_q n5_q n6_q n7_q => by rw [elo x j n1_q, x7_q x j n2_q n3_q n4_q n5_q n6_q n7_q]
      have ehi : ∀ x j, 289 ≤ x → ¬ (315 ≤ x ∧ x ≤ 328) → ¬ (x = 289 ∧ (j = 1 ∨ j = 58)) → σ2 x j = σ x j := fun x j n1_q n2_q n3_q => by rw [y6_q x j n2_q n3_q]; exact en x j (Or.inl n1_q)
      have w1_q := hi.2.1.1
      have w3_q := hi.2.1.2.2.1
      have e21_q : σ2 2 1 = 0 := by rw [elo 2 1 (by omega)]; exact x6_q
      refine ⟨fun j => by rw [e 0 j (by omega) (by omega) (by omega) (by omega) (by omega) (by omega) (by omega)]; exact h0_q j, ⟨hn.1, by rw [e 1 8 (by omega) (by omega) (by omega) (by omega) (by omega) (by omega) (by omega)]; exact hn.2.1, by rw [e 1 9 (by omega) (by omega) (by omega) (by omega) (by omega) (by omega) (by omega)]; exact hn.2.2⟩, ⟨?_, ?_⟩, ⟨SI_rdA hi.2.1 hz.2 x1_q, hi.2.1, hi.2.2.1, SZ_rdA (SZ_stt hz.1) w1_q w3_q⟩, ?_, ⟨?_, ac.2.1, ⟨?_, Nat.zero_le _⟩, fun j j1_q j2_q => ?_, fun j T2 hj => by cases hj⟩, ⟨by rw [e21_q]; omega, by rw [y5_q, e21_q], fun j j1_q j2_q => by rw [e21_q] at j2_q; omega⟩, gOw_x ow (fun k => e 54 k (by omega) (by omega) (by omega) (by omega) (by omega) (by omega) (by omega)), gFl_x fl (fun x k r => ?_), gSd_x sd (fun x k r => ?_), gSn_x sn (fun x k r => ?_), gIm_x im (fun x k r => ?_), gRf_x rf (fun x k r => ?_), ⟨mo.1, y3_q, ⟨y4_q, Nat.zero_le _⟩, by rw [ehi 289 57 (by omega) (by omega) (by omega)]; exact mo.2.2.2.1, fun j T2 hj => by cases hj⟩⟩
      · rw [← hv.1]
        exact vw_eq (fun x k n1_q n2_q => e x k (by omega) (by omega) (by omega) (by omega) (by omega) (by omega) (by omega)) (by omega)
      · rw [vw_eq (σ := σ1) (fun x k n1_q n2_q => elo x k (by omega)) (by omega)]
        exact x3_q
      · rw [vw_eq (σ := σ1) (fun x k n1_q n2_q => elo x k (by omega)) (by omega)]
        exact x4_q
      · rw [e 62 1 (by omega) (by omega) (by omega) (by omega) (by omega) (by omega) (by omega)]; exact ac.1
      · rw [elo 62 2 (by omega)]; exact x5_q
      · rw [vw_eq (σ := σ) (fun x k n1_q n2_q => by
          unfold actn at n1_q n2_q
          exact e x k (by omega) (by omega) (by omega) (by omega) (by omega) (by omega) (by omega)) (by omega)]
        exact ac.2.2.2.1 j j1_q j2_q
      · by_cases c1_q : x ≤ 288
        · exact e x k c1_q (by omega) (by omega) (by omega) (by omega) (by omega) (by omega)
        · exact ehi x k (by omega) (by omega) (by omega)
      · by_cases c1_q : x ≤ 288
        · exact e x k c1_q (by omega) (by omega) (by omega) (by omega) (by omega) (by omega)
        · exact ehi x k (by omega) (by omega) (by omega)
      · by_cases c1_q : x ≤ 288
        · exact e x k c1_q (by omega) (by omega) (by omega) (by omega) (by omega) (by omega)
        · exact ehi x k (by omega) (by omega) (by omega)
      · by_cases c1_q : x ≤ 288
        · exact e x k c1_q (by omega) (by omega) (by omega) (by omega) (by omega) (by omega)
        · exact ehi x k (by omega) (by omega) (by omega)
      · by_cases c1_q : x ≤ 288
        · exact e x k c1_q (by omega) (by omega) (by omega) (by omega) (by omega) (by omega)
        · exact ehi x k (by omega) (by omega) (by omega)
