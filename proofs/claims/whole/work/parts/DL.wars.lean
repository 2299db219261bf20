theorem gc_war {Γ : zv_M} {L : Int} {c : Int → Int} {σ : zv_H} (hG : GI c σ) : zC Γ m_NT_war 124 0 0 (GM L) [zR 1] σ (zPI (GM L) (gQ Γ L c m_M_war 7 [zR 289] σ)) := by
  obtain ⟨w, u, b, q, Wm, S, l, h⟩ := hG
  obtain ⟨h0_q, hn, hv, hi, hz, ac, tp, ow, fl, sd, sn, im, rf, mo⟩ := id h
  have hu : (w = 4 ∧ u = 17) ∨ (w = 17 ∧ u = 4) := hn.1
  have t0_q := tp.1
  have hTT : TT (tA σ) (σ 2 1) := ⟨t0_q, fun j j1_q j2_q => (tA_b tp j1_q j2_q).2, fun j hj => if_neg hj⟩
  have hb := mo.1
  refine g_p (c_NT_war (T := tA σ) (n := σ 2 1) hn.2.1 hn.2.2 (gN_w hn.1).1 (gN_w hn.1).2 rfl rfl hTT ow hv.2 hi.2.2.2) (fun z σ1 k1_q => ?_)
  rcases k1_q with ⟨kf, pl, x1_q, x2_q, x3_q, x4_q, x5_q, x6_q, x7_q⟩ | ⟨A, J, K, p, σ5, x1_q, x2_q, x3_q, x4_q, x5_q, x6_q, x7_q, x8_q, x9_q, x10_q, x11_q, x12_q, x13_q, x14_q⟩
  · have en : ∀ x j, 289 ≤ x ∨ x = 0 → σ1 x j = σ x j := fun x j n1_q => x7_q x j (by omega) (by omega) (by omega) (by omega) (by omega) (by omega)
    refine g2_p (fun j => en 0 j (Or.inr rfl)) (c_M_war (T := tA σ) (n := σ 2 1) (b := b) (i := 1 - b) (by rw [en 289 13 (by omega)]; exact mo.2.1.2.2.1) hb rfl (by rw [en 289 1 (by omega)]; exact tp.2.1) hTT (fun j j1_q j2_q => by rw [en 290 j (by omega), (tp.2.2 j j1_q j2_q).1]; exact (tA_b tp j1_q j2_q).1.symm) x1_q) (fun z2_q σ2 k2_q => ?_)
    rcases k2_q with ⟨kf2_q, pl2_q, A, σ5, y1_q, y2_q, y3_q, y4_q, y5_q⟩ | ⟨p, A, J, K, out, σ5, y1_q, _⟩
    · have q1_q := Sum.inr.inj y1_q
      have ek : kf2_q = kf := congrArg Prod.fst q1_q.symm
      have ep : pl2_q = pl := congrArg Prod.snd q1_q.symm
      refine ⟨by omega, w, u, b, q, Wm, S, l, ?_⟩
      have f5_q : ∀ x j, ¬ inZt (1 - b) x j → ¬ (x = 289 ∧ ((1 ≤ j ∧ j ≤ 9) ∨ j = 12 ∨ j = 31 ∨ j = 32)) → σ5 x j = σ1 x j := fun x j n1_q n2_q => by
        rw [y4_q.1 x j n1_q (by omega)]
        exact mcl_o n1_q (by omega)
      have f51_q : σ5 289 1 = 0 := by
        rw [y4_q.1 289 1 (fun r => by unfold inZt inW inF at r; omega) (by omega)]
        show mcl σ1 (1 - b) (σ 2 1) 289 1 = 0
        exact mcl_f1 (by omega)
      have m : ∀ x j, x ≠ 314 → ¬ (x = 289 ∧ (j = 10 ∨ j = 11)) → σ2 x j = σ5 x j := fun x j n1_q n2_q => by rw [y5_q, rfM_n n1_q, zup_n (by omega), zup_n (by omega)]
      have nz : ∀ x j, x ≤ 288 → ¬ inZt (1 - b) x j := fun x j n1_q r => by unfold inZt inW inF at r; omega
      have elo : ∀ x j, x ≤ 288 → σ2 x j = σ1 x j := fun x j n1_q => by rw [m x j (by omega) (by omega), f5_q x j (nz x j n1_q) (by omega)]
      -- class's cells
      have e : ∀ x j, x ≤ 288 → ¬ (u ≤ x ∧ x ≤ u + 12) → x ≠ 52 → x ≠ 53 → ¬ (x = 1 ∧ (j = 11 ∨ j = 12)) → ¬ (x = 2 ∧ j = 1) → ¬ (x = 288 ∧ j = 1) → σ2 x j = σ x j := fun x j n1_q n2_q n3_q n4_q n5_q n6_q n7_q => by rw [elo x j n1_q, x7_q x j n2_q n3_q n4_q n5_q n6_q n7_q]
      -- the model's
      have ehi : ∀ x j, 289 ≤ x → ¬ inZt (1 - b) x j → ¬ (x = 289 ∧ ((1 ≤ j ∧ j ≤ 12) ∨ j = 31 ∨ j = 32)) → x ≠ 314 → σ2 x j = σ x j := fun x j n1_q n2_q n3_q n4_q => by rw [m x j n4_q (by omega), f5_q x j n2_q (by omega), en x j (Or.inl n1_q)]
      have nz2_q : ∀ x j, (x = 290 ∨ 314 ≤ x ∨ (x = 289 ∧ (j = 1 ∨ j = 10 ∨ j = 11 ∨ j = 13 ∨ 44 ≤ j))) → ¬ inZt (1 - b) x j := fun x j n1_q r => by unfold inZt inW inF at r; omega
      have e21_q : σ2 2 1 = 0 := by rw [elo 2 1 (by omega)]; exact x5_q
      have em1_q : σ2 289 1 = 0 := by rw [m 289 1 (by omega) (by omega)]; exact f51_q
      have em10_q : σ2 289 10 = kf2_q := by rw [y5_q, rfM_n (by omega), zup_n (by omega), zup_s]
      have em11_q : σ2 289 11 = pl2_q := by rw [y5_q, rfM_n (by omega), zup_s]
      refine GK_t h (fun x j ru r => ?_) ⟨by rw [e21_q]; omega, by rw [em1_q, e21_q], fun j j1_q j2_q => by rw [e21_q] at j2_q; omega⟩ ⟨by rw [em10_q, elo 1 11 (by omega), x3_q, ek], by rw [em11_q, elo 1 12 (by omega), x4_q, ep]⟩ (gSd_x sd (fun x j r => ?_)) (gSn_x sn (fun x j r => ?_)) (gIm_x im (fun x j r => ?_)) (gRf_r rf (i := 1) (fun j => ?_) (fun j => ?_) (by omega)) (gMo_x mo hi.2.1 hi.1.2.2.1.2 (fun x j r => ?_))
      · exact e x j (by omega) ru (by omega) (by omega) (by omega) (by omega) (by omega)
      · by_cases c1_q : x ≤ 288
        · exact e x j c1_q (by omega) (by omega) (by omega) (by omega) (by omega) (by omega)
        · exact ehi x j (by omega) (nz2_q x j (by omega)) (by omega) (by omega)
      · by_cases c1_q : x ≤ 288
        · exact e x j c1_q (by omega) (by omega) (by omega) (by omega) (by omega) (by omega)
        · exact ehi x j (by omega) (nz2_q x j (by omega)) (by omega) (by omega)
      · by_cases c1_q : x ≤ 288
        · exact e x j c1_q (by omega) (by omega) (by omega) (by omega) (by omega) (by omega)
        · exact ehi x j (by omega) (nz2_q x j (by omega)) (by omega) (by omega)
      · by_cases c1_q : j = 1
        · rw [c1_q, if_pos rfl, elo 288 1 (by omega), x6_q]
        · rw [if_neg c1_q]
          exact e 288 j (by omega) (by omega) (by omega) (by omega) (by omega) (by omega) (by omega)
      · have g : ∀ j, σ5 314 j = σ 314 j := fun j => by rw [f5_q 314 j (nz2_q 314 j (by omega)) (by omega), en 314 j (by omega)]
        rw [y5_q]
        unfold rfM
        rw [zup_n (a' := 314) (k' := 1) (by omega), zup_n (a' := 314) (k' := 1) (by omega), g]
        by_cases c1_q : j = 1
        · rw [c1_q, zup_s, if_pos rfl]
        · rw [zup_n (by omega), if_neg c1_q, zup_n (by omega), zup_n (by omega), g]
      · rcases r with r | r | r
        · exact ehi x j (by omega) (nz2_q x j (by omega)) (by omega) (by omega)
        · exact ehi x j (by unfold inB at r; omega) (fun r2_q => by unfold inB at r; unfold inZt inW inF at r2_q; omega) (by unfold inB at r; omega) (by unfold inB at r; omega)
        · exact ehi x j (by omega) (nz2_q x j (by omega)) (by omega) (by omega)
    · cases y1_q
  · have en : ∀ x j, 289 ≤ x ∨ x = 0 → σ1 x j = σ x j := fun x j n1_q => x14_q x j (by omega) (by omega) (by omega) (by omega) (by omega) (by omega) (by omega) (by omega) (by omega)
    refine g2_p (fun j => en 0 j (Or.inr rfl)) (c_M_war (T := tA σ) (n := σ 2 1) (b := b) (i := 1 - b) (by rw [en 289 13 (by omega)]; exact mo.2.1.2.2.1) hb rfl (by rw [en 289 1 (by omega)]; exact tp.2.1) hTT (fun j j1_q j2_q => by rw [en 290 j (by omega), (tp.2.2 j j1_q j2_q).1]; exact (tA_b tp j1_q j2_q).1.symm) x1_q) (fun z2_q σ2 k2_q => ?_)
    rcases k2_q with ⟨kf2_q, pl2_q, A2, σ6, y1_q, _⟩ | ⟨p2_q, A2, J2, K2, out, σ6, y1_q, y2_q, y3_q, y4_q⟩
    · cases y1_q
    · have q1_q := Sum.inl.inj y1_q
      have eA : A2 = A := congrArg (fun q : zv_H × List (Int × Int) × List (Int × Int) => q.1) q1_q.symm
      have eJ : J2 = J := congrArg (fun q : zv_H × List (Int × Int) × List (Int × Int) => q.2.1) q1_q.symm
      have eK : K2 = K := congrArg (fun q : zv_H × List (Int × Int) × List (Int × Int) => q.2.2) q1_q.symm
      rw [eA] at y2_q y3_q
      rw [eJ, eK] at y3_q
      have wf := wmF_of x3_q
      generalize hWm : vw 12 (zrow σ5 (u + 12) (fwB (fwD (σ5 (u + 12)) (A 0 1).toNat) (A 0 1).toNat (A 0 1).toNat)) u = W2 at x5_q x6_q wf
      have gd := war_gd 82 0 AZ [] [] A J K x1_q (Or.inl rfl) (Or.inl rfl)
      have hl2_q : (out.length : Int) ≤ 1600 := by have a1_q := y3_q.2.2.2.2.1; have a2_q := y3_q.1.2.2.2.2.2.1; omega
      have lJ := fmT_l y3_q.2.2.2.2.2.1
      have lK := fmT_l y3_q.2.2.2.2.2.2.1
      have WW := wmF_WI wf x2_q gd.1 gd.2 (by omega) (by omega)
      have sM := war_M (S := S) (i := 1 - b) (by omega) y3_q wf gd.1 gd.2
      rw [← y4_q] at sM
      refine ⟨y2_q.trans x4_q.symm, u, w, 1 - b, q, W2, sttF W2 S, [], ?_⟩
      have f5_q : ∀ x j, ¬ inZt (1 - b) x j → ¬ (x = 289 ∧ ((1 ≤ j ∧ j ≤ 9) ∨ j = 12 ∨ j = 31 ∨ j = 32)) → σ6 x j = σ1 x j := fun x j n1_q n2_q => by
        rw [y3_q.1.1 x j n1_q (by omega)]
        exact mcl_o n1_q (by omega)
      have f51_q : σ6 289 1 = 0 := by
        rw [y3_q.1.1 289 1 (fun r => by unfold inZt inW inF at r; omega) (by omega)]
        show mcl σ1 (1 - b) (σ 2 1) 289 1 = 0
        exact mcl_f1 (by omega)
      have mk := mwE_k (σ := σ6) (i := 1 - b)
      rw [← y4_q] at mk
      have elo : ∀ x j, x ≤ 288 → σ2 x j = σ1 x j := fun x j n1_q => by
        rw [y4_q, mwE_o (by omega) (by omega) (by omega), f5_q x j (fun r => by unfold inZt inW inF at r; omega) (by omega)]
      have e : ∀ x j, x ≤ 288 → ¬ (u ≤ x ∧ x ≤ u + 12) → ¬ (30 ≤ x ∧ x ≤ 40) → x ≠ 52 → x ≠ 53 → x ≠ 56 → x ≠ 57 → ¬ (x = 1 ∧ (j = 8 ∨ j = 9 ∨ j = 11 ∨ j = 12 ∨ j = 15)) → ¬ (x = 2 ∧ j = 1) → ¬ (x = 62 ∧ j = 2) → σ2 x j = σ x j := fun x j n1_q n2_q n3_q n4_q n5_q n6_q n7_q n8_q n9_q n10_q => by rw [elo x j n1_q, x14_q x j n2_q n3_q n4_q n5_q n6_q n7_q n8_q n9_q n10_q]
      have ehi : ∀ x j, (x = 314 ∨ (332 ≤ x ∧ x ≤ 334) ∨ (x = 289 ∧ (j = 57 ∨ j = 59 ∨ j = 71))) → σ2 x j = σ x j := fun x j n1_q => by
        rw [y4_q, mwE_o (by omega) (by omega) (by omega), f5_q x j (fun r => by unfold inZt inW inF at r; omega) (by omega), en x j (by omega)]
      have e21_q : σ2 2 1 = 0 := by rw [elo 2 1 (by omega)]; exact x12_q
      have e15_q : σ2 1 15 = 0 := by rw [elo 1 15 (by omega)]; exact x11_q
      have em1_q : σ2 289 1 = 0 := by rw [y4_q, mwE_o (by omega) (by omega) (by omega)]; exact f51_q
      refine ⟨fun j => by rw [e 0 j (by omega) (by omega) (by omega) (by omega) (by omega) (by omega) (by omega) (by omega) (by omega) (by omega)]; exact h0_q j, ⟨gN_s hn.1, by rw [elo 1 8 (by omega)]; exact x7_q, by rw [elo 1 9 (by omega)]; exact x8_q⟩, ⟨?_, ?_⟩, ⟨SI_stt WW.1 (SI_rb hi.1), WW.1, WW.2, SZ_stt hi.2.2.2⟩, ?_, ⟨?_, ac.2.1, ⟨?_, Nat.zero_le _⟩, fun j j1_q j2_q => ?_, fun j T2 hj => by cases hj⟩, ⟨by rw [e21_q]; omega, by rw [em1_q, e21_q], fun j j1_q j2_q => by rw [e21_q] at j2_q; omega⟩, gOw_x ow (fun k => e 54 k (by omega) (by omega) (by omega) (by omega) (by omega) (by omega) (by omega) (by omega) (by omega) (by omega)), ⟨by rw [mk.1, elo 1 11 (by omega), x9_q], by rw [mk.2.1, elo 1 12 (by omega), x10_q]⟩, gSd_x sd (fun x k r => ?_), ⟨by rw [mk.2.2.2.2, e15_q], by rw [e15_q]; omega, fun j j1_q j2_q => by rw [e15_q] at j2_q; omega⟩, gIm_x im (fun x k r => ?_), gRf_x rf (fun x k r => ?_), ⟨by omega, sM, ⟨mk.2.2.2.1, Nat.zero_le _⟩, by rw [ehi 289 57 (by omega)]; exact mo.2.2.2.1, fun j T2 hj => by cases hj⟩⟩
      · rw [vw_eq (σ := σ1) (fun x k n1_q n2_q => elo x k (by omega)) (by omega)]
        exact x5_q
      · rw [vw_eq (σ := σ1) (fun x k n1_q n2_q => elo x k (by omega)) (by omega)]
        exact x6_q
      · rw [vw_eq (σ := σ) (fun x k n1_q n2_q => e x k (by omega) (by omega) (by omega) (by omega) (by omega) (by omega) (by omega) (by omega) (by omega) (by omega)) (by omega)]
        exact hz
      · rw [e 62 1 (by omega) (by omega) (by omega) (by omega) (by omega) (by omega) (by omega) (by omega) (by omega) (by omega)]; exact ac.1
      · rw [elo 62 2 (by omega)]; exact x13_q
      · rw [vw_eq (σ := σ) (fun x k n1_q n2_q => by
          unfold actn at n1_q n2_q
          exact e x k (by omega) (by omega) (by omega) (by omega) (by omega) (by omega) (by omega) (by omega) (by omega) (by omega)) (by omega)]
        exact ac.2.2.2.1 j j1_q j2_q
      · by_cases c1_q : x ≤ 288
        · exact e x k c1_q (by omega) (by omega) (by omega) (by omega) (by omega) (by omega) (by omega) (by omega) (by omega)
        · exact ehi x k (by omega)
      · by_cases c1_q : x ≤ 288
        · exact e x k c1_q (by omega) (by omega) (by omega) (by omega) (by omega) (by omega) (by omega) (by omega) (by omega)
        · exact ehi x k (by omega)
      · by_cases c1_q : x ≤ 288
        · exact e x k c1_q (by omega) (by omega) (by omega) (by omega) (by omega) (by omega) (by omega) (by omega) (by omega)
        · exact ehi x k (by omega)
