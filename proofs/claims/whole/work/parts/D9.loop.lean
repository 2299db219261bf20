/-! the text's loop: the model -/
theorem rdR_0 {s : zSpan} {σ : zv_H} {T : Int → Int} {n i v : Int} {A : zv_H} {r : zX Int} (h : rdR s σ T n i A r) : rdR s σ T n i (zup A 0 0 v) r := by
  obtain ⟨f, t, b, ⟨⟨w1_q, w2_q, w3_q, w4_q⟩, w5_q, w6_q, w7_q⟩, g⟩ := h
  have e : ∀ x k, ¬ (x = 0 ∧ k = 0) → zup A 0 0 v x k = A x k := fun x k q => zup_n q
  refine ⟨f, t, b, ⟨⟨by rw [e 0 1 (by omega)]; exact w1_q, by rw [e 0 2 (by omega)]; exact w2_q, by rw [e 0 3 (by omega)]; exact w3_q, by rw [e 0 4 (by omega)]; exact w4_q⟩, fun c q1_q q2_q => ?_, fun c q1_q q2_q => ?_, fun c q1_q q2_q => by rw [e 12 c (by omega)]; exact w7_q c q1_q q2_q⟩, g⟩
  · rw [e 0 1 (by omega)] at q2_q
    rw [e 1 c (by omega), e 2 c (by omega), e 3 c (by omega), e 4 c (by omega)]; exact w5_q c q1_q q2_q
  · rw [e 0 3 (by omega)] at q2_q
    rw [e 5 c (by omega), e 6 c (by omega), e 7 c (by omega)]; exact w6_q c q1_q q2_q
theorem AI_0 {T : Int → Int} {v : Int} {A : zv_H} (h : AI T A) (hv : 0 ≤ v ∧ v ≤ 80) : AI T (zup A 0 0 v) := by
  obtain ⟨a0_q, a1_q, a2_q, a3_q, a4_q, a5_q, a6_q, a7_q⟩ := h
  have e : ∀ x k, ¬ (x = 0 ∧ k = 0) → zup A 0 0 v x k = A x k := fun x k q => zup_n q
  refine ⟨by rw [zup_s]; exact hv, by rw [e 0 1 (by omega)]; exact a1_q, by rw [e 0 2 (by omega)]; exact a2_q, by rw [e 0 3 (by omega)]; exact a3_q, by rw [e 0 4 (by omega)]; exact a4_q, fun c q1_q q2_q => ?_, fun c q1_q q2_q => ?_, fun c q1_q q2_q => by rw [e 12 c (by omega)]; exact a7_q c q1_q q2_q⟩
  · rw [e 0 1 (by omega)] at q2_q
    rw [e 1 c (by omega), e 2 c (by omega), e 3 c (by omega), e 4 c (by omega)]; exact a5_q c q1_q q2_q
  · rw [e 0 3 (by omega)] at q2_q
    rw [e 5 c (by omega), e 6 c (by omega), e 7 c (by omega), e 0 1 (by omega)]; exact a6_q c q1_q q2_q
abbrev zRw : Type := zX (zv_H × List (Int × Int) × List (Int × Int))
/-- before a STATEMENT, k are read -/
def lpI (s : zSpan) (σ : zv_H) (T : Int → Int) (n i : Int) (R : zRw) (k : Int) : Prop := (∃ (p : Int) (A : zv_H) (J K out : List (Int × Int)) (g : Nat), stS s σ T n i A J K out p ∧ A 0 0 = k ∧ k ≤ 80 ∧ (k = 80 → tK T p = 0) ∧ 82 ≤ (g : Int) + k ∧ warR T n g p A J K R) ∨ (∃ (kf pl : Int) (A : zv_H), R = Sum.inr (kf, pl) ∧ rdR s σ T n i A (Sum.inr (kf, pl)))
/-- what comes of a STATEMENT -/
def nxR (T : Int → Int) (n k : Int) (g : Nat) (R : zRw) (res : zX zSt) : Prop := (∃ kf pl, res = Sum.inr (kf, pl) ∧ R = Sum.inr (kf, pl)) ∨ (∃ (p' : Int) (A' : zv_H) (J' K' : List (Int × Int)), res = Sum.inl (p', A', J', K') ∧ ((¬ isSg T p' 59 ∧ R = Sum.inr (1, tP T p')) ∨ (isSg T p' 59 ∧ warR T n g (tN T p') (zup A' 0 0 (k + 1)) J' K' R)))
/-- at the end -/
theorem lpI_e {s : zSpan} {σ : zv_H} {T : Int → Int} {n i k : Int} {R : zRw} (h : lpI s σ T n i R k) : (∃ (kf pl : Int) (A : zv_H), R = Sum.inr (kf, pl) ∧ 0 < kf ∧ rdR s σ T n i A (Sum.inr (kf, pl))) ∨ (σ 289 8 = 0 ∧ (σ 289 3 ≠ 0 → True) ∧ (σ 289 3 = 0 → ∃ (p : Int) (A : zv_H) (J K out : List (Int × Int)), R = Sum.inl (A, J, K) ∧ A 0 0 = k ∧ stS s σ T n i A J K out p)) := by
  rcases h with ⟨p, A, J, K, out, g, h1_q, h2_q, h3_q, h4_q, h5_q, h6_q⟩ | ⟨kf, pl, A, h1_q, h2_q⟩
  · refine Or.inr ⟨h1_q.1.2.2.2.2.1, fun _ => trivial, fun e => ?_⟩
    have hm := h1_q.1.2.2.2.2.2.2
    have k0_q : tK T p = 0 := by
      by_cases k4_q : tK T p = 4
      · exact absurd e (hm.2.1 k4_q).2
      · have q := (hm.2.2.1 k4_q).2.1
        omega
    rcases g with _ | g
    · exfalso; omega
    · rcases h6_q with q | q
      · exact ⟨p, A, J, K, out, q.2, h2_q, h1_q⟩
      · exact absurd k0_q q.1
  · exact Or.inl ⟨kf, pl, A, h1_q, h2_q.2.2.2.2.1, h2_q⟩
/-- one more STATEMENT -/
theorem lpI_s {s : zSpan} {σ : zv_H} {T : Int → Int} {n i k : Int} {R : zRw} (h : lpI s σ T n i R k) (h8_q : σ 289 8 = 0) (h3_q : σ 289 3 ≠ 0) : ∃ (p : Int) (A : zv_H) (J K out : List (Int × Int)) (g : Nat) (res : zX zSt), stS s σ T n i A J K out p ∧ stR T n p A J K res ∧ nxR T n k g R res ∧ (0 ≤ k ∧ k < 80) ∧ 82 ≤ (g : Int) + (k + 1) := by
  rcases h with ⟨p, A, J, K, out, g, h1_q, h2_q, h4_q, h5_q, h6_q, h7_q⟩ | ⟨kf, pl, A, h1_q, h2_q⟩
  · have hm := h1_q.1.2.2.2.2.2.2
    have k0_q : tK T p ≠ 0 := fun e => by
      have q := (hm.2.2.1 (by omega)).2.1
      omega
    have a0_q := h1_q.2.1.1
    rcases g with _ | g
    · exfalso; omega
    · rcases h7_q with q | ⟨_, q | ⟨_, ⟨kf, pl, q1_q, q2_q⟩ | ⟨p', A', J', K', q1_q, q2_q⟩⟩⟩
      · exact absurd q.1 k0_q
      · have q1_q := q.1
        exfalso
        exact k0_q (h5_q (by omega))
      · exact ⟨p, A, J, K, out, g, _, h1_q, q1_q, Or.inl ⟨kf, pl, rfl, q2_q⟩, by omega, by omega⟩
      · rw [h2_q] at q2_q
        exact ⟨p, A, J, K, out, g, _, h1_q, q1_q, Or.inr ⟨p', A', J', K', rfl, q2_q⟩, by omega, by omega⟩
  · have q1_q := h2_q.2.2.2.2.1
    have q2_q := h2_q.2.2.2.2.2.1
    exfalso; omega
theorem q_fin {Γ : zv_M} {L : Int} {s : zSpan} {σ : zv_H} {T : Int → Int} {n i k : Int} {R : zRw} {g : Nat} {res : zX zSt} (h : stE s σ T n i res) (hn : nxR T n k g R res) (hk : 0 ≤ k ∧ k < 80) (hg : 82 ≤ (g : Int) + (k + 1)) : zC Γ m_M_finishes 4 0 0 (GM L) [zR 289, zI (k + 1)] σ (zP0 (GM L) (fun σ' => lpI s σ' T n i R (k + 1))) := by
  have bad : ∀ (kf pl : Int) (A : zv_H), R = Sum.inr (kf, pl) → rdR s σ T n i A (Sum.inr (kf, pl)) → zC Γ m_M_finishes 4 0 0 (GM L) [zR 289, zI (k + 1)] σ (zP0 (GM L) (fun σ' => lpI s σ' T n i R (k + 1))) := fun kf pl A hR hr => by
    refine zC_mono (fun q G' σ' hq => ?_) (b_fin (rdR_i hr))
    obtain ⟨e1_q, e2_q, e3_q⟩ := hq
    subst e1_q e2_q e3_q
    exact ⟨rfl, rfl, Or.inr ⟨kf, pl, A, hR, hr⟩⟩
  rcases hn with ⟨kf, pl, e, hR⟩ | ⟨p', A', J', K', e, hR⟩
  · rw [e] at h
    obtain ⟨A, hr⟩ := h
    exact bad kf pl A hR hr
  · rw [e] at h
    rcases h with ⟨out', h⟩ | ⟨k4_q, A, hr⟩
    · refine zC_mono (fun q G' σ' hq => ?_) (c_M_finishes (m := k + 1) h.1 (by omega))
      obtain ⟨g1_q, g2_q, g3_q, g4_q⟩ := hq
      refine ⟨g1_q, g2_q, ?_⟩
      rcases hR with ⟨ns, hR⟩ | ⟨sg, hR⟩
      · have e2_q : fnR T p' (k + 1) = Sum.inr (1, tP T p') := by
          unfold fnR
          rw [if_neg (fun q => ns q.1)]
          exact if_neg ns
        rw [e2_q] at g3_q
        exact Or.inr ⟨1, _, A', hR, g3_q⟩
      · by_cases h80_q : k + 1 = 80 ∧ tK T (tN T p') ≠ 0
        · have e2_q : fnR T p' (k + 1) = Sum.inr (6, tQ T (tN T p')) := if_pos ⟨sg, h80_q⟩
          rw [e2_q] at g3_q
          refine Or.inr ⟨6, _, A', ?_, g3_q⟩
          rcases g with _ | g
          · exfalso; omega
          · rcases hR with q | ⟨_, q | q⟩
            · exact absurd q.1 h80_q.2
            · exact q.2
            · have q1_q := q.1
              rw [zup_s] at q1_q
              exfalso; omega
        · have e2_q : fnR T p' (k + 1) = Sum.inl (tN T p') := by
            unfold fnR
            rw [if_neg (fun q => h80_q q.2)]
            exact if_pos sg
          rw [e2_q] at g3_q
          have t := tN_c h.1.2.1.2.1 h.1.2.2.2.2.2.1 (Or.inr (Or.inr sg.1))
          obtain ⟨h1_q, h2_q, h3_q, h4_q, h5_q, h6_q, h7_q, h8_q, h9_q⟩ := h
          refine Or.inl ⟨tN T p', zup A' 0 0 (k + 1), J', K', out', g, ⟨rdR_0 g3_q, AI_0 h2_q (by omega), ouM_x h3_q (fun x j q _ _ => g4_q x j (by omega)), by rw [g4_q 289 31 (by omega)]; exact h4_q, by omega, fmT_x (post := []) h6_q (g4_q _ _ (by omega)) (g4_q _ _ (by omega)), fmT_x (post := []) h7_q (g4_q _ _ (by omega)) (g4_q _ _ (by omega)), h8_q, rlA_0 h9_q⟩, by rw [zup_s], by omega, fun q => ?_, by omega, hR⟩
          by_cases z : tK T (tN T p') = 0
          · exact z
          · exact absurd ⟨q, z⟩ h80_q
    · have ns : ¬ isSg T p' 59 := fun q => by have := q.1; omega
      rcases hR with ⟨_, hR⟩ | ⟨sg, _⟩
      · exact bad 1 _ A hR hr
      · exact absurd sg ns
