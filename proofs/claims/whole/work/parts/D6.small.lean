/-! a STATEMENT: what the model comes to -/
theorem ctyF_p {T : Int → Int} {n p : Int} {A : zv_H} {x : Int × zv_H} (hT : TT T n) (hp : 0 ≤ p ∧ p ≤ n) (h : ctyF T A p = Sum.inl x) : p ≤ x.1 := by
  obtain ⟨y0_q, b0_q, h⟩ := bnd_e h
  have e0_q := tkNew_b b0_q
  have t0_q := tN_c hT hp (Or.inl e0_q.1)
  have n0_q : y0_q = tN T p := e0_q.2
  have g0_q : (0 ≤ y0_q ∧ y0_q ≤ n) ∧ p ≤ y0_q := by omega
  have hp0_q := g0_q.1
  obtain ⟨y1_q, b1_q, h⟩ := bnd_e h
  have e1_q := tkWord_b b1_q
  have t1_q := tN_c hT hp0_q (Or.inl e1_q.1)
  have n1_q : y1_q = tN T y0_q := e1_q.2
  have g1_q : (0 ≤ y1_q ∧ y1_q ≤ n) ∧ p ≤ y1_q := by omega
  have hp1_q := g1_q.1
  obtain ⟨y2_q, b2_q, h⟩ := bnd_e h
  have e2_q := tkNum_b b2_q
  have t2_q := tN_c hT hp1_q (Or.inr (Or.inl e2_q.2.2))
  have n2_q : y2_q.2 = tN T y1_q := e2_q.2.1
  have g2_q : (0 ≤ y2_q.2 ∧ y2_q.2 ≤ n) ∧ p ≤ y2_q.2 := by omega
  have hp2_q := g2_q.1
  obtain ⟨y3_q, b3_q, h⟩ := bnd_e h
  have e3_q := tkWord_b b3_q
  have t3_q := tN_c hT hp2_q (Or.inl e3_q.1)
  have n3_q : y3_q = tN T y2_q.2 := e3_q.2
  have g3_q : (0 ≤ y3_q ∧ y3_q ≤ n) ∧ p ≤ y3_q := by omega
  have hp3_q := g3_q.1
  obtain ⟨y4_q, b4_q, h⟩ := bnd_e h
  have e4_q := tkNum_b b4_q
  have t4_q := tN_c hT hp3_q (Or.inr (Or.inl e4_q.2.2))
  have n4_q : y4_q.2 = tN T y3_q := e4_q.2.1
  have g4_q : (0 ≤ y4_q.2 ∧ y4_q.2 ≤ n) ∧ p ≤ y4_q.2 := by omega
  have hp4_q := g4_q.1
  obtain ⟨y5_q, b5_q, h⟩ := bnd_e h
  have e5_q := tkWord_b b5_q
  have t5_q := tN_c hT hp4_q (Or.inl e5_q.1)
  have n5_q : y5_q = tN T y4_q.2 := e5_q.2
  have g5_q : (0 ≤ y5_q ∧ y5_q ≤ n) ∧ p ≤ y5_q := by omega
  have hp5_q := g5_q.1
  obtain ⟨y6_q, b6_q, h⟩ := bnd_e h
  have e6_q := tkNum_b b6_q
  have t6_q := tN_c hT hp5_q (Or.inr (Or.inl e6_q.2.2))
  have n6_q : y6_q.2 = tN T y5_q := e6_q.2.1
  have g6_q : (0 ≤ y6_q.2 ∧ y6_q.2 ≤ n) ∧ p ≤ y6_q.2 := by omega
  have hp6_q := g6_q.1
  rw [← Sum.inl.inj h]
  exact g6_q.2
theorem ralF_p {T : Int → Int} {n p : Int} {A : zv_H} {x : Int × zv_H} (hT : TT T n) (hp : 0 ≤ p ∧ p ≤ n) (h : ralF T A p = Sum.inl x) : p ≤ x.1 := by
  obtain ⟨y0_q, b0_q, h⟩ := bnd_e h
  have e0_q := tkCty_b b0_q
  have t0_q := tN_c hT hp (Or.inl e0_q.1)
  have n0_q : y0_q.2 = tN T p := e0_q.2.1
  have g0_q : (0 ≤ y0_q.2 ∧ y0_q.2 ≤ n) ∧ p ≤ y0_q.2 := by omega
  have hp0_q := g0_q.1
  obtain ⟨y1_q, b1_q, h⟩ := bnd_e h
  have e1_q := tkWord_b b1_q
  have t1_q := tN_c hT hp0_q (Or.inl e1_q.1)
  have n1_q : y1_q = tN T y0_q.2 := e1_q.2
  have g1_q : (0 ≤ y1_q ∧ y1_q ≤ n) ∧ p ≤ y1_q := by omega
  have hp1_q := g1_q.1
  obtain ⟨y2_q, b2_q, h⟩ := bnd_e h
  have e2_q := tkCty_b b2_q
  have t2_q := tN_c hT hp1_q (Or.inl e2_q.1)
  have n2_q : y2_q.2 = tN T y1_q := e2_q.2.1
  have g2_q : (0 ≤ y2_q.2 ∧ y2_q.2 ≤ n) ∧ p ≤ y2_q.2 := by omega
  have hp2_q := g2_q.1
  obtain ⟨y3_q, b3_q, h⟩ := bnd_e h
  have e3_q := tkWord_b b3_q
  have t3_q := tN_c hT hp2_q (Or.inl e3_q.1)
  have n3_q : y3_q = tN T y2_q.2 := e3_q.2
  have g3_q : (0 ≤ y3_q ∧ y3_q ≤ n) ∧ p ≤ y3_q := by omega
  have hp3_q := g3_q.1
  obtain ⟨y4_q, b4_q, h⟩ := bnd_e h
  have e4_q := tkNum_b b4_q
  have t4_q := tN_c hT hp3_q (Or.inr (Or.inl e4_q.2.2))
  have n4_q : y4_q.2 = tN T y3_q := e4_q.2.1
  have g4_q : (0 ≤ y4_q.2 ∧ y4_q.2 ≤ n) ∧ p ≤ y4_q.2 := by omega
  have hp4_q := g4_q.1
  rw [← Sum.inl.inj h]
  exact g4_q.2
theorem mnnF_p {T : Int → Int} {n p : Int} {A : zv_H} {x : Int × zv_H} (hT : TT T n) (hp : 0 ≤ p ∧ p ≤ n) (h : mnnF T A p = Sum.inl x) : p ≤ x.1 := by
  obtain ⟨y0_q, b0_q, h⟩ := bnd_e h
  have e0_q := tkNew_b b0_q
  have t0_q := tN_c hT hp (Or.inl e0_q.1)
  have n0_q : y0_q = tN T p := e0_q.2
  have g0_q : (0 ≤ y0_q ∧ y0_q ≤ n) ∧ p ≤ y0_q := by omega
  have hp0_q := g0_q.1
  obtain ⟨y1_q, b1_q, h⟩ := bnd_e h
  have e1_q := tkWord_b b1_q
  have t1_q := tN_c hT hp0_q (Or.inl e1_q.1)
  have n1_q : y1_q = tN T y0_q := e1_q.2
  have g1_q : (0 ≤ y1_q ∧ y1_q ≤ n) ∧ p ≤ y1_q := by omega
  have hp1_q := g1_q.1
  obtain ⟨y2_q, b2_q, h⟩ := bnd_e h
  have e2_q := tkCty_b b2_q
  have t2_q := tN_c hT hp1_q (Or.inl e2_q.1)
  have n2_q : y2_q.2 = tN T y1_q := e2_q.2.1
  have g2_q : (0 ≤ y2_q.2 ∧ y2_q.2 ≤ n) ∧ p ≤ y2_q.2 := by omega
  have hp2_q := g2_q.1
  obtain ⟨y3_q, b3_q, h⟩ := bnd_e h
  have e3_q := tkWord_b b3_q
  have t3_q := tN_c hT hp2_q (Or.inl e3_q.1)
  have n3_q : y3_q = tN T y2_q.2 := e3_q.2
  have g3_q : (0 ≤ y3_q ∧ y3_q ≤ n) ∧ p ≤ y3_q := by omega
  have hp3_q := g3_q.1
  obtain ⟨y4_q, b4_q, h⟩ := bnd_e h
  have e4_q := tkNum_b b4_q
  have t4_q := tN_c hT hp3_q (Or.inr (Or.inl e4_q.2.2))
  have n4_q : y4_q.2 = tN T y3_q := e4_q.2.1
  have g4_q : (0 ≤ y4_q.2 ∧ y4_q.2 ≤ n) ∧ p ≤ y4_q.2 := by omega
  have hp4_q := g4_q.1
  rw [← Sum.inl.inj h]
  exact g4_q.2
theorem pstF_p {T : Int → Int} {n p : Int} {A : zv_H} {x : Int × zv_H} (hT : TT T n) (hp : 0 ≤ p ∧ p ≤ n) (h : pstF T A p = Sum.inl x) : p ≤ x.1 := by
  obtain ⟨y0_q, b0_q, h⟩ := bnd_e h
  have e0_q := tkNum_b b0_q
  have t0_q := tN_c hT hp (Or.inr (Or.inl e0_q.2.2))
  have n0_q : y0_q.2 = tN T p := e0_q.2.1
  have g0_q : (0 ≤ y0_q.2 ∧ y0_q.2 ≤ n) ∧ p ≤ y0_q.2 := by omega
  have hp0_q := g0_q.1
  rw [← Sum.inl.inj h]
  exact g0_q.2
theorem stR_0 {T : Int → Int} {n p : Int} {A : zv_H} {J K : List (Int × Int)} {res : zX zSt} (h : stR T n p A J K res) (k4_q : tK T p ≠ 4) (hu : tO T p = 0) : res = lftS (if 7 ≤ A 0 1 then Sum.inr (6, tQ T p) else ctyF T A (tN T p)) J K := by
  have tq := tPQ k4_q
  rcases h with ⟨a, e⟩ | ⟨a, e⟩ | ⟨a, e⟩
  · exact absurd (show bgS (tO T p) by omega) a
  · rw [if_pos (by omega), e, tq]; rfl
  · rw [if_neg (fun q => a (by omega))]
    rcases e with e | e | e | e | e | e
    · exact e.2
    · have := e.1; exfalso; omega
    · have := e.1; exfalso; omega
    · have := e.1; exfalso; omega
    · have := e.1; exfalso; omega
    · have := e.1; exfalso; omega
theorem stR_4 {T : Int → Int} {n p : Int} {A : zv_H} {J K : List (Int × Int)} {res : zX zSt} (h : stR T n p A J K res) (k4_q : tK T p ≠ 4) (hu : tO T p = 4) : res = lftS (if 12 ≤ A 0 2 then Sum.inr (6, tQ T p) else ralF T A (tN T p)) J K := by
  have tq := tPQ k4_q
  rcases h with ⟨a, e⟩ | ⟨a, e⟩ | ⟨a, e⟩
  · exact absurd (show bgS (tO T p) by omega) a
  · rw [if_pos (by omega), e, tq]; rfl
  · rw [if_neg (fun q => a (by omega))]
    rcases e with e | e | e | e | e | e
    · have := e.1; exfalso; omega
    · exact e.2
    · have := e.1; exfalso; omega
    · have := e.1; exfalso; omega
    · have := e.1; exfalso; omega
    · have := e.1; exfalso; omega
theorem stR_7 {T : Int → Int} {n p : Int} {A : zv_H} {J K : List (Int × Int)} {res : zX zSt} (h : stR T n p A J K res) (k4_q : tK T p ≠ 4) (hu : tO T p = 7) : res = lftS (if 6 ≤ A 0 3 then Sum.inr (6, tQ T p) else mnnF T A (tN T p)) J K := by
  have tq := tPQ k4_q
  rcases h with ⟨a, e⟩ | ⟨a, e⟩ | ⟨a, e⟩
  · exact absurd (show bgS (tO T p) by omega) a
  · rw [if_pos (by omega), e, tq]; rfl
  · rw [if_neg (fun q => a (by omega))]
    rcases e with e | e | e | e | e | e
    · have := e.1; exfalso; omega
    · have := e.1; exfalso; omega
    · exact e.2
    · have := e.1; exfalso; omega
    · have := e.1; exfalso; omega
    · have := e.1; exfalso; omega
theorem stR_12 {T : Int → Int} {n p : Int} {A : zv_H} {J K : List (Int × Int)} {res : zX zSt} (h : stR T n p A J K res) (k4_q : tK T p ≠ 4) (hu : tO T p = 12) : res = lftS (pstF T A (tN T p)) J K := by
  have tq := tPQ k4_q
  rcases h with ⟨a, e⟩ | ⟨a, e⟩ | ⟨a, e⟩
  · exact absurd (show bgS (tO T p) by omega) a
  · exfalso; omega
  · skip
    rcases e with e | e | e | e | e | e
    · have := e.1; exfalso; omega
    · have := e.1; exfalso; omega
    · have := e.1; exfalso; omega
    · exact e.2
    · have := e.1; exfalso; omega
    · have := e.1; exfalso; omega
theorem wl_c {cs : List (Int × Int)} {t : Bool} {B : Nat} (h : wl (cs.map enS) t B) (hB : B ≤ 64) : cs ≠ [] := fun e => by
  obtain ⟨v, _, _, q, _⟩ := h (fun _ => 0) (fun _ => ⟨by show (-1000 : Int) ≤ 0; omega, by show (0 : Int) ≤ 10000; omega⟩) [] (fun u hu => (by cases hu)) (by rw [List.length_nil]; omega)
  rw [e] at q
  cases q
theorem q_jumps {Γ : zv_M} {L : Int} {s : zSpan} {σ : zv_H} {T : Int → Int} {n i p : Int} {A : zv_H} {J K out : List (Int × Int)} {res : zX zSt} (hi1_q : i = 0 ∨ i = 1) (hs : ∀ x k, inZt i x k → s.2 x k) (h : stS s σ T n i A J K out p) (hres : stR T n p A J K res) (k1_q : tK T p = 1) (hu : tO T p = 10) : zC Γ m_M_reading 5 0 0 (GM L) [zR 289, zI 0] σ (zP0 (GM L) (fun σ' => stE s σ' T n i res)) := by
  have tq := tPQ (T := T) (p := p) (by omega)
  obtain ⟨h1_q, h2_q, h3_q, h4_q, h5_q, h6_q, h7_q, h8_q, h9_q⟩ := h
  have t0_q := tN_c h1_q.2.1.2.1 h1_q.2.2.2.2.2.1 (Or.inl k1_q)
  have hl := fmT_0 h6_q
  have hlen : J = [] ↔ J.length = 0 := List.length_eq_zero_iff.symm
  rcases hres with ⟨a, e⟩ | ⟨a, e⟩ | ⟨a, e⟩
  · exact absurd (show bgS (tO T p) by omega) a
  · refine zC_mono (fun q G' σ' hq => ?_) (g_reading1 (k0_q := 0) (Y := (0, [], [], 0, false)) (r := zft 0 0) (lk := false) (u := 0) hi1_q hs h1_q (by omega) h3_q h4_q h5_q k1_q (fun q => by have := hlen.mp (hl.mp q); omega))
    refine ⟨hq.1, hq.2.1, ?_⟩
    rw [e, tq]
    exact ⟨A, hq.2.2⟩
  · have hJ : J = [] := hlen.mpr (by omega)
    have h302_q := hl.mpr hJ
    rcases e with e | e | e | e | e | e
    · have := e.1; exfalso; omega
    · have := e.1; exfalso; omega
    · have := e.1; exfalso; omega
    · have := e.1; exfalso; omega
    · skip
      rcases e.2 with ⟨p', cs, q, b1_q, b2_q, er⟩ | ⟨k, pl, q, er⟩
      · obtain ⟨k0_q, Y, hr, he⟩ := jmp_r (out := out) q
        have hne := wl_c q.2.1 (by decide)
        refine zC_mono (fun q G' σ' hq => ?_) (g_reading0 (u := 0) (lk := false) hi1_q hs h1_q (by omega) h3_q h4_q h5_q k1_q rfl hr rfl (endR_n he) h302_q)
        refine ⟨hq.1, hq.2.1, ?_⟩
        have hd := hq.2.2
        rw [er]
        rcases he with ⟨k4_q, eq⟩ | ⟨k4_q, F, o, d, eq⟩
        · rw [eq] at hd
          exact Or.inr ⟨k4_q, A, hd⟩
        · rw [eq] at hd
          obtain ⟨d1_q, d2_q, d3_q, d4_q, d5_q, d6_q⟩ := hd
          have g0_q : fmT σ' i 0 cs (cs.reverse ++ out) := Or.inr ⟨hne, out, [], rfl, d4_q, by rw [d5_q, List.length_append, List.length_reverse]; omega⟩
          have g1_q : fmT σ' i 1 K (cs.reverse ++ out) := fmT_x h7_q (d6_q 302 (Or.inl rfl)) (d6_q 303 (Or.inr rfl))
          have hck : ckO (cs.reverse ++ out) := ck_fin hr ⟨fun x hx => (by cases hx), fun q => (by omega), trivial⟩ h8_q eq
          exact Or.inl ⟨cs.reverse ++ out, d1_q, h2_q, d2_q, d3_q, by rw [List.length_append, List.length_reverse]; omega, g0_q, g1_q, hck, h9_q⟩
      · obtain ⟨k0_q, Y, hr, he⟩ := jmp_b (out := out) q
        refine zC_mono (fun q G' σ' hq => ?_) (g_reading0 (u := 0) (lk := false) hi1_q hs h1_q (by omega) h3_q h4_q h5_q k1_q rfl hr he (fun Z q => (by cases q)) h302_q)
        refine ⟨hq.1, hq.2.1, ?_⟩
        rw [er]
        exact ⟨A, hq.2.2⟩
    · have := e.1; exfalso; omega

theorem q_likes {Γ : zv_M} {L : Int} {s : zSpan} {σ : zv_H} {T : Int → Int} {n i p : Int} {A : zv_H} {J K out : List (Int × Int)} {res : zX zSt} (hi1_q : i = 0 ∨ i = 1) (hs : ∀ x k, inZt i x k → s.2 x k) (h : stS s σ T n i A J K out p) (hres : stR T n p A J K res) (k1_q : tK T p = 1) (hu : tO T p = 11) : zC Γ m_M_reading 5 0 0 (GM L) [zR 289, zI 1] σ (zP0 (GM L) (fun σ' => stE s σ' T n i res)) := by
  have tq := tPQ (T := T) (p := p) (by omega)
  obtain ⟨h1_q, h2_q, h3_q, h4_q, h5_q, h6_q, h7_q, h8_q, h9_q⟩ := h
  have t0_q := tN_c h1_q.2.1.2.1 h1_q.2.2.2.2.2.1 (Or.inl k1_q)
  have hl := fmT_0 h7_q
  have hlen : K = [] ↔ K.length = 0 := List.length_eq_zero_iff.symm
  rcases hres with ⟨a, e⟩ | ⟨a, e⟩ | ⟨a, e⟩
  · exact absurd (show bgS (tO T p) by omega) a
  · refine zC_mono (fun q G' σ' hq => ?_) (g_reading1 (k0_q := 0) (Y := (0, [], [], 0, false)) (r := zft 0 0) (lk := false) (u := 1) hi1_q hs h1_q (by omega) h3_q h4_q h5_q k1_q (fun q => by have := hlen.mp (hl.mp q); omega))
    refine ⟨hq.1, hq.2.1, ?_⟩
    rw [e, tq]
    exact ⟨A, hq.2.2⟩
  · have hJ : K = [] := hlen.mpr (by omega)
    have h302_q := hl.mpr hJ
    rcases e with e | e | e | e | e | e
    · have := e.1; exfalso; omega
    · have := e.1; exfalso; omega
    · have := e.1; exfalso; omega
    · have := e.1; exfalso; omega
    · have := e.1; exfalso; omega
    · skip
      rcases e.2 with ⟨p', cs, q, b1_q, b2_q, er⟩ | ⟨k, pl, q, er⟩
      · obtain ⟨k0_q, Y, hr, he⟩ := lks_r (out := out) q
        have hne := wl_c q.2.1 (by decide)
        refine zC_mono (fun q G' σ' hq => ?_) (g_reading0 (u := 1) (lk := true) hi1_q hs h1_q (by omega) h3_q h4_q h5_q k1_q rfl hr rfl (endR_n he) h302_q)
        refine ⟨hq.1, hq.2.1, ?_⟩
        have hd := hq.2.2
        rw [er]
        rcases he with ⟨k4_q, eq⟩ | ⟨k4_q, F, o, d, eq⟩
        · rw [eq] at hd
          exact Or.inr ⟨k4_q, A, hd⟩
        · rw [eq] at hd
          obtain ⟨d1_q, d2_q, d3_q, d4_q, d5_q, d6_q⟩ := hd
          have g0_q : fmT σ' i 1 cs (cs.reverse ++ out) := Or.inr ⟨hne, out, [], rfl, d4_q, by rw [d5_q, List.length_append, List.length_reverse]; omega⟩
          have g1_q : fmT σ' i 0 J (cs.reverse ++ out) := fmT_x h6_q (d6_q 302 (Or.inl rfl)) (d6_q 303 (Or.inr rfl))
          have hck : ckO (cs.reverse ++ out) := ck_fin hr ⟨fun x hx => (by cases hx), fun q => (by omega), trivial⟩ h8_q eq
          exact Or.inl ⟨cs.reverse ++ out, d1_q, h2_q, d2_q, d3_q, by rw [List.length_append, List.length_reverse]; omega, g1_q, g0_q, hck, h9_q⟩
      · obtain ⟨k0_q, Y, hr, he⟩ := lks_b (out := out) q
        refine zC_mono (fun q G' σ' hq => ?_) (g_reading0 (u := 1) (lk := true) hi1_q hs h1_q (by omega) h3_q h4_q h5_q k1_q rfl hr he (fun Z q => (by cases q)) h302_q)
        refine ⟨hq.1, hq.2.1, ?_⟩
        rw [er]
        exact ⟨A, hq.2.2⟩

