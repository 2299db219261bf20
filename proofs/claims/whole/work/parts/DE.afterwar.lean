/-! behind war(): what is so of the WAR -/
def gdW (t : Bool) (cs : List (Int × Int)) : Prop := cs = [] ∨ wl (cs.map enS) t 41
theorem lft_e {x : zX (Int × zv_H)} {J K J' K' : List (Int × Int)} {p : Int} {A : zv_H} (h : (Sum.inl (p, A, J', K') : zX zSt) = lftS x J K) : J' = J ∧ K' = K := by
  rcases x with a | e
  · have h2_q : (Sum.inl (p, A, J', K') : zX zSt) = Sum.inl (a.1, a.2, J, K) := h
    have h3_q := Sum.inl.inj h2_q
    exact ⟨congrArg (fun q : zSt => q.2.2.1) h3_q, congrArg (fun q : zSt => q.2.2.2) h3_q⟩
  · have h2_q : (Sum.inl (p, A, J', K') : zX zSt) = Sum.inr e := h
    cases h2_q
theorem st_gd {T : Int → Int} {n p p' : Int} {A A' : zv_H} {J K J' K' : List (Int × Int)} (h : stR T n p A J K (Sum.inl (p', A', J', K'))) (gJ : gdW true J) (gK : gdW false K) : gdW true J' ∧ gdW false K' := by
  rcases h with ⟨_, e⟩ | ⟨_, e⟩ | ⟨_, e⟩
  · cases e
  · cases e
  · rcases e with ⟨_, e⟩ | ⟨_, e⟩ | ⟨_, e⟩ | ⟨_, e⟩ | ⟨_, e⟩ | ⟨_, e⟩
    · have q := lft_e e
      rw [q.1, q.2]; exact ⟨gJ, gK⟩
    · have q := lft_e e
      rw [q.1, q.2]; exact ⟨gJ, gK⟩
    · have q := lft_e e
      rw [q.1, q.2]; exact ⟨gJ, gK⟩
    · have q := lft_e e
      rw [q.1, q.2]; exact ⟨gJ, gK⟩
    · rcases e with ⟨p2_q, cs, ok, _, _, e⟩ | ⟨k, pl, _, e⟩
      · have h3_q := Sum.inl.inj e
        have e1_q : J' = cs := congrArg (fun q : zSt => q.2.2.1) h3_q
        have e2_q : K' = K := congrArg (fun q : zSt => q.2.2.2) h3_q
        rw [e1_q, e2_q]; exact ⟨Or.inr ok.2.1, gK⟩
      · cases e
    · rcases e with ⟨p2_q, cs, ok, _, _, e⟩ | ⟨k, pl, _, e⟩
      · have h3_q := Sum.inl.inj e
        have e1_q : J' = J := congrArg (fun q : zSt => q.2.2.1) h3_q
        have e2_q : K' = cs := congrArg (fun q : zSt => q.2.2.2) h3_q
        rw [e1_q, e2_q]; exact ⟨gJ, Or.inr (wl_le ok.2.1 (by decide))⟩
      · cases e
theorem war_gd {T : Int → Int} {n : Int} : ∀ (g : Nat) (p : Int) (A : zv_H) (J K : List (Int × Int)) (A' : zv_H) (J' K' : List (Int × Int)), warR T n g p A J K (Sum.inl (A', J', K')) → gdW true J → gdW false K → gdW true J' ∧ gdW false K'
  | 0, _, _, _, _, _, _, _, h, _, _ => h.elim
  | g + 1, p, A, J, K, A', J', K', h, gJ, gK => by
    rcases h with ⟨_, e⟩ | ⟨_, ⟨_, e⟩ | ⟨_, ⟨k, pl, _, e⟩ | ⟨p1_q, A1, J1, K1, s, q⟩⟩⟩
    · have h3_q := Sum.inl.inj e
      have e1_q : J' = J := congrArg (fun q : zv_H × List (Int × Int) × List (Int × Int) => q.2.1) h3_q
      have e2_q : K' = K := congrArg (fun q : zv_H × List (Int × Int) × List (Int × Int) => q.2.2) h3_q
      rw [e1_q, e2_q]; exact ⟨gJ, gK⟩
    · cases e
    · cases e
    · have r := st_gd s gJ gK
      rcases q with ⟨_, e⟩ | ⟨_, q⟩
      · cases e
      · exact war_gd g _ _ _ _ _ _ _ q r.1 r.2
/-! formulas: what comes of them -/
theorem crun_take {E s : Int → Int} {L : List Int} (hs : ∀ (j : Nat) (h : j < L.length), s (j : Int) = L[j]) : ∀ j : Nat, j ≤ L.length → crun E s j = rnL E (L.take j) []
  | 0, _ => rfl
  | j + 1, h => by
    rw [crun_s, crun_take hs j (by omega), hs j (by omega), List.take_succ_eq_append_getElem (by omega), rnL_a]
    rfl
theorem okL_at {E : Int → Int} : ∀ (L st : List Int), okL E L st → (∀ (j : Nat) (h : j < L.length), okS L[j] (rnL E (L.take j) st)) ∧ ∀ j : Nat, j ≤ L.length → (rnL E (L.take j) st).length ≤ 64 ∧ gst (rnL E (L.take j) st)
  | [], st, h => ⟨fun j h => absurd h (Nat.not_lt_zero _), fun j hj => by rw [List.take_nil]; exact h⟩
  | s :: L, st, ⟨h1_q, h2_q, h3_q⟩ => by
    have ih := okL_at L (evs E s st) h3_q
    refine ⟨fun j hj => ?_, fun j hj => ?_⟩
    · rcases j with _ | j
      · exact h1_q
      · exact ih.1 j (by rw [List.length_cons] at hj; omega)
    · rcases j with _ | j
      · exact h2_q
      · exact ih.2 j (by rw [List.length_cons] at hj; omega)
theorem gd_all {cs : List (Int × Int)} {t : Bool} {s : Int → Int} (h : wl (cs.map enS) t 41) (hs : ∀ i : Nat, i < cs.length → s i = enS (cs.getD i (0, 0))) (E : Int → Int) (hE : EB E) : (∀ j : Nat, j < cs.length → okS (s j) (crun E s j)) ∧ (∀ j : Nat, j ≤ cs.length → (crun E s j).length ≤ 64 ∧ gst (crun E s j)) ∧ (crun E s cs.length).length = 1 := by
  have hl : (cs.map enS).length = cs.length := List.length_map ..
  have hs2_q : ∀ (j : Nat) (h : j < (cs.map enS).length), s (j : Int) = (cs.map enS)[j] := fun j hj => by
    have hj2_q : j < cs.length := by omega
    rw [List.getElem_map, hs j hj2_q, List.getD_eq_getElem?_getD, List.getElem?_eq_getElem hj2_q]
    rfl
  obtain ⟨v, _, _, q, ok⟩ := h E hE [] (fun u hu => by cases hu) (by rw [List.length_nil]; omega)
  have o2_q := okL_at _ _ ok
  have c := fun j hj => crun_take (E := E) hs2_q j hj
  refine ⟨fun j hj => ?_, fun j hj => ?_, ?_⟩
  · rw [c j (by omega), hs2_q j (by omega)]
    exact o2_q.1 j (by omega)
  · rw [c j (by omega)]
    exact o2_q.2 j (by omega)
  · rw [c cs.length (by omega), ← hl, List.take_length, q]
    rfl
theorem gd_FI {cs : List (Int × Int)} {t : Bool} {s : Int → Int} (h : gdW t cs) (hl : (cs.length : Int) ≤ 1600) (hs : ∀ i : Nat, i < cs.length → s i = enS (cs.getD i (0, 0))) : FI s (cs.length : Int) := by
  refine ⟨by omega, hl, fun hp E hE => ?_⟩
  rcases h with e | h
  · rw [e, List.length_nil] at hp
    omega
  · obtain ⟨a, b, c⟩ := gd_all h hs E hE
    rw [show ((cs.length : Nat) : Int).toNat = cs.length from rfl]
    exact ⟨⟨fun j hj => ⟨(a j hj).1, (a j hj).2.1, (a j hj).2.2.1⟩, b, by rw [c]; exact Nat.le_refl 1⟩, c⟩
theorem ouM_app {σ : zv_H} {i : Int} : ∀ (a : List (Int × Int)) {b : List (Int × Int)}, ouM σ i (a ++ b) → ouM σ i b
  | [], _, h => h
  | _ :: a, _, h => ouM_app a h.2
theorem ouM_rev {σ : zv_H} {b : Int} : ∀ (cs pre : List (Int × Int)), ouM σ b (cs.reverse ++ pre) → ∀ k : Nat, k < cs.length → σ 304 (1600 * b + (pre.length : Int) + (k : Int)) = (cs.getD k (0, 0)).1 ∧ σ 305 (1600 * b + (pre.length : Int) + (k : Int)) = (cs.getD k (0, 0)).2
  | [], _, _, k, h => absurd h (Nat.not_lt_zero _)
  | x :: t, pre, h, k, hk => by
    have h2_q : ouM σ b (t.reverse ++ (x :: pre)) := by
      rw [List.reverse_cons, List.append_assoc] at h
      exact h
    rcases k with _ | k
    · have h3_q := ouM_app t.reverse h2_q
      rw [show 1600 * b + (pre.length : Int) + ((0 : Nat) : Int) = 1600 * b + (pre.length : Int) by omega]
      exact h3_q.1
    · have r := ouM_rev t (x :: pre) h2_q k (by rw [List.length_cons] at hk; omega)
      rw [List.length_cons] at r
      rw [show 1600 * b + (pre.length : Int) + ((k + 1 : Nat) : Int) = 1600 * b + ((pre.length + 1 : Nat) : Int) + (k : Int) by omega]
      exact r
theorem fmM_of {σ : zv_H} {b g : Int} {cs out : List (Int × Int)} {t : Bool} {s : Int → Int} (hf : fmT σ b g cs out) (ou : ouM σ b out) (ck : ckO out) (hl : (out.length : Int) ≤ 1600) (gd : gdW t cs) (hs : ∀ i : Nat, i < cs.length → s i = enS (cs.getD i (0, 0))) : fmM σ b g s (cs.length : Int) := by
  rcases hf with ⟨e, q⟩ | ⟨e, pre, post, q1_q, q2_q, q3_q⟩
  · exact Or.inl ⟨by rw [e, List.length_nil]; omega, q⟩
  · have hw : wl (cs.map enS) t 41 := by
      rcases gd with r | r
      · exact absurd r e
      · exact r
    have hpos : 0 < cs.length := List.length_pos_iff.mpr e
    have hlen : out.length = post.length + (cs.length + pre.length) := by rw [q1_q, List.length_append, List.length_append, List.length_reverse]
    have ou2_q : ouM σ b (cs.reverse ++ pre) := ouM_app post (by rw [← q1_q]; exact ou)
    have cell := ouM_rev cs pre ou2_q
    refine Or.inr ⟨by omega, (pre.length : Int), ⟨by omega, by omega⟩, q2_q, q3_q, fun i h1_q h2_q => ?_, fun E hE => ?_⟩
    · have c := cell i.toNat (by omega)
      rw [show ((i.toNat : Nat) : Int) = i by omega] at c
      rw [c.1, c.2]
      have hi : i.toNat < cs.length := by omega
      have s2_q := hs i.toNat hi
      rw [show ((i.toNat : Nat) : Int) = i by omega] at s2_q
      refine ⟨?_, s2_q.symm⟩
      refine ck _ ?_
      have m : cs.getD i.toNat (0, 0) ∈ cs := by
        rw [List.getD_eq_getElem?_getD, List.getElem?_eq_getElem hi]
        exact List.getElem_mem hi
      rw [q1_q]
      exact List.mem_append_right _ (List.mem_append_left _ (List.mem_reverse.mpr m))
    · obtain ⟨a, b2_q, c⟩ := gd_all hw hs E hE
      exact ⟨fun j hj => a j (by omega), c⟩
/-! NAMES -/
theorem wv27_b {U : Int → Int} : ∀ j : Nat, letU U j → 0 ≤ wv27 U 0 j ∧ wv27 U 0 j + 1 ≤ 27 ^ j
  | 0, _ => ⟨Int.le_refl _, by show (0 : Int) + 1 ≤ 27 ^ 0; decide⟩
  | j + 1, h => by
    have ih := wv27_b j (letU_s h)
    have q := h j (by omega)
    have e : wv27 U 0 (j + 1) = 27 * wv27 U 0 j + (U (0 + j) - 97 + 1) := rfl
    rw [e, Int.zero_add, Int.pow_succ]
    omega
theorem fil27_b {v : Int} {j : Nat} (h : 0 ≤ v ∧ v + 1 ≤ 27 ^ j) : ∀ d : Nat, 0 ≤ fil27 v d ∧ fil27 v d + 1 ≤ 27 ^ (j + d)
  | 0 => h
  | d + 1 => by
    have ih := fil27_b h d
    have e : fil27 v (d + 1) = fil27 v d * 27 := rfl
    rw [e, show j + (d + 1) = (j + d) + 1 by omega, Int.pow_succ]
    omega
theorem nmR_b {v u : Int} (h : nmR v u) : 0 ≤ v ∧ v ≤ 387420488 := by
  obtain ⟨U, j, hj, hU, e, _⟩ := h
  have b := fil27_b (wv27_b j (fun i hi => by have q := hU i hi; rwa [Int.zero_add] at q)) (6 - j)
  rw [show j + (6 - j) = 6 by omega, ← e, show (27 : Int) ^ 6 = 387420489 from rfl] at b
  omega
/-! what the class holds of the WAR -/
def wmF (T : Int → Int) (Wm A : zv_H) (J K : List (Int × Int)) : Prop := (∀ k, 0 ≤ k → k ≤ 4 → Wm 0 k = A 0 k) ∧ (∀ c, 0 ≤ c → c < A 0 1 → Wm 1 c = tNm T (A 1 c) ∧ Wm 2 c = A 2 c ∧ Wm 3 c = A 3 c ∧ Wm 4 c = A 4 c) ∧ (∀ m, 0 ≤ m → m < A 0 3 → Wm 5 m = tNm T (A 5 m) ∧ Wm 6 m = A 6 m ∧ Wm 7 m = A 7 m) ∧ (Wm 8 1 = (J.length : Int) ∧ ∀ i : Nat, i < J.length → Wm 9 i = enS (J.getD i (0, 0))) ∧ (Wm 10 1 = (K.length : Int) ∧ ∀ i : Nat, i < K.length → Wm 11 i = enS (K.getD i (0, 0))) ∧ ∃ r : Int → Int, (∀ k, 0 ≤ k → k < 49 → r k = if A 12 k = 0 then 1000000 else A 12 k) ∧ Wm 12 = fwB (fwD r (A 0 1).toNat) (A 0 1).toNat (A 0 1).toNat
theorem wmF_of {σ0 σ5 : zv_H} {T : Int → Int} {n u p : Int} {A : zv_H} {J K : List (Int × Int)} (h : stJ σ0 σ5 T n u A J K p) : wmF T (vw 12 (zrow σ5 (u + 12) (fwB (fwD (σ5 (u + 12)) (A 0 1).toNat) (A 0 1).toNat (A 0 1).toNat)) u) A J K := by
  obtain ⟨_, _, ⟨w1_q, w2_q, w3_q, w4_q⟩, ⟨f1_q, f2_q⟩, ⟨k1_q, k2_q⟩, _⟩ := h
  have e0_q : ∀ k, vw 12 (zrow σ5 (u + 12) (fwB (fwD (σ5 (u + 12)) (A 0 1).toNat) (A 0 1).toNat (A 0 1).toNat)) u 0 k = σ5 u k := fun k => by rw [vw_0, zrow_n (by omega)]
  have ef : ∀ f k, 1 ≤ f → f ≤ 11 → vw 12 (zrow σ5 (u + 12) (fwB (fwD (σ5 (u + 12)) (A 0 1).toNat) (A 0 1).toNat (A 0 1).toNat)) u f k = σ5 (u + f) k := fun f k a b => by rw [vw_f (by omega), zrow_n (by omega)]
  refine ⟨fun k a b => by rw [e0_q]; exact w1_q k a b, fun c a b => ?_, fun m a b => ?_, ⟨by rw [ef 8 1 (by omega) (by omega)]; exact f1_q, fun i hi => ?_⟩, ⟨by rw [ef 10 1 (by omega) (by omega)]; exact k1_q, fun i hi => ?_⟩, σ5 (u + 12), w4_q, funext (fun k => ?_)⟩
  · rw [ef 1 c (by omega) (by omega), ef 2 c (by omega) (by omega), ef 3 c (by omega) (by omega), ef 4 c (by omega) (by omega)]; exact w2_q c a b
  · rw [ef 5 m (by omega) (by omega), ef 6 m (by omega) (by omega), ef 7 m (by omega) (by omega)]; exact w3_q m a b
  · have q := f2_q i hi
    rw [show u + 8 + 1 = u + 9 by omega] at q
    rw [ef 9 i (by omega) (by omega)]; exact q
  · have q := k2_q i hi
    rw [show u + 10 + 1 = u + 11 by omega] at q
    rw [ef 11 i (by omega) (by omega)]; exact q
  · rw [vw_f (by omega), zrow_s]
theorem wmF_WI {T : Int → Int} {Wm A : zv_H} {J K : List (Int × Int)} (h : wmF T Wm A J K) (hA : AI T A) (gJ : gdW true J) (gK : gdW false K) (lJ : (J.length : Int) ≤ 1600) (lK : (K.length : Int) ≤ 1600) : WI Wm ∧ WT Wm := by
  obtain ⟨w0_q, wc, wm, ⟨wj, wj2_q⟩, ⟨wk, wk2_q⟩, r, hr, w12_q⟩ := h
  obtain ⟨a0_q, a1_q, a2_q, a3_q, a4_q, a5_q, a6_q, a7_q⟩ := hA
  have e1_q := w0_q 1 (by omega) (by omega)
  have hn : (A 0 1).toNat ≤ 7 := by omega
  have ways := ways_W (A := A 12) (w := r) hn a7_q hr
  have fin : ∀ f t, 0 ≤ f → f < Wm 0 1 → 0 ≤ t → t < Wm 0 1 → 0 ≤ Wm 12 (f * 7 + t) ∧ (Wm 12 (f * 7 + t) ≤ 54 ∨ Wm 12 (f * 7 + t) = 1000000) ∧ (Wm 12 (f * 7 + t) = 0 ↔ f = t) := fun f t h1_q h2_q h3_q h4_q => by
    rw [w12_q]
    exact ways.1 f t h1_q (by omega) h3_q (by omega)
  refine ⟨⟨by rw [e1_q]; exact a1_q, by rw [w0_q 2 (by omega) (by omega)]; exact a2_q, by rw [w0_q 3 (by omega) (by omega)]; exact a3_q, by rw [w0_q 4 (by omega) (by omega)]; exact a4_q, by rw [w0_q 0 (by omega) (by omega)]; exact a0_q, fun c h1_q h2_q => ?_, fun m h1_q h2_q => ?_, ?_, ?_, fin⟩, fun f g t h1_q h2_q h3_q => ?_⟩
  · rw [e1_q] at h2_q
    have q := a5_q c h1_q h2_q
    have v := wc c h1_q h2_q
    rw [v.1, v.2.1, v.2.2.1, v.2.2.2]
    exact ⟨nmR_b (tok_nm q.1), q.2⟩
  · rw [w0_q 3 (by omega) (by omega)] at h2_q
    have q := a6_q m h1_q h2_q
    have v := wm m h1_q h2_q
    rw [v.1, v.2.1, v.2.2, e1_q]
    exact ⟨nmR_b (tok_nm q.1), q.2⟩
  · rw [wj]; exact gd_FI gJ lJ wj2_q
  · rw [wk]; exact gd_FI gK lK wk2_q
  · unfold dstF at h1_q h2_q
    by_cases c1_q : (0 ≤ f ∧ f < Wm 0 1) ∧ (0 ≤ g ∧ g < Wm 0 1) ∧ Wm 12 (f * 7 + g) < 1000000
    · by_cases c2_q : (0 ≤ g ∧ g < Wm 0 1) ∧ (0 ≤ t ∧ t < Wm 0 1) ∧ Wm 12 (g * 7 + t) < 1000000
      · have b1_q := fin f g c1_q.1.1 c1_q.1.2 c1_q.2.1.1 c1_q.2.1.2
        have b2_q := fin g t c2_q.1.1 c2_q.1.2 c2_q.2.1.1 c2_q.2.1.2
        have b3_q := fin f t c1_q.1.1 c1_q.1.2 c2_q.2.1.1 c2_q.2.1.2
        have tr := ways.2 f g t c1_q.1.1 (by omega) c1_q.2.1.1 (by omega) c2_q.2.1.1 (by omega)
        rw [← w12_q] at tr
        unfold dstF at h3_q
        rw [if_pos (by omega)] at h3_q
        omega
      · rw [if_neg c2_q] at h2_q
        exact absurd rfl h2_q
    · rw [if_neg c1_q] at h1_q
      exact absurd rfl h1_q
/-! behind war(): the model -/
theorem mwE_o {σ : zv_H} {i x k : Int} (h1_q : ¬ (x = 289 ∧ (k = 10 ∨ k = 11 ∨ k = 13 ∨ k = 58 ∨ k = 67))) (h2_q : ¬ (315 ≤ x ∧ x ≤ 325)) (h3_q : ¬ (x = 297 ∧ 49 * i ≤ k ∧ k < 49 * i + 49)) : mwE σ i x k = σ x k := by
  unfold mwE
  rw [zup_n (by omega), zup_n (by omega), zup_n (by omega), bg3_n (by omega), bg2_n (by omega), bg1_n (by omega)]
  unfold mwX
  rw [zup_n (by omega), mrw_n h3_q]
  unfold mwY
  rw [zup_n (by omega), zup_n (by omega)]
theorem mwX_o {σ : zv_H} {i x k : Int} (h1_q : ¬ (x = 289 ∧ (k = 10 ∨ k = 11 ∨ k = 13))) (h3_q : ¬ (x = 297 ∧ 49 * i ≤ k ∧ k < 49 * i + 49)) : mwX σ i x k = σ x k := by
  unfold mwX
  rw [zup_n (by omega), mrw_n h3_q]
  unfold mwY
  rw [zup_n (by omega), zup_n (by omega)]
theorem mwE_297 {σ : zv_H} {i f t : Int} (hf : 0 ≤ f ∧ f < 7) (ht : 0 ≤ t ∧ t < 7) : mwE σ i 297 (49 * i + 7 * f + t) = fwB (msI (r296 (mwY σ) i)) 7 7 (f * 7 + t) := by
  unfold mwE
  rw [zup_n (by omega), zup_n (by omega), zup_n (by omega), bg3_n (by omega), bg2_n (by omega), bg1_n (by omega)]
  unfold mwX
  rw [zup_n (by omega), mrw_s hf ht]
theorem mwE_k {σ : zv_H} {i : Int} : mwE σ i 289 10 = 0 ∧ mwE σ i 289 11 = -1 ∧ mwE σ i 289 13 = i ∧ mwE σ i 289 58 = 0 ∧ mwE σ i 289 67 = 0 := by
  have e : ∀ k, k ≠ 58 → k ≠ 67 → mwE σ i 289 k = mwX σ i 289 k := fun k h1_q h2_q => by
    unfold mwE
    rw [zup_n (by omega), zup_n (by omega), zup_n (by omega), bg3_n (by omega), bg2_n (by omega), bg1_n (by omega)]
  refine ⟨?_, ?_, ?_, ?_, ?_⟩
  · rw [e 10 (by omega) (by omega)]
    unfold mwX
    rw [zup_n (by omega), mrw_n (by omega)]
    unfold mwY
    rw [zup_n (by omega), zup_s]
  · rw [e 11 (by omega) (by omega)]
    unfold mwX
    rw [zup_n (by omega), mrw_n (by omega)]
    unfold mwY
    rw [zup_s]
  · rw [e 13 (by omega) (by omega)]
    unfold mwX
    rw [zup_s]
  · unfold mwE
    rw [zup_n (by omega), zup_s]
  · unfold mwE
    rw [zup_s]
theorem mwE_315 {σ : zv_H} {i : Int} : mwE σ i 315 0 = 0 ∧ mwE σ i 325 0 = 0 := by
  constructor
  · unfold mwE
    rw [zup_n (by omega), zup_n (by omega), zup_n (by omega), bg3_n (by omega), bg2_n (by omega)]
    unfold bg1
    rw [if_neg (by omega), if_pos ⟨rfl, rfl⟩]
  · unfold mwE
    rw [zup_n (by omega), zup_n (by omega), zup_s]
theorem mwE_316 {σ : zv_H} {i c : Int} (hc : 0 ≤ c ∧ c < 7) : mwE σ i 316 c = σ 292 (7 * i + c) ∧ mwE σ i 317 c = σ 293 (7 * i + c) ∧ mwE σ i 318 c = σ 294 (7 * i + c) := by
  have e : ∀ x, 316 ≤ x → x ≤ 318 → mwE σ i x c = σ (x - 24) (7 * i + c) := fun x h1_q h2_q => by
    unfold mwE
    rw [zup_n (by omega), zup_n (by omega), zup_n (by omega), bg3_n (by omega), bg2_n (by omega)]
    unfold bg1
    rw [if_pos (by omega), mwX_o (by omega) (by omega)]
  exact ⟨e 316 (by omega) (by omega), e 317 (by omega) (by omega), e 318 (by omega) (by omega)⟩
theorem mwE_319 {σ : zv_H} {i m : Int} (hm : 0 ≤ m ∧ m < 6) : mwE σ i 319 m = σ 299 (6 * i + m) ∧ mwE σ i 320 m = 0 ∧ mwE σ i 321 m = 0 ∧ mwE σ i 322 m = 0 ∧ mwE σ i 323 m = 0 := by
  have e : ∀ x, 319 ≤ x → x ≤ 323 → mwE σ i x m = if x = 319 then σ 299 (6 * i + m) else 0 := fun x h1_q h2_q => by
    unfold mwE
    rw [zup_n (by omega), zup_n (by omega), zup_n (by omega), bg3_n (by omega)]
    unfold bg2
    rw [if_pos (by omega), bg1_n (by omega), mwX_o (by omega) (by omega)]
  refine ⟨?_, ?_, ?_, ?_, ?_⟩
  · rw [e 319 (by omega) (by omega), if_pos rfl]
  · rw [e 320 (by omega) (by omega), if_neg (by omega)]
  · rw [e 321 (by omega) (by omega), if_neg (by omega)]
  · rw [e 322 (by omega) (by omega), if_neg (by omega)]
  · rw [e 323 (by omega) (by omega), if_neg (by omega)]
theorem mwE_324 {σ : zv_H} {i k : Int} (hk : 0 ≤ k ∧ k < 42) : mwE σ i 324 k = -1 := by
  unfold mwE
  rw [zup_n (by omega), zup_n (by omega), zup_n (by omega)]
  exact if_pos (by omega)
theorem war_M {s : zSpan} {σ Wm S : zv_H} {T : Int → Int} {n i p : Int} {A : zv_H} {J K out : List (Int × Int)} (hi : i = 0 ∨ i = 1) (st : stS s σ T n i A J K out p) (h : wmF T Wm A J K) (gJ : gdW true J) (gK : gdW false K) : stM (mwE σ i) (mwE σ i) i 0 Wm (sttF Wm S) := by
  obtain ⟨w0_q, wc, wm, ⟨wj, wj2_q⟩, ⟨wk, wk2_q⟩, r, hr, w12_q⟩ := h
  have x296_q := fun k h1_q h2_q => st_296 st (k := k) h1_q h2_q
  obtain ⟨rd, hA, ou, hcn, hop, fJ, fK, ck, rl⟩ := st
  obtain ⟨fr, hT, hin, ⟨⟨n1_q, n2_q, n3_q, n4_q⟩, nc, nm, nr⟩, hz, hpp, hm⟩ := rd
  obtain ⟨a0_q, a1_q, a2_q, a3_q, a4_q, a5_q, a6_q, a7_q⟩ := hA
  have e1_q := w0_q 1 (by omega) (by omega)
  have e3_q := w0_q 3 (by omega) (by omega)
  have hlen : (out.length : Int) ≤ 1600 := by have := hT.2.1.1; omega
  have eo : ∀ x k, 291 ≤ x → x ≤ 307 → x ≠ 297 → mwE σ i x k = σ x k := fun x k h1_q h2_q h3_q => mwE_o (by omega) (by omega) (by omega)
  have er : ∀ x, 291 ≤ x → x ≤ 307 → x ≠ 297 → mwE σ i x = σ x := fun x h1_q h2_q h3_q => funext (fun k => eo x k h1_q h2_q h3_q)
  have fm : ∀ (g : Int) (sx : Int → Int) (len : Int), fmM σ i g sx len → fmM (mwE σ i) i g sx len := fun g sx len q => by
    unfold fmM at q ⊢
    rw [er 302 (by omega) (by omega) (by omega), er 303 (by omega) (by omega) (by omega), er 304 (by omega) (by omega) (by omega), er 305 (by omega) (by omega) (by omega)]
    exact q
  have st0_q : ∀ f k, (f = 0 ∨ (5 ≤ f ∧ f ≤ 8)) → sttF Wm S f k = 0 := fun f k q => by
    unfold sttF
    rw [if_neg (by omega), if_neg (by omega), if_neg (by omega), if_neg (by omega)]
  refine ⟨⟨⟨by rw [mwE_315.1, st0_q 0 0 (by omega)], by rw [mwE_315.2, st0_q 0 12 (by omega)]⟩, fun c h1_q h2_q => ?_, fun m h1_q h2_q => ?_, fun m c h1_q h2_q h3_q h4_q => ?_, fun k h1_q h2_q => ?_⟩, ⟨?_, fun c h1_q h2_q => ?_, fun m h1_q h2_q => ?_, fun f t h1_q h2_q h3_q h4_q => ?_, ?_, ?_⟩, mwE_k.2.2.1, fun _ _ _ _ _ => rfl⟩
  · rw [e1_q] at h2_q
    have v := wc c h1_q h2_q
    have q := nc c h1_q h2_q
    have d := mwE_316 (σ := σ) (i := i) (c := c) (by omega)
    have e : ∀ f, 1 ≤ f → f ≤ 3 → sttF Wm S f c = Wm (f + 1) c := fun f q1_q q2_q => if_pos (by omega)
    rw [show 7 * (0 : Int) + c = c by omega, d.1, d.2.1, d.2.2, e 1 (by omega) (by omega), e 2 (by omega) (by omega), e 3 (by omega) (by omega)]
    exact ⟨q.1.trans v.2.1.symm, q.2.1.trans v.2.2.1.symm, q.2.2.1.trans v.2.2.2.symm⟩
  · rw [e3_q] at h2_q
    have v := wm m h1_q h2_q
    have q := nm m h1_q h2_q
    have d := mwE_319 (σ := σ) (i := i) (m := m) (by omega)
    have e : sttF Wm S 4 m = Wm 6 m := by unfold sttF; rw [if_neg (by omega), if_pos (by omega)]
    rw [show 6 * (0 : Int) + m = m by omega, d.1, d.2.1, d.2.2.1, d.2.2.2.1, d.2.2.2.2, e, st0_q 5 m (by omega), st0_q 6 m (by omega), st0_q 7 m (by omega), st0_q 8 m (by omega)]
    exact ⟨q.1.trans v.2.1.symm, rfl, rfl, rfl, rfl⟩
  · rw [e3_q] at h2_q
    rw [e1_q] at h4_q
    have e : sttF Wm S 9 (m * 7 + c) = 1000000 := by unfold sttF; rw [if_neg (by omega), if_neg (by omega), if_pos (by omega)]
    rw [e, mwE_324 (by omega)]
    rfl
  · rw [st0_q 0 12 (by omega)] at h2_q
    exfalso; omega
  · rw [eo 291 _ (by omega) (by omega) (by omega), eo 295 _ (by omega) (by omega) (by omega), eo 298 _ (by omega) (by omega) (by omega), eo 301 _ (by omega) (by omega) (by omega), e1_q, e3_q, w0_q 2 (by omega) (by omega), w0_q 4 (by omega) (by omega)]
    exact ⟨n1_q, n2_q, n3_q, n4_q⟩
  · rw [e1_q] at h2_q
    have v := wc c h1_q h2_q
    have q := nc c h1_q h2_q
    rw [eo 292 _ (by omega) (by omega) (by omega), eo 293 _ (by omega) (by omega) (by omega), eo 294 _ (by omega) (by omega) (by omega), eo 306 _ (by omega) (by omega) (by omega), v.1, v.2.1, v.2.2.1, v.2.2.2, q.2.2.2]
    exact ⟨q.1, q.2.1, q.2.2.1, tok_nm (a5_q c h1_q h2_q).1⟩
  · rw [e3_q] at h2_q
    have v := wm m h1_q h2_q
    have q := nm m h1_q h2_q
    rw [eo 299 _ (by omega) (by omega) (by omega), eo 300 _ (by omega) (by omega) (by omega), eo 307 _ (by omega) (by omega) (by omega), v.1, v.2.1, v.2.2, q.2.2]
    exact ⟨q.1, q.2.1, tok_nm (a6_q m h1_q h2_q).1⟩
  · rw [mwE_297 (by omega) (by omega), w12_q]
    exact ways_M (A := A 12) (w := r) (n := (A 0 1).toNat) (by omega) a7_q (fun k k1_q k2_q => (x296_q k k1_q k2_q).1) hr (fun f t q1_q q2_q q3_q q4_q q5_q => rl f t q1_q q2_q q3_q q4_q (by omega)) h1_q (by omega) h3_q (by omega)
  · rw [wj]
    exact fm 0 _ _ (fmM_of fJ ou ck hlen gJ wj2_q)
  · rw [wk]
    exact fm 1 _ _ (fmM_of fK ou ck hlen gK wk2_q)
theorem fmT_l {σ : zv_H} {i g : Int} {cs out : List (Int × Int)} (h : fmT σ i g cs out) : cs.length ≤ out.length := by
  rcases h with ⟨e, _⟩ | ⟨_, pre, post, q, _, _⟩
  · rw [e, List.length_nil]; exact Nat.zero_le _
  · rw [q, List.length_append, List.length_append, List.length_reverse]; omega
