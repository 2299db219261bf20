/-! PIECES PUT TOGETHER: SUMS -/
section SU
variable {T : Int → Int} {lk : Bool} {o p p1 p2 p3 p4 k pl c : Int} {cs cs1 cs2 cs3 : List (Int × Int)}
theorem acc_prt (h : PrtOk T lk o p p1 cs) : AccOk 6 T lk o p p1 cs := fun kd ph bg pr ops R out hc _ _ => ⟨[], cs.reverse ++ out, rgt_nil 6, rfl, h kd ph bg pr ops R out hc⟩
theorem acb_prt (h : PrtBd T lk o p k pl) : AccBd 6 T lk o p k pl := fun kd ph bg pr ops R out hc _ _ => h kd ph bg pr ops R out hc
theorem acc_56 (h : AccOk 6 T lk o p p1 cs) : AccOk 5 T lk o p p1 cs := fun kd ph bg pr ops R out hc ho hp => by
  obtain ⟨x, out', h1, h2, h3⟩ := h kd ph bg pr ops R out hc (hdl_le ho (by omega)) hp
  exact ⟨x, out', rgt_le h1 (by omega), h2, h3⟩
theorem acb_56 (h : AccBd 6 T lk o p k pl) : AccBd 5 T lk o p k pl := fun kd ph bg pr ops R out hc ho hp => h kd ph bg pr ops R out hc (hdl_le ho (by omega)) hp
theorem arO_5 (h : c = 43 ∨ c = 45) : rnk (arO c) = 5 := by rw [arO_r, if_pos h]
theorem arO_6 (h : c = 42 ∨ c = 47 ∨ c = 37) : rnk (arO c) = 6 := by rw [arO_r, if_neg (by omega)]
theorem rev3 (cs1 cs2 : List (Int × Int)) (q : Int × Int) (out : List (Int × Int)) : (cs1 ++ (cs2 ++ [q])).reverse ++ out = q :: (cs2.reverse ++ (cs1.reverse ++ out)) := by simp
theorem acc_mul (h : AccOk 6 T lk o p p1 cs1) (hs : isSg T p1 c) (hc : c = 42 ∨ c = 47 ∨ c = 37) (h2 : PrtOk T lk o (tN T p1) p2 cs2) : AccOk 6 T lk o p p2 (cs1 ++ (cs2 ++ [(arO c, 0)])) := fun kd ph bg pr ops R out hct ho hp => by
  obtain ⟨x, out', a1, a2, a3⟩ := h kd ph bg pr ops R out hct ho hp
  refine ⟨[arO c], cs2.reverse ++ fls x out', rgt_c (by rw [arO_6 hc]; omega) (rgt_nil 6), ?_, ?_⟩
  · rw [a2, rev3]; rfl
  · refine rc_tr a3 (rc_1 (g_ar hs (by omega) hp (by rw [if_neg (by omega)]; exact a1) (by rw [if_neg (by omega)]; exact ho)) ?_)
    exact h2 kd ph false pr (arO c :: ops) R (fls x out') (ct_f _ _ _)
theorem acb_mul (h : AccOk 6 T lk o p p1 cs1) (hs : isSg T p1 c) (hc : c = 42 ∨ c = 47 ∨ c = 37) (h2 : PrtBd T lk o (tN T p1) k pl) : AccBd 6 T lk o p k pl := fun kd ph bg pr ops R out hct ho hp => by
  obtain ⟨x, out', a1, a2, a3⟩ := h kd ph bg pr ops R out hct ho hp
  refine rb_tr a3 (rb_1 (g_ar hs (by omega) hp (by rw [if_neg (by omega)]; exact a1) (by rw [if_neg (by omega)]; exact ho)) ?_)
  exact h2 kd ph false pr (arO c :: ops) R (fls x out') (ct_f _ _ _)
theorem acc_add (h : AccOk 5 T lk o p p1 cs1) (hs : isSg T p1 c) (hc : c = 43 ∨ c = 45) (h2 : AccOk 6 T lk o (tN T p1) p2 cs2) : AccOk 5 T lk o p p2 (cs1 ++ (cs2 ++ [(arO c, 0)])) := fun kd ph bg pr ops R out hct ho hp => by
  obtain ⟨x, out', a1, a2, a3⟩ := h kd ph bg pr ops R out hct ho hp
  obtain ⟨x2, out2, b1, b2, b3⟩ := h2 kd ph false pr (arO c :: ops) R (fls x out') (ct_f _ _ _) (hdl_c (by rw [arO_5 hc]; omega)) hp
  refine ⟨x2 ++ [arO c], out2, rgt_a (rgt_le b1 (by omega)) (rgt_c (by rw [arO_5 hc]; omega) (rgt_nil 5)), ?_, ?_⟩
  · rw [fls_a, b2, a2, rev3]; rfl
  · rw [List.append_assoc]
    exact rc_tr a3 (rc_1 (g_ar hs (by omega) hp (by rw [if_pos hc]; exact a1) (by rw [if_pos hc]; exact ho)) b3)
theorem acb_add (h : AccOk 5 T lk o p p1 cs1) (hs : isSg T p1 c) (hc : c = 43 ∨ c = 45) (h2 : AccBd 6 T lk o (tN T p1) k pl) : AccBd 5 T lk o p k pl := fun kd ph bg pr ops R out hct ho hp => by
  obtain ⟨x, out', a1, a2, a3⟩ := h kd ph bg pr ops R out hct ho hp
  exact rb_tr a3 (rb_1 (g_ar hs (by omega) hp (by rw [if_pos hc]; exact a1) (by rw [if_pos hc]; exact ho)) (h2 kd ph false pr (arO c :: ops) R (fls x out') (ct_f _ _ _) (hdl_c (by rw [arO_5 hc]; omega)) hp))
/-! comparisons -/
theorem cmp_ok (h : AccOk 5 T lk o p p1 cs1) (hs : isSg T p1 c) (hc : c = 60 ∨ c = 62 ∨ c = 61) (h2 : AccOk 5 T lk o (tN T p1) p2 cs2) : CmpOk T lk o p p2 (cs1 ++ (cs2 ++ [(cmO c, 0)])) := fun kd bg pr ops R out hT hct ho => by
  obtain ⟨x, out', a1, a2, a3⟩ := h kd 0 bg pr ops R out hct (hdl_le ho (by omega)) (by omega)
  obtain ⟨x2, out2, b1, b2, b3⟩ := h2 kd 1 false pr (cmO c :: ops) R (fls x out') (ct_f _ _ _) (hdl_c (by rw [cmO_r]; omega)) (by omega)
  refine ⟨x2 ++ [cmO c], out2, rgt_a (rgt_le b1 (by omega)) (rgt_c (by rw [cmO_r]; omega) (rgt_nil 4)), ?_, ?_⟩
  · rw [fls_a, b2, a2, rev3]; rfl
  · rw [List.append_assoc]
    exact rc_tr a3 (rc_1 (g_cm hs hc hT a1 (hdl_le ho (by omega))) b3)
theorem cmb_1 (h : AccBd 5 T lk o p k pl) : CmpBd T lk o p k pl := fun kd bg pr ops R out hT hct ho => h kd 0 bg pr ops R out hct (hdl_le ho (by omega)) (by omega)
theorem cmb_2 (h : AccOk 5 T lk o p p1 cs1) (hA : ¬ isA T p1) (hC : ¬ isC T p1) : CmpBd T lk o p 1 (tP T p1) := fun kd bg pr ops R out hT hct ho => by
  obtain ⟨x, out', a1, a2, a3⟩ := h kd 0 bg pr ops R out hct (hdl_le ho (by omega)) (by omega)
  exact rb_tr a3 (rb_0 (g_bad (Or.inr ⟨fun q => hA q.2, fun q => q.2.2 rfl, Or.inl ⟨hT, rfl, hC⟩⟩)))
theorem cmb_3 (h : AccOk 5 T lk o p p1 cs1) (hs : isSg T p1 c) (hc : c = 60 ∨ c = 62 ∨ c = 61) (h2 : AccBd 5 T lk o (tN T p1) k pl) : CmpBd T lk o p k pl := fun kd bg pr ops R out hT hct ho => by
  obtain ⟨x, out', a1, a2, a3⟩ := h kd 0 bg pr ops R out hct (hdl_le ho (by omega)) (by omega)
  exact rb_tr a3 (rb_1 (g_cm hs hc hT a1 (hdl_le ho (by omega))) (h2 kd 1 false pr (cmO c :: ops) R (fls x out') (ct_f _ _ _) (hdl_c (by rw [cmO_r]; omega)) (by omega)))
/-! facts -/
theorem fac_cmp (h : CmpOk T lk o p p1 cs) (h1 : ¬ isOw T p 20 ∧ ¬ isSg T p 91 ∧ ¬ isOw T p 21) (hA : ¬ isA T p1) : BtOk 4 3 T lk o p p1 cs := fun kd pr ops R out hT ho => by
  obtain ⟨x, out', a1, a2, a3⟩ := h kd true pr ops R out hT (fun _ => h1) ho
  exact ⟨1, x, out', Or.inr ⟨rfl, hA⟩, rgt_le a1 (by omega), a2, by rw [nNot_0 a1, Int.add_zero]; exact a3⟩
theorem fab_cmp (h : CmpBd T lk o p k pl) (h1 : ¬ isOw T p 20 ∧ ¬ isSg T p 91 ∧ ¬ isOw T p 21) : BtBd 4 T lk o p k pl := fun kd pr ops R out hT ho => h kd true pr ops R out hT (fun _ => h1) ho
theorem o_not {kd ph pr : Int} {ops : List Int} {R : List zFr} {out : List (Int × Int)} (hT : isT kd) (h : isOw T p 20) : stpF T lk (p, (kd, ph, true, pr, ops) :: R, out, o, false) = if o = 7 then zft 5 (tQ T p) else Sum.inl (tN T p, (kd, ph, true, pr, 43 :: ops) :: R, out, o + 1, false) := by
  have h1 := h.1
  rw [s_opr]
  unfold oprF
  rw [if_neg (by omega), if_pos ⟨⟨hT, rfl⟩, h⟩]
theorem fac_not (h : isOw T p 20) (ho : o ≠ 7) (h2 : BtOk 4 3 T lk (o + 1) (tN T p) p1 cs) : BtOk 4 3 T lk o p p1 (cs ++ [(43, 0)]) := fun kd pr ops R out hT hd => by
  obtain ⟨ph, x, out', a0, a1, a2, a3⟩ := h2 kd pr (43 :: ops) R out hT (hdl_c (by decide))
  refine ⟨ph, x ++ [43], out', a0, rgt_a a1 (rgt_c (by decide) (rgt_nil 3)), ?_, ?_⟩
  · rw [fls_a, a2, List.reverse_append]; rfl
  · rw [List.append_assoc, nNot_a, show o + (nNot x + nNot [43]) = o + 1 + nNot x by show o + (nNot x + (1 + 0)) = _; omega]
    exact rc_1 (by rw [o_not hT h, if_neg ho]) a3
theorem fab_not7 (h : isOw T p 20) (ho : o = 7) : BtBd 4 T lk o p 5 (tP T p) := fun kd pr ops R out hT hd => by
  have h1 := h.1
  exact rb_0 (by rw [o_not hT h, if_pos ho, tPQ (by omega)])
theorem fab_not (h : isOw T p 20) (ho : o ≠ 7) (h2 : BtBd 4 T lk (o + 1) (tN T p) k pl) : BtBd 4 T lk o p k pl := fun kd pr ops R out hT hd => rb_1 (by rw [o_not hT h, if_neg ho]) (h2 kd pr (43 :: ops) R out hT (hdl_c (by decide)))
theorem o_br {kd ph pr : Int} {ops : List Int} {R : List zFr} {out : List (Int × Int)} (hT : isT kd) (h : isSg T p 91) : stpF T lk (p, (kd, ph, true, pr, ops) :: R, out, o, false) = if o = 7 then zft 5 (tQ T p) else Sum.inl (tN T p, (5, 0, true, 0, []) :: (kd, ph, false, pr, ops) :: R, out, o + 1, false) := by
  have h1 := h.1
  rw [s_opr]
  unfold oprF opn
  rw [if_neg (by omega), if_neg (fun q => by have := q.2.1; omega), if_pos ⟨⟨hT, rfl⟩, h⟩]
theorem fac_br (h : isSg T p 91) (ho : o ≠ 7) (h2 : BtOk 1 1 T lk (o + 1) (tN T p) p1 cs) (h3 : isSg T p1 93) : BtOk 4 3 T lk o p (tN T p1) cs := fun kd pr ops R out hT hd => by
  obtain ⟨ph, x, out', a0, a1, a2, a3⟩ := h2 5 0 [] ((kd, 0, false, pr, ops) :: R) out (Or.inr (Or.inl rfl)) (hdl_nil 1)
  rw [List.append_nil] at a3
  refine ⟨2, [], cs.reverse ++ out, Or.inl rfl, rgt_nil 3, rfl, ?_⟩
  refine rc_1 (by rw [o_br hT h, if_neg ho]) (rc_tr a3 (rc_1 (g_cl h3 (Or.inr (Or.inr rfl)) (fun _ => by omega)) ?_))
  rw [if_neg (by omega), a2, show o + 1 - 1 = o + nNot [] by show o + 1 - 1 = o + 0; omega]
  exact rc_rf _ _ _
theorem fab_br7 (h : isSg T p 91) (ho : o = 7) : BtBd 4 T lk o p 5 (tP T p) := fun kd pr ops R out hT hd => by
  have h1 := h.1
  exact rb_0 (by rw [o_br hT h, if_pos ho, tPQ (by omega)])
theorem fab_br (h : isSg T p 91) (ho : o ≠ 7) (h2 : BtBd 1 T lk (o + 1) (tN T p) k pl) : BtBd 4 T lk o p k pl := fun kd pr ops R out hT hd => rb_1 (by rw [o_br hT h, if_neg ho]) (h2 5 0 [] ((kd, 0, false, pr, ops) :: R) out (Or.inr (Or.inl rfl)) (hdl_nil 1))
theorem fab_brc (h : isSg T p 91) (ho : o ≠ 7) (h2 : BtOk 1 1 T lk (o + 1) (tN T p) p1 cs) (ha : ¬ isOw T p1 19 ∧ ¬ isOw T p1 18) (h3 : ¬ isSg T p1 93) : BtBd 4 T lk o p 1 (tP T p1) := fun kd pr ops R out hT hd => by
  obtain ⟨ph, x, out', a0, a1, a2, a3⟩ := h2 5 0 [] ((kd, 0, false, pr, ops) :: R) out (Or.inr (Or.inl rfl)) (hdl_nil 1)
  refine rb_1 (by rw [o_br hT h, if_neg ho]) (rb_tr a3 (rb_0 (g_bad (Or.inr ⟨?_, ?_, Or.inr ⟨?_, ?_, ?_, ?_⟩⟩))))
  · intro q; rcases a0 with e | e; have := q.1; omega; exact e.2 q.2
  · intro q; rcases q.2.1 with e | e; exact ha.1 e; exact ha.2 e
  · intro q; have := q.2; omega
  · omega
  · intro q; omega
  · intro _; rw [if_pos rfl]; exact h3
theorem fac_all (h : isOw T p 21) : BtOk 4 3 T lk o p (tN T p) [(30, 0)] := fun kd pr ops R out hT hd => by
  have h1 := h.1
  have h2 := h.2
  refine ⟨2, [], (30, 0) :: out, Or.inl rfl, rgt_nil 3, rfl, rc_1 ?_ (rc_rf _ _ _)⟩
  rw [s_opr]
  unfold oprF
  rw [if_neg (by omega), if_neg (fun q => by have := q.2.2; omega), if_neg (fun q => by have := q.2.1; omega), if_pos ⟨⟨hT, rfl⟩, h⟩, show o + nNot [] = o from Int.add_zero o]
  rfl
/-! tests -/
theorem bt_le {a b r s : Int} (h : BtOk a r T lk o p p1 cs) (hb : b ≤ a) (hs : s ≤ r) : BtOk b s T lk o p p1 cs := fun kd pr ops R out hT ho => by
  obtain ⟨ph, x, out', a0, a1, a2, a3⟩ := h kd pr ops R out hT (hdl_le ho hb)
  exact ⟨ph, x, out', a0, rgt_le a1 hs, a2, a3⟩
theorem bb_le {a b : Int} (h : BtBd a T lk o p k pl) (hb : b ≤ a) : BtBd b T lk o p k pl := fun kd pr ops R out hT ho => h kd pr ops R out hT (hdl_le ho hb)
theorem bt_and {r a s : Int} (h : BtOk r r T lk o p p1 cs1) (hs : (isOw T p1 19 ∧ r = 2) ∨ (isOw T p1 18 ∧ r = 1)) (hr : r < a) (hs2 : r ≤ s) (h2 : BtOk a s T lk o (tN T p1) p2 cs2) : BtOk r r T lk o p p2 (cs1 ++ (cs2 ++ [(43 - r, 0)])) := fun kd pr ops R out hT ho => by
  have er : rnk (43 - r) = r := by rcases hs with e | e <;> rw [e.2] <;> rfl
  have e4 : 43 - r ≠ 43 := by omega
  obtain ⟨ph, x, out', a0, a1, a2, a3⟩ := h kd pr ops R out hT ho
  obtain ⟨ph2, x2, out2, b0, b1, b2, b3⟩ := h2 kd pr ((43 - r) :: ops) R (fls x out') hT (hdl_c (by rw [er]; exact hr))
  refine ⟨ph2, x2 ++ [43 - r], out2, b0, rgt_a (rgt_le b1 hs2) (rgt_c (by rw [er]; exact Int.le_refl r) (rgt_nil r)), ?_, ?_⟩
  · rw [fls_a, b2, a2, rev3]; rfl
  · rw [List.append_assoc, nNot_a, show nNot [43 - r] = 0 by show (if 43 - r = 43 then (1 : Int) else 0) + 0 = 0; rw [if_neg e4]; rfl, Int.add_zero]
    exact rc_tr a3 (rc_1 (g_an hs hT (by omega) a1 ho) b3)
theorem bb_and {r a : Int} (h : BtOk r r T lk o p p1 cs1) (hs : (isOw T p1 19 ∧ r = 2) ∨ (isOw T p1 18 ∧ r = 1)) (hr : r < a) (h2 : BtBd a T lk o (tN T p1) k pl) : BtBd r T lk o p k pl := fun kd pr ops R out hT ho => by
  have er : rnk (43 - r) = r := by rcases hs with e | e <;> rw [e.2] <;> rfl
  obtain ⟨ph, x, out', a0, a1, a2, a3⟩ := h kd pr ops R out hT ho
  exact rb_tr a3 (rb_1 (g_an hs hT (by omega) a1 ho) (h2 kd pr ((43 - r) :: ops) R (fls x out') hT (hdl_c (by rw [er]; exact hr))))
end SU
