/-! PARTS -/
section PA
variable {T : Int → Int} {lk : Bool} {o p p1 p2 p3 p4 k pl c e : Int} {cs cs1 cs2 cs3 : List (Int × Int)}
section
variable {kd ph pr : Int} {bg : Bool} {ops : List Int} {R : List zFr} {out : List (Int × Int)}
theorem o_par (h : isSg T p 40) : stpF T lk (p, (kd, ph, bg, pr, ops) :: R, out, o, false) = if o = 7 then zft 5 (tQ T p) else Sum.inl (tN T p, (2, 0, true, 0, []) :: (kd, ph, false, pr, ops) :: R, out, o + 1, false) := by
  have h1 := h.1
  have h2 := h.2
  rw [s_opr]
  unfold oprF opn
  rw [if_neg (by omega), if_neg (fun q => by have := q.2.1; omega), if_neg (fun q => by have := q.2.2; omega), if_neg (fun q => by have := q.2.1; omega), if_pos h]
theorem o_fn (h : isOw T p 22 ∨ isOw T p 23 ∨ isOw T p 17) : stpF T lk (p, (kd, ph, bg, pr, ops) :: R, out, o, false) = if ¬ isSg T (tN T p) 40 then zft 1 (tP T (tN T p)) else if o = 7 then zft 5 (tP T (tN T p)) else Sum.inl (tN T (tN T p), (if isOw T p 17 then 6 else 3, 0, true, if isOw T p 22 then 36 else if isOw T p 23 then 37 else 44, []) :: (kd, ph, false, pr, ops) :: R, out, o + 1, false) := by
  have h1 : tK T p = 1 ∧ (tO T p = 22 ∨ tO T p = 23 ∨ tO T p = 17) := by omega
  have h2 := h1.1
  have h3 := h1.2
  rw [s_opr]
  unfold oprF opn
  rw [if_neg (by omega), if_neg (fun q => by have := q.2.2; omega), if_neg (fun q => by have := q.2.1; omega), if_neg (fun q => by have := q.2.2; omega), if_neg (fun q => by have := q.1; omega), if_pos h]
  by_cases h4 : tK T (tN T p) = 4
  · rw [if_pos h4, if_pos (fun q => by have := q.1; omega)]
  · rw [if_neg h4, tPQ h4]
theorem o_ask (hc : ctB T p kd bg) (h1 : ¬ isSg T p 40) (h2 : ¬ (isOw T p 22 ∨ isOw T p 23 ∨ isOw T p 17)) (h4 : tK T p ≠ 4) : stpF T lk (p, (kd, ph, bg, pr, ops) :: R, out, o, false) = if askS T p lk = -1 then zft 1 (tQ T p) else Sum.inl (tN T p, (kd, ph, false, pr, ops) :: R, (askS T p lk, askV T p) :: out, o, true) := by
  rw [s_opr]
  unfold oprF
  rw [if_neg h4, if_neg (fun q => (hc q.1).1 q.2), if_neg (fun q => (hc q.1).2.1 q.2), if_neg (fun q => (hc q.1).2.2 q.2), if_neg h1, if_neg h2]
end
theorem prt_ask (h1 : ¬ isSg T p 40) (h2 : ¬ (isOw T p 22 ∨ isOw T p 23 ∨ isOw T p 17)) (h4 : tK T p ≠ 4) (h5 : askS T p lk ≠ -1) : PrtOk T lk o p (tN T p) [(askS T p lk, askV T p)] := fun kd ph bg pr ops R out hc => rc_1 (by rw [o_ask hc h1 h2 h4, if_neg h5]; rfl) (rc_rf _ _ _)
theorem prb_ask (h1 : ¬ isSg T p 40) (h2 : ¬ (isOw T p 22 ∨ isOw T p 23 ∨ isOw T p 17)) (h5 : tK T p = 4 ∨ askS T p lk = -1) : PrtBd T lk o p 1 (tP T p) := fun kd ph bg pr ops R out hc => by
  by_cases h4 : tK T p = 4
  · exact rb_0 (by rw [s_opr]; unfold oprF; rw [if_pos h4])
  · exact rb_0 (by rw [o_ask hc h1 h2 h4, if_pos (by omega), tPQ h4])
theorem nNot_5 {x : List Int} (h : rgt 5 x) (o : Int) : o = o + nNot x := by rw [nNot_0 (rgt_le h (by omega)), Int.add_zero]
theorem prt_par (h : isSg T p 40) (ho : o ≠ 7) (h2 : AccOk 5 T lk (o + 1) (tN T p) p1 cs) (h3 : isSg T p1 41) : PrtOk T lk o p (tN T p1) cs := fun kd ph bg pr ops R out hc => by
  obtain ⟨x, out', a1, a2, a3⟩ := h2 2 0 true 0 [] ((kd, ph, false, pr, ops) :: R) out (ct_n (by decide)) (hdl_nil 5) (by omega)
  rw [List.append_nil, nNot_5 a1 (o + 1)] at a3
  refine rc_1 (by rw [o_par h, if_neg ho]) (rc_tr (by rw [nNot_5 a1 (o + 1)]; exact a3) (rc_1 (g_cl (by rw [if_neg (by omega)]; exact h3) (Or.inl rfl) (fun q => by omega)) ?_))
  rw [if_neg (by omega), a2, show o + 1 - 1 = o by omega]
  exact rc_rf _ _ _
theorem prb_par7 (h : isSg T p 40) (ho : o = 7) : PrtBd T lk o p 5 (tP T p) := fun kd ph bg pr ops R out hc => rb_0 (by rw [o_par h, if_pos ho, tPQ (by have := h.1; omega)])
theorem prb_par (h : isSg T p 40) (ho : o ≠ 7) (h2 : AccBd 5 T lk (o + 1) (tN T p) k pl) : PrtBd T lk o p k pl := fun kd ph bg pr ops R out hc => rb_1 (by rw [o_par h, if_neg ho]) (h2 2 0 true 0 [] ((kd, ph, false, pr, ops) :: R) out (ct_n (by decide)) (hdl_nil 5) (by omega))
/-- after a SUM, in a frame that is no TEST: a token with which nothing goes on -/
theorem cl_bad {kd pr : Int} {R : List zFr} {x : List Int} {out : List (Int × Int)} (hk : kd = 2 ∨ kd = 3 ∨ kd = 4) (hA : ¬ isA T p) (hs : ¬ isSg T p (if kd = 3 then 44 else 41)) : rbad T lk (p, (kd, 0, false, pr, x) :: R, out, o, true) 1 (tP T p) := by
  refine rb_0 (g_bad (Or.inr ⟨fun q => hA q.2, fun q => q.2.2 rfl, Or.inr ⟨?_, ?_, ?_, ?_⟩⟩))
  · intro q; have := q.1; omega
  · omega
  · intro q; rw [if_pos (by omega)] at hs; exact hs
  · intro q; rw [if_neg (by omega)] at hs; rw [if_neg (by omega)]; exact hs
theorem prb_parc (h : isSg T p 40) (ho : o ≠ 7) (h2 : AccOk 5 T lk (o + 1) (tN T p) p1 cs) (hA : ¬ isA T p1) (h3 : ¬ isSg T p1 41) : PrtBd T lk o p 1 (tP T p1) := fun kd ph bg pr ops R out hc => by
  obtain ⟨x, out', a1, a2, a3⟩ := h2 2 0 true 0 [] ((kd, ph, false, pr, ops) :: R) out (ct_n (by decide)) (hdl_nil 5) (by omega)
  exact rb_1 (by rw [o_par h, if_neg ho]) (rb_tr a3 (cl_bad (Or.inl rfl) hA (by rw [if_neg (by omega)]; exact h3)))
/-! min, max, if -/
theorem prb_fn1 (h : isOw T p 22 ∨ isOw T p 23 ∨ isOw T p 17) (h1 : ¬ isSg T (tN T p) 40) : PrtBd T lk o p 1 (tP T (tN T p)) := fun kd ph bg pr ops R out hc => rb_0 (by rw [o_fn h, if_pos h1])
theorem prb_fn7 (h : isOw T p 22 ∨ isOw T p 23 ∨ isOw T p 17) (h1 : isSg T (tN T p) 40) (ho : o = 7) : PrtBd T lk o p 5 (tP T (tN T p)) := fun kd ph bg pr ops R out hc => rb_0 (by rw [o_fn h, if_neg (fun q => q h1), if_pos ho])
/-- two SUMS behind each other, in frames 3, 4 -/
theorem two_ok {f : Int} {R : List zFr} {out : List (Int × Int)} {bg : Bool} (h2 : AccOk 5 T lk (o + 1) p1 p2 cs1) (h3 : isSg T p2 44) (h4 : AccOk 5 T lk (o + 1) (tN T p2) p3 cs2) (h5 : isSg T p3 41) : rc T lk (p1, (3, 0, bg, f, []) :: R, out, o + 1, false) (tN T p3, clos 4 R, (f, 0) :: (cs2.reverse ++ (cs1.reverse ++ out)), o, true) := by
  obtain ⟨x, out', a1, a2, a3⟩ := h2 3 0 bg f [] R out (ct_n (by decide)) (hdl_nil 5) (by omega)
  obtain ⟨x2, out2, b1, b2, b3⟩ := h4 4 0 false f [] R (fls x out') (ct_n (by decide)) (hdl_nil 5) (by omega)
  rw [List.append_nil] at a3 b3
  refine rc_tr a3 (rc_1 (Y := (tN T p2, (4, 0, false, f, []) :: R, fls x out', o + 1, false)) ?_ (rc_tr b3 (rc_1 (Y := (tN T p3, clos 4 R, (f, 0) :: fls x2 out2, o + 1 - 1, true)) ?_ ?_)))
  · have e := g_co (lk := lk) (ph := 0) (bg := false) (pr := f) (R := R) (out := out') (o := o + 1) (x := x) h3 (Or.inl rfl) (fun q => by omega)
    rw [← nNot_5 a1] at e
    exact e
  · have e := g_cl (lk := lk) (ph := 0) (bg := false) (pr := f) (R := R) (out := out2) (o := o + 1) (x := x2) (kd := 4) (by rw [if_neg (by omega)]; exact h5) (Or.inr (Or.inl rfl)) (fun q => by omega)
    rw [← nNot_5 b1] at e
    exact e
  · rw [b2, a2, show o + 1 - 1 = o by omega]
    exact rc_rf _ _ _
theorem two_b1 {f : Int} {R : List zFr} {out : List (Int × Int)} {bg : Bool} (h2 : AccBd 5 T lk (o + 1) p1 k pl) : rbad T lk (p1, (3, 0, bg, f, []) :: R, out, o + 1, false) k pl := h2 3 0 bg f [] R out (ct_n (by decide)) (hdl_nil 5) (by omega)
theorem two_b2 {f : Int} {R : List zFr} {out : List (Int × Int)} {bg : Bool} (h2 : AccOk 5 T lk (o + 1) p1 p2 cs1) (hA : ¬ isA T p2) (h3 : ¬ isSg T p2 44) : rbad T lk (p1, (3, 0, bg, f, []) :: R, out, o + 1, false) 1 (tP T p2) := by
  obtain ⟨x, out', a1, a2, a3⟩ := h2 3 0 bg f [] R out (ct_n (by decide)) (hdl_nil 5) (by omega)
  exact rb_tr a3 (cl_bad (Or.inr (Or.inl rfl)) hA (by rw [if_pos rfl]; exact h3))
theorem two_n {f : Int} {R : List zFr} {out : List (Int × Int)} {bg : Bool} (h2 : AccOk 5 T lk (o + 1) p1 p2 cs1) (h3 : isSg T p2 44) : ∃ out2, rc T lk (p1, (3, 0, bg, f, []) :: R, out, o + 1, false) (tN T p2, (4, 0, false, f, []) :: R, out2, o + 1, false) := by
  obtain ⟨x, out', a1, a2, a3⟩ := h2 3 0 bg f [] R out (ct_n (by decide)) (hdl_nil 5) (by omega)
  rw [List.append_nil] at a3
  have e := g_co (lk := lk) (ph := 0) (bg := false) (pr := f) (R := R) (out := out') (o := o + 1) (x := x) h3 (Or.inl rfl) (fun q => by omega)
  rw [← nNot_5 a1] at e
  exact ⟨fls x out', rc_tr a3 (rc_1 e (rc_rf _ _ _))⟩
theorem two_b3 {f : Int} {R : List zFr} {out : List (Int × Int)} {bg : Bool} (h2 : AccOk 5 T lk (o + 1) p1 p2 cs1) (h3 : isSg T p2 44) (h4 : AccBd 5 T lk (o + 1) (tN T p2) k pl) : rbad T lk (p1, (3, 0, bg, f, []) :: R, out, o + 1, false) k pl := by
  obtain ⟨out2, a3⟩ := two_n (f := f) (R := R) (out := out) (bg := bg) h2 h3
  exact rb_tr a3 (h4 4 0 false f [] R out2 (ct_n (by decide)) (hdl_nil 5) (by omega))
theorem two_b4 {f : Int} {R : List zFr} {out : List (Int × Int)} {bg : Bool} (h2 : AccOk 5 T lk (o + 1) p1 p2 cs1) (h3 : isSg T p2 44) (h4 : AccOk 5 T lk (o + 1) (tN T p2) p3 cs2) (hA : ¬ isA T p3) (h5 : ¬ isSg T p3 41) : rbad T lk (p1, (3, 0, bg, f, []) :: R, out, o + 1, false) 1 (tP T p3) := by
  obtain ⟨out2, a3⟩ := two_n (f := f) (R := R) (out := out) (bg := bg) h2 h3
  obtain ⟨x2, out3, b1, b2, b3⟩ := h4 4 0 false f [] R out2 (ct_n (by decide)) (hdl_nil 5) (by omega)
  exact rb_tr a3 (rb_tr b3 (cl_bad (Or.inr (Or.inr rfl)) hA (by rw [if_neg (by omega)]; exact h5)))
theorem mm_n {kd ph pr : Int} {bg : Bool} {ops : List Int} {R : List zFr} {out : List (Int × Int)} (h : (isOw T p 22 ∧ e = 36) ∨ (isOw T p 23 ∧ e = 37)) (h1 : isSg T (tN T p) 40) (ho : o ≠ 7) : stpF T lk (p, (kd, ph, bg, pr, ops) :: R, out, o, false) = Sum.inl (tN T (tN T p), (3, 0, true, e, []) :: (kd, ph, false, pr, ops) :: R, out, o + 1, false) := by
  rcases h with ⟨h, rfl⟩ | ⟨h, rfl⟩
  · rw [o_fn (Or.inl h), if_neg (fun q => q h1), if_neg ho, if_neg (fun q => by have := q.2; have := h.2; omega), if_pos h]
  · rw [o_fn (Or.inr (Or.inl h)), if_neg (fun q => q h1), if_neg ho, if_neg (fun q => by have := q.2; have := h.2; omega), if_neg (fun q => by have := q.2; have := h.2; omega), if_pos h]
theorem if_n {kd ph pr : Int} {bg : Bool} {ops : List Int} {R : List zFr} {out : List (Int × Int)} (h : isOw T p 17) (h1 : isSg T (tN T p) 40) (ho : o ≠ 7) : stpF T lk (p, (kd, ph, bg, pr, ops) :: R, out, o, false) = Sum.inl (tN T (tN T p), (6, 0, true, 44, []) :: (kd, ph, false, pr, ops) :: R, out, o + 1, false) := by
  rw [o_fn (Or.inr (Or.inr h)), if_neg (fun q => q h1), if_neg ho, if_pos h, if_neg (fun q => by have := q.2; have := h.2; omega), if_neg (fun q => by have := q.2; have := h.2; omega)]
theorem prt_two (h : (isOw T p 22 ∧ e = 36) ∨ (isOw T p 23 ∧ e = 37)) (h1 : isSg T (tN T p) 40) (ho : o ≠ 7) (h2 : AccOk 5 T lk (o + 1) (tN T (tN T p)) p2 cs1) (h3 : isSg T p2 44) (h4 : AccOk 5 T lk (o + 1) (tN T p2) p3 cs2) (h5 : isSg T p3 41) : PrtOk T lk o p (tN T p3) (cs1 ++ (cs2 ++ [(e, 0)])) := fun kd ph bg pr ops R out hc => by
  rw [rev3]
  exact rc_1 (mm_n h h1 ho) (two_ok h2 h3 h4 h5)
theorem prb_two (h : (isOw T p 22 ∧ e = 36) ∨ (isOw T p 23 ∧ e = 37)) (h1 : isSg T (tN T p) 40) (ho : o ≠ 7) (h2 : ∀ (R : List zFr) (out : List (Int × Int)), rbad T lk (tN T (tN T p), (3, 0, true, e, []) :: R, out, o + 1, false) k pl) : PrtBd T lk o p k pl := fun kd ph bg pr ops R out hc => rb_1 (mm_n h h1 ho) (h2 _ _)
theorem if_t {kd ph pr : Int} {bg : Bool} {ops : List Int} {R : List zFr} {out : List (Int × Int)} (h : isOw T p 17) (h1 : isSg T (tN T p) 40) (ho : o ≠ 7) (h2 : BtOk 1 1 T lk (o + 1) (tN T (tN T p)) p2 cs1) (h3 : isSg T p2 44) : rc T lk (p, (kd, ph, bg, pr, ops) :: R, out, o, false) (tN T p2, (3, 0, false, 44, []) :: (kd, ph, false, pr, ops) :: R, cs1.reverse ++ out, o + 1, false) := by
  obtain ⟨ph2, x, out', a0, a1, a2, a3⟩ := h2 6 44 [] ((kd, ph, false, pr, ops) :: R) out (Or.inr (Or.inr rfl)) (hdl_nil 1)
  rw [List.append_nil] at a3
  refine rc_1 (if_n h h1 ho) (rc_tr a3 (rc_1 (g_co h3 (Or.inr rfl) (fun _ => by omega)) ?_))
  rw [if_neg (by omega), a2]
  exact rc_rf _ _ _
theorem prt_if (h : isOw T p 17) (h1 : isSg T (tN T p) 40) (ho : o ≠ 7) (h2 : BtOk 1 1 T lk (o + 1) (tN T (tN T p)) p2 cs1) (h3 : isSg T p2 44) (h4 : AccOk 5 T lk (o + 1) (tN T p2) p3 cs2) (h5 : isSg T p3 44) (h6 : AccOk 5 T lk (o + 1) (tN T p3) p4 cs3) (h7 : isSg T p4 41) : PrtOk T lk o p (tN T p4) (cs1 ++ (cs2 ++ (cs3 ++ [(44, 0)]))) := fun kd ph bg pr ops R out hc => by
  have e : (cs1 ++ (cs2 ++ (cs3 ++ [((44 : Int), (0 : Int))]))).reverse ++ out = (44, 0) :: (cs3.reverse ++ (cs2.reverse ++ (cs1.reverse ++ out))) := by simp
  rw [e]
  exact rc_tr (if_t h h1 ho h2 h3) (two_ok h4 h5 h6 h7)
theorem prb_if0 (h : isOw T p 17) (h1 : isSg T (tN T p) 40) (ho : o ≠ 7) (h2 : BtBd 1 T lk (o + 1) (tN T (tN T p)) k pl) : PrtBd T lk o p k pl := fun kd ph bg pr ops R out hc => rb_1 (if_n h h1 ho) (h2 6 44 [] _ out (Or.inr (Or.inr rfl)) (hdl_nil 1))
theorem prb_if1 (h : isOw T p 17) (h1 : isSg T (tN T p) 40) (ho : o ≠ 7) (h2 : BtOk 1 1 T lk (o + 1) (tN T (tN T p)) p2 cs1) (ha : ¬ isOw T p2 19 ∧ ¬ isOw T p2 18) (h3 : ¬ isSg T p2 44) : PrtBd T lk o p 1 (tP T p2) := fun kd ph bg pr ops R out hc => by
  obtain ⟨ph2, x, out', a0, a1, a2, a3⟩ := h2 6 44 [] ((kd, ph, false, pr, ops) :: R) out (Or.inr (Or.inr rfl)) (hdl_nil 1)
  refine rb_1 (if_n h h1 ho) (rb_tr a3 (rb_0 (g_bad (Or.inr ⟨?_, ?_, Or.inr ⟨?_, ?_, ?_, ?_⟩⟩))))
  · intro q; rcases a0 with e | e; have := q.1; omega; exact e.2 q.2
  · intro q; rcases q.2.1 with e | e; exact ha.1 e; exact ha.2 e
  · intro q; have := q.2; omega
  · omega
  · intro q; exact h3
  · intro q; omega
theorem prb_if2 (h : isOw T p 17) (h1 : isSg T (tN T p) 40) (ho : o ≠ 7) (h2 : BtOk 1 1 T lk (o + 1) (tN T (tN T p)) p2 cs1) (h3 : isSg T p2 44) (h4 : ∀ (R : List zFr) (out : List (Int × Int)), rbad T lk (tN T p2, (3, 0, false, 44, []) :: R, out, o + 1, false) k pl) : PrtBd T lk o p k pl := fun kd ph bg pr ops R out hc => rb_tr (if_t h h1 ho h2 h3) (h4 _ _)
end PA
