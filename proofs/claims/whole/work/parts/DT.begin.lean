/-! THE CLAIM OUT OF ONE WALK OF THE LAW'S BODY. Your part is whole_start (and what it stands on); all else here is the same for every law, but numbers. -/
def R_law : String := "NineTimesLaw"
def lw_P (b : Addr) (xs : List Int32) (args : Array Value) (s : State) : Prop := args = #[.ref b] ∧ s.IntsAt b xs ∧ xs.length ≤ 3072 ∧ (Jvm.Cond.and given_1 narrow_1).before args s = true
def lw_Q (_ : Array Value) (s : State) (o : Outcome) (t : State) : Prop := o = .returned (some (.int 1)) ∧ Framed s o t [] 600000 7302250
def lw_Z (below : List Frame) (a : Array Value) (s : State) : State → Prop := fun t => ∃ o, t.status = .running ∧ Ended t below o ∧ lw_Q a s o t
/-- the law's own end, with 1 on the stack, nothing written that was there before, its room as the claim has it -/
theorem lw_ret {p : Program} {l : Launch} {e : Env} {s : State} {m : MethodId} {below : List Frame} {meth : Method} {c : Code} {b : Nat} (hx : p.tables.exec = Jvm.exec) (hb : c.code = code) (hr : meth.sig.returnType = ret) (hlocks : meth.locks = false) {pc : Nat} {H : Heap} {ls : Array Slot} (hdg : decode code pc = .ok (.ireturn, 1)) : W p l e room_1 s m #[Value.ref b] below meth c H [] 600000 7302250 (lw_Z below #[Value.ref b] s) (F0 m pc ls [.int 1]) := by
  intro T hT X
  obtain ⟨fs, hret, hrun, hended, hW, hframe⟩ := X.leave (v := some (.int 1)) (hlocks := hlocks) (fun h => by rw [hr] at h; cases h)
  have hmeth' : T.vm.method? m = some meth := X.method'
  refine ⟨T.setFrames fs, ?_, .returned (some (.int 1)), hrun, hended, rfl, ⟨_, rfl⟩, hW, hframe⟩
  jvm_step X.here [X.here.top, hx, hb, hdg, hmeth', hr, ret, narrow_b1]
  (try refine ⟨rfl, ?_⟩); (try refine ⟨rfl, ?_⟩)
  first | (intro acts; rw [hret _ acts rfl rfl rfl]) | rw [hret _ _ rfl rfl rfl]
  exact Steps.refl _
/-- what holds at the law's entry: the machine, the code, the tables' words (any of lw_tbl by 'hts w (by decide +kernel)'), the script of L ints xs at the cell b, what the Statement gives of the start (any of its parts by flat_of_before) -/
def lw_At (p : Program) (s : State) (m : MethodId) (meth : Method) (c : Code) (b L : Nat) (xs : Nat → Int32) : Prop :=
  p.tables.exec = Jvm.exec ∧ c.code = code ∧ meth.sig.returnType = ret ∧ c.maxLocals = 4 ∧ s.vm.findClass R_law = some m.cls ∧ (∀ w ∈ lw_tbl, w.before #[Value.ref b] s = true) ∧ va_X b L xs s s.heap ∧ b < s.heap.size ∧ meth.locks = false ∧ (Jvm.Cond.and given_1 narrow_1).before #[Value.ref b] s = true
/-! THE LAW FROM ITS BEGINNING -/
set_option maxHeartbeats 4000000 in
set_option maxRecDepth 20000 in
theorem lw_begin {Γ : zv_M} {nm : String} {L : Int} {aK aV : Nat} {aF : Int} (hL : 0 ≤ L ∧ L ≤ 3072) (hZ : zv_str Γ aK aV aF) {σ : zv_H} : zV Γ (yLaw nm) 130 334 29441 (fun r _ _ => r = some (zI 1)) (GP L 1) (0, 0) 0 [some (zR 0), none, none, none] [] σ := by
  have h0_q : CS L EX 0 ((1 : Nat) : Int) (σ 0) σ σ := CS_0 (fun _ _ => rfl) rfl
  have w7_q : Cond.classLink "NineTimesLaw" 7 RX11 ∈ lw_tbl := (tin1 20 (by decide +kernel))
  have w10_q : Cond.classLink "NineTimesLaw" 10 RX12 ∈ lw_tbl := (tin5 221 (by decide +kernel))
  refine qnew (k := 0) (ci := 11) (n := 1) (u' := (1, 17)) rfl rfl in_X11 tyX11_ok kd_X11 ob_1 rfl w7_q (tin1 21 (by decide +kernel)) (tin1 1 (by decide +kernel)) (Nat.le_of_ble_eq_true rfl) (Nat.le_of_ble_eq_true rfl) rfl h0_q (by decide) (fun s1_q g1_q z1_q f1_q => ?_)
  refine zdup (k := 1) rfl rfl ?_
  refine qinit (k := 2) (n := 1) (m := 289) (u' := (288, 12211)) (as := []) rfl (i_NT_1 hZ (L := L) z1_q) fm_NT_init lk_L_9 rfl rfl (Nat.le_of_ble_eq_true rfl) (Nat.le_of_ble_eq_true rfl) (Nat.le_of_ble_eq_true rfl) (Nat.le_of_ble_eq_true rfl) rfl rfl g1_q (by decide) (fun _ _ _ _ => rfl) (fun s2_q g2_q => ?_)
  refine zastore_n (k := 3) (ls' := [some (zR 0), some (zR 1), none, none]) rfl (Nat.le_of_ble_eq_true rfl) rfl ?_
  refine qnew (k := 4) (ci := 12) (n := 289) (u' := (289, 12283)) rfl rfl in_X12 tyX12_ok kd_X12 ob_289 rfl w10_q (tin5 222 (by decide +kernel)) (tin1 17 (by decide +kernel)) (Nat.le_of_ble_eq_true rfl) (Nat.le_of_ble_eq_true rfl) rfl g2_q (by decide) (fun s3_q g3_q z3_q f3_q => ?_)
  refine zdup (k := 5) rfl rfl ?_
  refine zcallI (k := 6) (as := []) (rest := [zR 289]) rfl (i_M (L := L) z3_q) fm_M_init lk_L_12 rfl rfl (by decide) (by decide) (Nat.le_of_ble_eq_true rfl) (Nat.le_of_ble_eq_true rfl) (Nat.le_of_ble_eq_true rfl) (fun r G4 s4_q q => ?_)
  obtain ⟨rfl, rfl, q1_q, q2_q⟩ := q
  have hd : ∀ a, 1 ≤ a → a < 335 → Dn L EXF s4_q a := fun a a1_q a2_q => by
    by_cases e : a < 289
    · exact Dn_x (Dn_E (g3_q.2.2 a (by omega) (by show a < 289; exact e)) (fun k => EXF_o (by omega))) (fun k => q1_q a k e)
    · exact q2_q a (by omega) a2_q
  refine zastore_n (k := 7) (ls' := [some (zR 0), some (zR 1), some (zR 289), none]) rfl (Nat.le_of_ble_eq_true rfl) rfl ?_
  refine ziconst (k := 8) rfl (by decide) ?_
  refine zistore_n (k := 9) (ls' := LL 0) rfl (Nat.le_of_ble_eq_true rfl) rfl ?_
  refine zswitch (c := s4_q 0) (fun _ => rfl) hd ?_
  exact lw_loop hL ((L + 6 - 0).toNat + 1) 0 (sF (s4_q 0)) (by omega) (by omega) (by omega) GI_0
theorem hasRoom_le {s : State} {pl : Platform} {r r2_q : Room} (h1_q : r2_q.frames ≤ r.frames) (h2_q : r2_q.cells ≤ r.cells) (h3_q : r2_q.slots ≤ r.slots) (h4_q : r2_q.locals ≤ r.locals) (h : s.hasRoom pl r = true) : s.hasRoom pl r2_q = true := by
  simp only [State.hasRoom, Bool.and_eq_true, decide_eq_true_eq] at h ⊢
  obtain ⟨⟨⟨⟨a1_q, a2_q, a3_q, a4_q, a5_q, a6_q⟩, a7_q⟩, a8_q⟩, a9_q⟩ := h
  exact ⟨⟨⟨⟨by omega, by omega, by omega, by omega, by omega, a6_q⟩, by omega⟩, by omega⟩, a9_q⟩
theorem W_room {p : Program} {l : Launch} {e : Env} {R R2 : Room} {s : State} {m : MethodId} {args : Array Value} {below : List Frame} {meth : Method} {c : Code} {H : Heap} {locs : List Loc} {cells slots : Nat} {Q Q2 : State → Prop} {g : JFrame} (h1_q : R2.frames ≤ R.frames) (h2_q : R2.cells ≤ R.cells) (h3_q : R2.slots ≤ R.slots) (h4_q : R2.locals ≤ R.locals) (hQ : ∀ t, Q2 t → Q t) (k : W p l e R2 s m args below meth c H locs cells slots Q2 g) : W p l e R s m args below meth c H locs cells slots Q g := by
  intro T hT X
  obtain ⟨t, a1_q, b1_q⟩ := k T hT { X with room := hasRoom_le h1_q h2_q h3_q h4_q X.room }
  exact ⟨t, a1_q, hQ t b1_q⟩
theorem Framed_of {s t : State} {o : Outcome} {Lc : List Loc} (h : FrameEnd s o t Lc 334 29441) (hf : ∀ q ∈ Lc, s.heap.size ≤ q.base) : Framed s o t [] 600000 7302250 := by
  obtain ⟨a1_q, a2_q, b1_q, b2_q, b3_q, b4_q, b5_q, b6_q⟩ := h
  refine ⟨a1_q, a2_q, b1_q, b2_q, by omega, b4_q, Nat.le_trans b5_q (by decide), fun a cl ha => ?_⟩
  obtain ⟨c2_q, d1_q, d2_q, d3_q, d4_q⟩ := b6_q a cl ha
  refine ⟨c2_q, d1_q, d2_q, d3_q, fun i _ => d4_q i (fun hq => ?_)⟩
  have q1_q := hf _ hq
  have q2_q : a < s.heap.size := (Array.getElem?_eq_some_iff.mp ha).1
  have q3_q : s.heap.size ≤ a := q1_q
  exact absurd q2_q (Nat.not_lt.mpr q3_q)
theorem lw_classes {s : State} {args : Array Value} (hts : ∀ w ∈ lw_tbl, w.before args s = true) : ∃ D : va_G, ∀ (ci : Nat) (r : vw_C), vwCl[ci]? = some r → u_Kn s r.1 r.2.1 r.2.2 (D.1 ci) (D.2 ci) := by
  have h0_q : ∀ ci : Nat, ∃ q : ClassId × (Nat → Nat), ∀ r : vw_C, vwCl[ci]? = some r → u_Kn s r.1 r.2.1 r.2.2 q.1 q.2 := by
    intro ci
    match ci with
    | 0 =>
      obtain ⟨cC, iS, h⟩ := u_known (n := 3) hts in_X0 (hts _ (tin2 212 (by decide +kernel)))
      exact ⟨(cC, iS), fun r hr => by cases hr; exact h⟩
    | 1 =>
      obtain ⟨cC, iS, h⟩ := u_known (n := 2) hts in_X1 (hts _ (tin1 51 (by decide +kernel)))
      exact ⟨(cC, iS), fun r hr => by cases hr; exact h⟩
    | 2 =>
      obtain ⟨cC, iS, h⟩ := u_known (n := 5) hts in_X2 (hts _ (tin2 232 (by decide +kernel)))
      exact ⟨(cC, iS), fun r hr => by cases hr; exact h⟩
    | 3 =>
      obtain ⟨cC, iS, h⟩ := u_known (n := 1) hts in_X3 (hts _ (tin2 122 (by decide +kernel)))
      exact ⟨(cC, iS), fun r hr => by cases hr; exact h⟩
    | 4 =>
      obtain ⟨cC, iS, h⟩ := u_known (n := 9) hts in_X4 (hts _ (tin1 227 (by decide +kernel)))
      exact ⟨(cC, iS), fun r hr => by cases hr; exact h⟩
    | 5 =>
      obtain ⟨cC, iS, h⟩ := u_known (n := 9) hts in_X5 (hts _ (tin2 128 (by decide +kernel)))
      exact ⟨(cC, iS), fun r hr => by cases hr; exact h⟩
    | 6 =>
      obtain ⟨cC, iS, h⟩ := u_known (n := 9) hts in_X6 (hts _ (tin2 174 (by decide +kernel)))
      exact ⟨(cC, iS), fun r hr => by cases hr; exact h⟩
    | 7 =>
      obtain ⟨cC, iS, h⟩ := u_known (n := 9) hts in_X7 (hts _ (tin1 233 (by decide +kernel)))
      exact ⟨(cC, iS), fun r hr => by cases hr; exact h⟩
    | 8 =>
      obtain ⟨cC, iS, h⟩ := u_known (n := 13) hts in_X8 (hts _ (tin1 149 (by decide +kernel)))
      exact ⟨(cC, iS), fun r hr => by cases hr; exact h⟩
    | 9 =>
      obtain ⟨cC, iS, h⟩ := u_known (n := 2) hts in_X9 (hts _ (tin1 29 (by decide +kernel)))
      exact ⟨(cC, iS), fun r hr => by cases hr; exact h⟩
    | 10 =>
      obtain ⟨cC, iS, h⟩ := u_known (n := 15) hts in_X10 (hts _ (tin1 45 (by decide +kernel)))
      exact ⟨(cC, iS), fun r hr => by cases hr; exact h⟩
    | 11 =>
      obtain ⟨cC, iS, h⟩ := u_known (n := 17) hts in_X11 (hts _ (tin1 21 (by decide +kernel)))
      exact ⟨(cC, iS), fun r hr => by cases hr; exact h⟩
    | 12 =>
      obtain ⟨cC, iS, h⟩ := u_known (n := 72) hts in_X12 (hts _ (tin5 222 (by decide +kernel)))
      exact ⟨(cC, iS), fun r hr => by cases hr; exact h⟩
    | n + 13 => exact ⟨(0, fun _ => 0), fun r hr => by have q : vwCl[n + 13]? = none := rfl; rw [q] at hr; cases hr⟩
  obtain ⟨f, hf⟩ := Classical.axiomOfChoice h0_q
  exact ⟨(fun ci => (f ci).1, fun ci => (f ci).2), hf⟩
theorem lw_string {s : State} {args : Array Value} (hts : ∀ w ∈ lw_tbl, w.before args s = true) (hg : (Jvm.Cond.and given_1 narrow_1).before args s = true) {Γ : zv_M} (hΓ : Γ.1 = s) : ∃ (aK aV : Nat) (aF : Int), zv_str Γ aK aV aF := by
  subst hΓ
  have hs := flat_of_before _ hg
  have hA : ∀ a : Nat, a < Γ.1.heap.size → ¬ zsA Γ a := fun a h q => by
    have q : Γ.1.heap.size ≤ a := q
    omega
  obtain ⟨adK, adV, h1_q, h2_q⟩ := vk_Sof (args := args) (s := Γ.1) (N := 1) (tm := fun _ => .string "NineTimes$Scanner" 15) (len := [115]) (byt := [BYT]) (A := zsA Γ)
    (fun i hi => by rw [show i = 0 by omega]; decide)
    (fun i hi => hs _ (by decide +kernel))
    (fun i hi => hs _ (by decide +kernel))
    (fun i hi => hs _ (by decide +kernel))
    (fun i hi => by rw [show i = 0 by omega]; exact hs _ (by decide +kernel))
    (fun i hi j hj => by
      rw [show i = 0 by omega] at hj ⊢
      have hj : j < 115 := hj
      have q : ∀ j : Nat, j < 115 → Cond.eq (.elem (.field (.string "NineTimes$Scanner" 15) "java/lang/String" "value" "[B") (.int (Int32.ofNat j))) (.int (([BYT].getD 0 []).getD j 0)) ∈ flatC (Jvm.Cond.and given_1 narrow_1) := by decide +kernel
      exact hs _ (q j hj))
    (fun i j hi hj hij => by omega) hA
  obtain ⟨k1_q, k2_q, k3_q, k4_q⟩ := h1_q.1 0 (by decide)
  have z1_q := va_Zof (A := zsA Γ) (hts _ (tin2 11 (by decide +kernel))) (hts _ (tin1 8 (by decide +kernel))) (va_eqt (hs (.eq (.static "java/lang/String" "COMPACT_STRINGS" "Z") (.int 1)) (by decide +kernel))) hA
  have hr : (Cond.isRef (.static "jdk/internal/util/Preconditions" "SIOOBE_FORMATTER" "Ljava/util/function/BiFunction;")).before args Γ.1 = true := hs _ (by decide +kernel)
  have z2_q := va_Zqof (A := zsA Γ) (hts _ (tin2 27 (by decide +kernel))) (hts _ (tin1 10 (by decide +kernel))) hr hA
  have z3_q : ∃ (aF : Int) (vF : Value), va_Z "jdk/internal/util/Preconditions" "SIOOBE_FORMATTER" "Ljava/util/function/BiFunction;" vF (zsA Γ) Γ.1 Γ.1.heap ∧ ∀ ad : Int → Nat, zv_R ad (3, aF) vF := by
    rcases z2_q with z2_q | ⟨t, z2_q⟩
    · exact ⟨-1, .null, z2_q, fun ad => Or.inl ⟨by show (-1 : Int) < 0; omega, rfl⟩⟩
    · exact ⟨t, .ref t, z2_q, fun ad => zS_mk t⟩
  obtain ⟨t, vF, z4_q, z5_q⟩ := z3_q
  exact ⟨adK 0, adV 0, t, vk_R.of (A := args) (hts _ (tin1 238 (by decide +kernel))) (h2_q 0 (by decide)), k1_q, k2_q, k3_q, k4_q, z1_q, vF, z4_q, z5_q⟩
theorem hR_start {Γ : zv_M} {L : Nat} {xs : Nat → Int32} (hL : L ≤ 3072) (hX : va_X Γ.2.2 L xs Γ.1 Γ.1.heap) : zv_hR Γ (GP (L : Int) 1) (fun a k => if a = 0 then (xs k.toNat).toInt else 0) Γ.1.heap := by
  obtain ⟨scr, h1_q, h2_q, h3_q, h4_q, h5_q⟩ := hX
  refine ⟨⟨by rw [GP_len (by decide)], by rw [GP_len (by decide)]; decide⟩, fun _ _ => rfl, fun a sh hs => ?_⟩
  have h0_q := (zv_sh0 hs).1
  cases a with
  | negSucc n => cases hs
  | ofNat n =>
    cases n with
    | succ n =>
      have hs : ((GS (L : Int)).take 1)[n + 1]? = some sh := hs
      have q := (List.getElem?_eq_some_iff.mp hs).1
      rw [List.length_take, GS_len] at q
      omega
    | zero =>
      have e : sh = .inr (.int, (L : Int)) := (Option.some.inj (hs.symm.trans (rfl : zv_sh (GP (L : Int) 1) (Int.ofNat 0) = some (.inr (.int, (L : Int))))))
      subst e
      refine ⟨scr, h1_q, h2_q, h3_q, trivial, by rw [h4_q], by show (L : Int) < 2147483648; omega, fun j hj => ?_⟩
      have hj : (j : Int) < (L : Int) := hj
      refine ⟨.int (xs j), h5_q j (by omega), ⟨xs j, rfl, ?_⟩, trivial⟩
      show (xs j).toInt = (if (Int.ofNat 0) = 0 then (xs ((j : Int).toNat)).toInt else 0)
      rw [if_pos (show Int.ofNat 0 = 0 from rfl), Int.toNat_natCast]
