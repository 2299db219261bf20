/-! AN ABSTRACT MACHINE OVER THE KIT'S ROWS: values are whole numbers with a tag, cells have names (numbers), a heap is a function -/
/-- tag 0: int, 1: long, 2: reference (a name; below 0: null), 3: reference by its address -/
abbrev zv_A : Type := Nat × Int
abbrev zI (z : Int) : zv_A := (0, z)
abbrev zL (z : Int) : zv_A := (1, z)
abbrev zR (z : Int) : zv_A := (2, z)
abbrev zv_H : Type := Int → Int → Int
/-- the state at the law's entry, the classes' numbers, the script's address -/
abbrev zv_M : Type := State × va_G × Nat
abbrev zv_S : Type := Nat ⊕ (FieldType × Int)
abbrev zv_W : Type := List zv_S × (Int → Int → Option Int)
/-- a method: name, bytes, locals, answer's type, its instructions: pc, instruction, length, next pc -/
abbrev zv_Y : Type := MethodName × ByteArray × Nat × Option FieldType × List (Nat × Instr × Nat × Nat)
def zv_R (ad : Int → Nat) (q : zv_A) (v : Value) : Prop :=
  match q.1 with
  | 0 => ∃ x : Int32, v = .int x ∧ x.toInt = q.2
  | 1 => ∃ x : Int64, v = .long x ∧ x.toInt = q.2
  | 2 => (q.2 < 0 ∧ v = .null) ∨ (0 ≤ q.2 ∧ v = .ref (ad q.2))
  | _ => (q.2 < 0 ∧ v = .null) ∨ (0 ≤ q.2 ∧ v = .ref q.2.toNat)
def zv_ad (Γ : zv_M) (a : Int) : Nat := if a.toNat = 0 then Γ.2.2 else Γ.1.heap.size + (a.toNat - 1)
def zv_sh (G : zv_W) (a : Int) : Option zv_S := match a with
  | .ofNat n => G.1[n]?
  | .negSucc _ => none
def zv_val (G : zv_W) (σ : zv_H) (a k : Int) : Int := (G.2 a k).getD (σ a k)
def zv_tag (ty : FieldType) : Nat := match ty with
  | .long => 1
  | .object _ => 2
  | .array _ => 2
  | _ => 0
def zv_ok (ty : FieldType) (z : Int) : Prop := match ty with
  | .boolean => z = 0 ∨ z = 1
  | _ => True
def zv_ty (ci : Nat) : Nat → FieldType := match ci with
  | 0 => tyX0
  | 1 => tyX1
  | 2 => tyX2
  | 3 => tyX3
  | 4 => tyX4
  | 5 => tyX5
  | 6 => tyX6
  | 7 => tyX7
  | 8 => tyX8
  | 9 => tyX9
  | 10 => tyX10
  | 11 => tyX11
  | _ => tyX12
def zv_ra (Γ : zv_M) (cell : Cell) (ty : FieldType) : Prop := match ty with
  | .object C => ∃ (kA : Class) (comp : ClassId), Γ.1.vm.classes[cell.cls]? = some kA ∧ kA.kind = .array comp (.object C) ∧ Γ.1.vm.findClass C = some comp
  | _ => True
def zv_cR (Γ : zv_M) (G : zv_W) (σ : zv_H) (a : Int) (sh : zv_S) (H : Heap) : Prop := match sh with
  | .inl ci => ∃ (r : vw_C) (V : Nat → Value), vwCl[ci]? = some r ∧ t_OB (zv_ad Γ a) (Γ.2.1.1 ci) r.2.2 (Γ.2.1.2 ci) H V ∧ ∀ k : Nat, k < r.2.2 → zv_R (zv_ad Γ) (zv_tag (zv_ty ci k), zv_val G σ a k) (V k) ∧ zv_ok (zv_ty ci k) (zv_val G σ a k)
  | .inr q => ∃ cell : Cell, H[zv_ad Γ a]? = some cell ∧ Γ.1.isArrayOf cell q.1 ∧ cell.vm ≠ .unknown ∧ zv_ra Γ cell q.1 ∧ (cell.slots.size : Int) = q.2 ∧ q.2 < 2147483648 ∧ ∀ j : Nat, (j : Int) < q.2 → ∃ v : Value, cell.slots[j]? = some v ∧ zv_R (zv_ad Γ) (zv_tag q.1, zv_val G σ a j) v ∧ zv_ok q.1 (zv_val G σ a j)
/-- the heap: what stood at the law's entry stands as it did, and each name's cell holds what the abstract heap says -/
def zv_hR (Γ : zv_M) (G : zv_W) (σ : zv_H) (H : Heap) : Prop :=
  (H.size + 1 = Γ.1.heap.size + G.1.length ∧ 0 < G.1.length) ∧ (∀ q : Nat, q < Γ.1.heap.size → H[q]? = Γ.1.heap[q]?) ∧ ∀ (a : Int) (sh : zv_S), zv_sh G a = some sh → zv_cR Γ G σ a sh H
def zv_e (Γ : zv_M) : Prop := (∀ w ∈ lw_tbl, w.before #[Value.ref Γ.2.2] Γ.1 = true) ∧ (∀ (ci : Nat) (r : vw_C), vwCl[ci]? = some r → u_Kn Γ.1 r.1 r.2.1 r.2.2 (Γ.2.1.1 ci) (Γ.2.1.2 ci)) ∧ Γ.2.2 < Γ.1.heap.size
def zv_m (y : zv_Y) : Prop := ∀ q ∈ y.2.2.2.2, decode y.2.1 q.1 = .ok (q.2.1, q.2.2.1) ∧ q.1 + q.2.2.1 = q.2.2.2
def zv_lR (ad : Int → Nat) (lsA : Array Slot) (nL : Nat) (ls : List (Option zv_A)) : Prop := ls.length = nL ∧ ∃ lv : List (Nat × Value), lv_has lsA nL lv ∧ ∀ (i : Nat) (q : zv_A), ls[i]? = some (some q) → ∃ v : Value, (i, v) ∈ lv ∧ zv_R ad q v
def zv_sR (ad : Int → Nat) (vs : List Value) (qs : List zv_A) : Prop := vs.length = qs.length ∧ ∀ (i : Nat) (q : zv_A), qs[i]? = some q → ∃ v : Value, vs[i]? = some v ∧ zv_R ad q v
def zv_X (y : zv_Y) (Γ : zv_M) (p : Program) (s : State) (m : MethodId) (meth : Method) (c : Code) : Prop :=
  p.tables.exec = Jvm.exec ∧ c.code = y.2.1 ∧ c.maxLocals = y.2.2.1 ∧ meth.sig.returnType = y.2.2.2.1 ∧ meth.locks = false ∧ meth.name = y.1.name ∧ s.vm.findClass y.1.cls = some m.cls ∧ Γ.1.WarmedH s.vm
abbrev zv_P : Type := Option zv_A → zv_W → zv_H → Prop
def zv_oR (ad : Int → Nat) (r : Option zv_A) (o : Outcome) : Prop := match r with
  | none => o = .returned none
  | some q => ∃ v : Value, o = .returned (some v) ∧ zv_R ad q v
def zv_Qc (Γ : zv_M) (Q : zv_P) : Array Value → State → Outcome → State → Prop := fun _ _ o t => ∃ (r : Option zv_A) (G' : zv_W) (σ' : zv_H), Q r G' σ' ∧ zv_hR Γ G' σ' t.heap ∧ zv_oR (zv_ad Γ) r o
def zv_F (Γ : zv_M) : Addr → Prop := fun q => Γ.1.heap.size ≤ q
def zv_Rm (f mc ms : Nat) : Room := { frames := f, cells := mc, slots := ms, locals := 64 * f }
/-- THE JUDGEMENT: from pc, with these locals, this stack and this heap, the method comes to its end with Q -/
def zV (Γ : zv_M) (y : zv_Y) (f mc ms : Nat) (Q : zv_P) (G : zv_W) (u : Nat × Nat) (pc : Nat) (ls : List (Option zv_A)) (st : List zv_A) (σ : zv_H) : Prop :=
  zv_m y → zv_e Γ → ∀ (p : Program) (l : Launch) (e : Env) (s : State) (m : MethodId) (args : Array Value) (below : List Frame) (meth : Method) (c : Code), zv_X y Γ p s m meth c →
    ∀ (H : Heap) (locs : List Loc) (lsA : Array Slot) (stV : List Value), zv_hR Γ G σ H → (∀ q ∈ locs, Γ.1.heap.size ≤ q.base) → zv_lR (zv_ad Γ) lsA y.2.2.1 ls → zv_sR (zv_ad Γ) stV st →
      W p l e (zv_Rm f mc ms) s m args below meth c H locs u.1 u.2 (MQ below (zv_Qc Γ Q) args s mc ms (zv_F Γ)) (F0 m pc lsA stV)
def zv_Pc (Γ : zv_M) (G : zv_W) (as : List zv_A) (σ : zv_H) : Array Value → State → Prop := fun v U => Γ.1.WarmedH U.vm ∧ zv_hR Γ G σ U.heap ∧ ∃ vs : List Value, v = vs.toArray ∧ zv_sR (zv_ad Γ) vs as
/-- A CONTRACT -/
def zC (Γ : zv_M) (y : zv_Y) (f mc ms : Nat) (G : zv_W) (as : List zv_A) (σ : zv_H) (Q : zv_P) : Prop :=
  zv_e Γ → ∀ l : Launch, Met l y.1 [.code y.1 y.2.1 y.2.2.1 y.2.2.2.1] (zv_Rm f mc ms) (zv_Pc Γ G as σ) (zv_Qc Γ Q) mc ms (zv_F Γ)
def w32 (z : Int) : Int := (z + 2147483648) % 4294967296 - 2147483648
def w64 (z : Int) : Int := (z + 9223372036854775808) % 18446744073709551616 - 9223372036854775808
theorem w32_b (z : Int) : z.bmod (2 ^ 32) = w32 z := by
  show (if z % (4294967296 : Int) < (4294967296 + 1) / 2 then z % 4294967296 else z % 4294967296 - 4294967296) = (z + 2147483648) % 4294967296 - 2147483648
  split <;> omega
theorem w64_b (z : Int) : z.bmod (2 ^ 64) = w64 z := by
  show (if z % (18446744073709551616 : Int) < (18446744073709551616 + 1) / 2 then z % 18446744073709551616 else z % 18446744073709551616 - 18446744073709551616) = (z + 9223372036854775808) % 18446744073709551616 - 9223372036854775808
  split <;> omega

def zand (x y : Int) : Int := (Int32.ofInt x &&& Int32.ofInt y).toInt
def zor (x y : Int) : Int := (Int32.ofInt x ||| Int32.ofInt y).toInt
def zxor (x y : Int) : Int := (Int32.ofInt x ^^^ Int32.ofInt y).toInt
def zshl (x y : Int) : Int := (Int32.ofInt x <<< (Int32.ofInt y &&& 31)).toInt
def zshr (x y : Int) : Int := (Int32.ofInt x >>> (Int32.ofInt y &&& 31)).toInt
def zushr (x y : Int) : Int := ((Int32.ofInt x).toUInt32 >>> ((Int32.ofInt y).toUInt32 &&& Int32.toUInt32 31)).toInt32.toInt
def zandL (x y : Int) : Int := (Int64.ofInt x &&& Int64.ofInt y).toInt
def zorL (x y : Int) : Int := (Int64.ofInt x ||| Int64.ofInt y).toInt
def zxorL (x y : Int) : Int := (Int64.ofInt x ^^^ Int64.ofInt y).toInt
def zshlL (x y : Int) : Int := (Int64.ofInt x <<< ((Int32.ofInt y).toInt64 &&& 63)).toInt
def zshrL (x y : Int) : Int := (Int64.ofInt x >>> ((Int32.ofInt y).toInt64 &&& 63)).toInt
def zcmp (x y : Int) : Int := if y < x then 1 else if x = y then 0 else -1
theorem zv_cmp (x y : Int64) : (lg_cmp x y).toInt = zcmp x.toInt y.toInt := by
  unfold lg_cmp zcmp
  simp only [Int64.lt_iff_toInt_lt, ← Int64.toInt_inj]
  by_cases h1 : y.toInt < x.toInt
  · rw [if_pos h1, if_pos h1]; rfl
  · rw [if_neg h1, if_neg h1]
    by_cases h2 : x.toInt = y.toInt
    · rw [if_pos h2, if_pos h2]; rfl
    · rw [if_neg h2, if_neg h2]; rfl
theorem zrem64 (a m : Int64) : (a - (a / m) * m).toInt = a.toInt.tmod m.toInt := by
  have h : a - (a / m) * m = a % m := by
    apply Int64.toInt_inj.mp
    have h1 := Int64.le_toInt (a % m)
    have h2 := Int64.toInt_lt (a % m)
    rw [Int64.toInt_sub, Int64.toInt_mul, Int64.toInt_div, Int.bmod_mul_bmod, Int.sub_bmod_bmod, Int.mul_comm (a.toInt.tdiv m.toInt), ← Int.tmod_def, ← Int64.toInt_mod]
    exact Int.bmod_eq_of_le_mul_two (by omega) (by omega)
  rw [h]; exact Int64.toInt_mod a m

theorem w32_id {z : Int} (h1 : -2147483648 ≤ z) (h2 : z ≤ 2147483647) : w32 z = z := by
  unfold w32
  omega
theorem w64_id {z : Int} (h1 : -9223372036854775808 ≤ z) (h2 : z ≤ 9223372036854775807) : w64 z = z := by
  unfold w64
  omega
theorem w32_r (z : Int) : -2147483648 ≤ w32 z ∧ w32 z ≤ 2147483647 := by
  unfold w32
  omega
theorem zi_r (x : Int32) : -2147483648 ≤ x.toInt ∧ x.toInt ≤ 2147483647 := by
  have h1 := x.le_toInt
  have h2 := x.toInt_lt
  constructor <;> omega
theorem zl_r (x : Int64) : -9223372036854775808 ≤ x.toInt ∧ x.toInt ≤ 9223372036854775807 := by
  have h1 := x.le_toInt
  have h2 := x.toInt_lt
  constructor <;> omega
theorem zi_w (x : Int32) : w32 x.toInt = x.toInt := w32_id (zi_r x).1 (zi_r x).2
theorem zv_R_cat {ad : Int → Nat} {q : zv_A} {v : Value} (h : zv_R ad q v) (hq : (q.1 == 1) = false) : v.category = 1 := by
  obtain ⟨t, z⟩ := q
  match t with
  | 0 => obtain ⟨x, rfl, -⟩ := h; rfl
  | 1 => cases hq
  | 2 =>
    rcases h with ⟨-, rfl⟩ | ⟨-, rfl⟩ <;> rfl
  | n + 3 =>
    rcases h with ⟨-, rfl⟩ | ⟨-, rfl⟩ <;> rfl
theorem zv_R_cat2 {ad : Int → Nat} {q : zv_A} {v : Value} (h : zv_R ad q v) (hq : (q.1 == 1) = true) : v.category = 2 := by
  obtain ⟨t, z⟩ := q
  match t with
  | 0 => cases hq
  | 1 => obtain ⟨x, rfl, -⟩ := h; rfl
  | 2 => simp at hq
  | n + 3 => simp at hq
theorem zv_sR_cons {ad : Int → Nat} {vs : List Value} {q : zv_A} {qs : List zv_A} (h : zv_sR ad vs (q :: qs)) : ∃ v r, vs = v :: r ∧ zv_R ad q v ∧ zv_sR ad r qs := by
  obtain ⟨h1, h2⟩ := h
  cases vs with
  | nil => simp at h1
  | cons v r =>
    refine ⟨v, r, rfl, ?_, by simpa using h1, fun i q hq => ?_⟩
    · obtain ⟨w, e, k⟩ := h2 0 q rfl
      cases e
      exact k
    · obtain ⟨w, e, k⟩ := h2 (i + 1) q (by simpa using hq)
      exact ⟨w, by simpa using e, k⟩
theorem zv_sR_mk {ad : Int → Nat} {v : Value} {r : List Value} {q : zv_A} {qs : List zv_A} (h1 : zv_R ad q v) (h : zv_sR ad r qs) : zv_sR ad (v :: r) (q :: qs) := by
  refine ⟨by simp [h.1], fun i q' hq => ?_⟩
  cases i with
  | zero => cases hq; exact ⟨v, rfl, h1⟩
  | succ i =>
    obtain ⟨w, e, k⟩ := h.2 i q' (by simpa using hq)
    exact ⟨w, by simpa using e, k⟩
theorem zv_sR_nil {ad : Int → Nat} : zv_sR ad [] [] := ⟨rfl, fun i q h => by simp at h⟩
theorem zv_sR_nil' {ad : Int → Nat} {vs : List Value} (h : zv_sR ad vs []) : vs = [] := by
  have := h.1
  simpa using this
theorem zv_mI {ad : Int → Nat} {x : Int32} {z : Int} (h : x.toInt = z) : zv_R ad (zI z) (.int x) := ⟨x, rfl, h⟩
theorem zv_mL {ad : Int → Nat} {x : Int64} {z : Int} (h : x.toInt = z) : zv_R ad (zL z) (.long x) := ⟨x, rfl, h⟩
def zv_cl (ls : List (Option zv_A)) (i : Nat) : List (Option zv_A) := match i with
  | 0 => ls
  | j + 1 => match ls[j]? with
    | some (some (1, _)) => ls.set j none
    | _ => ls
def zv_s1 (ls : List (Option zv_A)) (i : Nat) (q : zv_A) : List (Option zv_A) := (zv_cl ls i).set i (some q)
def zv_s2 (ls : List (Option zv_A)) (i : Nat) (q : zv_A) : List (Option zv_A) := ((zv_cl ls i).set i (some q)).set (i + 1) none
theorem zv_cl_len (ls : List (Option zv_A)) (i : Nat) : (zv_cl ls i).length = ls.length := by
  unfold zv_cl
  split
  · rfl
  · split
    · simp
    · rfl
theorem zv_cl_at {ls : List (Option zv_A)} {i j : Nat} {q : zv_A} (h : (zv_cl ls i)[j]? = some (some q)) : ls[j]? = some (some q) ∧ (j + 1 = i → (q.1 == 1) = false) := by
  unfold zv_cl at h
  split at h
  · exact ⟨h, fun e => by omega⟩
  · rename_i k
    split at h
    · rename_i z hz
      by_cases hj : j = k
      · subst hj
        have hlt : j < ls.length := (List.getElem?_eq_some_iff.mp hz).1
        rw [List.getElem?_set_self hlt] at h
        cases h
      · rw [List.getElem?_set_ne (Ne.symm hj)] at h
        exact ⟨h, fun e => by omega⟩
    · rename_i hz
      refine ⟨h, fun e => ?_⟩
      have e' : j = k := by omega
      subst e'
      obtain ⟨t, z⟩ := q
      by_cases ht : t = 1
      · subst ht
        exact absurd h (hz z)
      · simpa using ht
theorem zv_lR_len {ad : Int → Nat} {lsA : Array Slot} {nL : Nat} {ls : List (Option zv_A)} (h : zv_lR ad lsA nL ls) : lsA.size = nL := h.2.choose_spec.1.1
theorem zv_lR_at {ad : Int → Nat} {lsA : Array Slot} {nL : Nat} {ls : List (Option zv_A)} {i : Nat} {q : zv_A} (h : zv_lR ad lsA nL ls) (hi : ls[i]? = some (some q)) : ∃ v, lsA[i]? = some (.val v) ∧ zv_R ad q v := by
  obtain ⟨-, lv, h1, h2⟩ := h
  obtain ⟨v, hv, hr⟩ := h2 i q hi
  exact ⟨v, h1.2.2 (i, v) hv, hr⟩
theorem zv_lR_s1 {ad : Int → Nat} {lsA lsB : Array Slot} {nL i : Nat} {ls : List (Option zv_A)} {lv : List (Nat × Value)} {q : zv_A} {v : Value} (hlen : ls.length = nL) (h2 : ∀ (i : Nat) (q : zv_A), ls[i]? = some (some q) → ∃ v : Value, (i, v) ∈ lv ∧ zv_R ad q v) (hq : zv_R ad q v)
    (hB : lv_has lsB nL ((i, v) :: lv.filter (fun q => !(q.1 == i) && !(q.1 + 1 == i && q.2.category == 2)))) : zv_lR ad lsB nL (zv_s1 ls i q) := by
  refine ⟨by simp [zv_s1, zv_cl_len, hlen], _, hB, fun j q' hj => ?_⟩
  by_cases e : j = i
  · subst e
    unfold zv_s1 at hj
    have hlt : j < (zv_cl ls j).length := by
      have := (List.getElem?_eq_some_iff.mp hj).1
      simpa using this
    rw [List.getElem?_set_self hlt] at hj
    cases hj
    exact ⟨v, List.mem_cons_self, hq⟩
  · unfold zv_s1 at hj
    rw [List.getElem?_set_ne (Ne.symm e)] at hj
    obtain ⟨h3, h4⟩ := zv_cl_at hj
    obtain ⟨w, hw, hr⟩ := h2 j q' h3
    refine ⟨w, List.mem_cons_of_mem _ (List.mem_filter.mpr ⟨hw, ?_⟩), hr⟩
    by_cases e2 : j + 1 = i
    · have hc := zv_R_cat hr (h4 e2)
      simp [e, hc]
    · simp [e, e2]
theorem zv_lR_s2 {ad : Int → Nat} {lsA lsB : Array Slot} {nL i : Nat} {ls : List (Option zv_A)} {lv : List (Nat × Value)} {q : zv_A} {v : Value} (hlen : ls.length = nL) (h2 : ∀ (i : Nat) (q : zv_A), ls[i]? = some (some q) → ∃ v : Value, (i, v) ∈ lv ∧ zv_R ad q v) (hq : zv_R ad q v)
    (hB : lv_has lsB nL ((i, v) :: lv.filter (fun q => !(q.1 == i) && (!(q.1 == i + 1) && !(q.1 + 1 == i && q.2.category == 2))))) : zv_lR ad lsB nL (zv_s2 ls i q) := by
  refine ⟨by simp [zv_s2, zv_cl_len, hlen], _, hB, fun j q' hj => ?_⟩
  unfold zv_s2 at hj
  by_cases e0 : j = i + 1
  · subst e0
    by_cases hlt : i + 1 < ((zv_cl ls i).set i (some q)).length
    · rw [List.getElem?_set_self hlt] at hj
      cases hj
    · rw [List.getElem?_eq_none (by simp at hlt ⊢; omega)] at hj
      cases hj
  rw [List.getElem?_set_ne (Ne.symm e0)] at hj
  by_cases e : j = i
  · subst e
    have hlt : j < (zv_cl ls j).length := by
      have := (List.getElem?_eq_some_iff.mp hj).1
      simpa using this
    rw [List.getElem?_set_self hlt] at hj
    cases hj
    exact ⟨v, List.mem_cons_self, hq⟩
  · rw [List.getElem?_set_ne (Ne.symm e)] at hj
    obtain ⟨h3, h4⟩ := zv_cl_at hj
    obtain ⟨w, hw, hr⟩ := h2 j q' h3
    refine ⟨w, List.mem_cons_of_mem _ (List.mem_filter.mpr ⟨hw, ?_⟩), hr⟩
    by_cases e2 : j + 1 = i
    · have hc := zv_R_cat hr (h4 e2)
      simp [e, e0, hc]
    · simp [e, e2, e0]
theorem zv_dec {y : zv_Y} (hm : zv_m y) {k pc n pc' : Nat} {i : Instr} (hd : y.2.2.2.2[k]? = some (pc, i, n, pc')) : decode y.2.1 pc = .ok (i, n) ∧ pc + n = pc' := hm (pc, i, n, pc') (List.mem_of_getElem? hd)

section ZROWS
variable {Γ : zv_M} {y : zv_Y} {f mc ms : Nat} {Q : zv_P} {G : zv_W} {u : Nat × Nat} {pc pc' k : Nat} {ls : List (Option zv_A)} {st : List zv_A} {σ : zv_H}
theorem ziload_n {i : Fin 4} {x : Int} (hd : y.2.2.2.2[k]? = some (pc, .iload_n i, 1, pc')) (hx : ls[i.val]? = some (some (zI x))) (kk : zV Γ y f mc ms Q G u pc' ls (zI x :: st) σ) : zV Γ y f mc ms Q G u pc ls st σ := by
  intro hm he p l e s m args below meth c X H locs lsA stV hH hL hl hs
  obtain ⟨hdec, rfl⟩ := zv_dec hm hd
  obtain ⟨v, hv, xx, rfl, ex⟩ := zv_lR_at hl hx
  exact lv_iload_n X.1 X.2.1 hdec rfl hv (kk hm he p l e s m args below meth c X H locs lsA (_ :: stV) hH hL hl (zv_sR_mk ⟨xx, rfl, ex⟩ hs))
theorem zlload_n {i : Fin 4} {x : Int} (hd : y.2.2.2.2[k]? = some (pc, .lload_n i, 1, pc')) (hx : ls[i.val]? = some (some (zL x))) (kk : zV Γ y f mc ms Q G u pc' ls (zL x :: st) σ) : zV Γ y f mc ms Q G u pc ls st σ := by
  intro hm he p l e s m args below meth c X H locs lsA stV hH hL hl hs
  obtain ⟨hdec, rfl⟩ := zv_dec hm hd
  obtain ⟨v, hv, xx, rfl, ex⟩ := zv_lR_at hl hx
  exact lv_lload_n X.1 X.2.1 hdec rfl hv (kk hm he p l e s m args below meth c X H locs lsA (_ :: stV) hH hL hl (zv_sR_mk ⟨xx, rfl, ex⟩ hs))
theorem ziload {i : Nat} {x : Int} (hd : y.2.2.2.2[k]? = some (pc, .iload i, 2, pc')) (hx : ls[i]? = some (some (zI x))) (kk : zV Γ y f mc ms Q G u pc' ls (zI x :: st) σ) : zV Γ y f mc ms Q G u pc ls st σ := by
  intro hm he p l e s m args below meth c X H locs lsA stV hH hL hl hs
  obtain ⟨hdec, rfl⟩ := zv_dec hm hd
  obtain ⟨v, hv, xx, rfl, ex⟩ := zv_lR_at hl hx
  exact lv_iload X.1 X.2.1 hdec hv (kk hm he p l e s m args below meth c X H locs lsA (_ :: stV) hH hL hl (zv_sR_mk ⟨xx, rfl, ex⟩ hs))
theorem zlload {i : Nat} {x : Int} (hd : y.2.2.2.2[k]? = some (pc, .lload i, 2, pc')) (hx : ls[i]? = some (some (zL x))) (kk : zV Γ y f mc ms Q G u pc' ls (zL x :: st) σ) : zV Γ y f mc ms Q G u pc ls st σ := by
  intro hm he p l e s m args below meth c X H locs lsA stV hH hL hl hs
  obtain ⟨hdec, rfl⟩ := zv_dec hm hd
  obtain ⟨v, hv, xx, rfl, ex⟩ := zv_lR_at hl hx
  exact lv_lload X.1 X.2.1 hdec hv (kk hm he p l e s m args below meth c X H locs lsA (_ :: stV) hH hL hl (zv_sR_mk ⟨xx, rfl, ex⟩ hs))
theorem zaload_n {i : Fin 4} {x : Int} (hd : y.2.2.2.2[k]? = some (pc, .aload_n i, 1, pc')) (hx : ls[i.val]? = some (some (zR x))) (kk : zV Γ y f mc ms Q G u pc' ls (zR x :: st) σ) : zV Γ y f mc ms Q G u pc ls st σ := by
  intro hm he p l e s m args below meth c X H locs lsA stV hH hL hl hs
  obtain ⟨hdec, rfl⟩ := zv_dec hm hd
  obtain ⟨v, hv, h⟩ := zv_lR_at hl hx
  rcases h with ⟨a, rfl⟩ | ⟨a, rfl⟩
  · exact lv_aload_nN X.1 X.2.1 hdec rfl hv (kk hm he p l e s m args below meth c X H locs lsA (_ :: stV) hH hL hl (zv_sR_mk (Or.inl ⟨a, rfl⟩) hs))
  · exact lv_aload_n X.1 X.2.1 hdec rfl hv (kk hm he p l e s m args below meth c X H locs lsA (_ :: stV) hH hL hl (zv_sR_mk (Or.inr ⟨a, rfl⟩) hs))
theorem zaload {i : Nat} {x : Int} (hd : y.2.2.2.2[k]? = some (pc, .aload i, 2, pc')) (hx : ls[i]? = some (some (zR x))) (kk : zV Γ y f mc ms Q G u pc' ls (zR x :: st) σ) : zV Γ y f mc ms Q G u pc ls st σ := by
  intro hm he p l e s m args below meth c X H locs lsA stV hH hL hl hs
  obtain ⟨hdec, rfl⟩ := zv_dec hm hd
  obtain ⟨v, hv, h⟩ := zv_lR_at hl hx
  rcases h with ⟨a, rfl⟩ | ⟨a, rfl⟩
  · exact lv_aloadN X.1 X.2.1 hdec hv (kk hm he p l e s m args below meth c X H locs lsA (_ :: stV) hH hL hl (zv_sR_mk (Or.inl ⟨a, rfl⟩) hs))
  · exact lv_aload X.1 X.2.1 hdec hv (kk hm he p l e s m args below meth c X H locs lsA (_ :: stV) hH hL hl (zv_sR_mk (Or.inr ⟨a, rfl⟩) hs))
theorem zistore_n {i : Fin 4} {x : Int} {ls' : List (Option zv_A)} (hd : y.2.2.2.2[k]? = some (pc, .istore_n i, 1, pc')) (hi : i.val < ls.length) (hls : zv_s1 ls i.val (zI x) = ls') (kk : zV Γ y f mc ms Q G u pc' ls' st σ) : zV Γ y f mc ms Q G u pc ls (zI x :: st) σ := by
  intro hm he p l e s m args below meth c X H locs lsA stV hH hL hl hs
  obtain ⟨hdec, rfl⟩ := zv_dec hm hd
  subst hls
  obtain ⟨v, r, rfl, ⟨x', rfl, ex⟩, hs1⟩ := zv_sR_cons hs
  have ex : x'.toInt = x := ex
  obtain ⟨hlen, lv, h1, h2⟩ := hl
  exact lv_istore_n X.1 X.2.1 hdec rfl h1 (by rw [← hlen]; exact hi) rfl (fun lsB hB => kk hm he p l e s m args below meth c X H locs lsB r hH hL (zv_lR_s1 (lsA := lsA) hlen h2 ⟨x', rfl, ex⟩ hB) hs1)
theorem zistore {i : Nat} {x : Int} {ls' : List (Option zv_A)} (hd : y.2.2.2.2[k]? = some (pc, .istore i, 2, pc')) (hi : i < ls.length) (hls : zv_s1 ls i (zI x) = ls') (kk : zV Γ y f mc ms Q G u pc' ls' st σ) : zV Γ y f mc ms Q G u pc ls (zI x :: st) σ := by
  intro hm he p l e s m args below meth c X H locs lsA stV hH hL hl hs
  obtain ⟨hdec, rfl⟩ := zv_dec hm hd
  subst hls
  obtain ⟨v, r, rfl, ⟨x', rfl, ex⟩, hs1⟩ := zv_sR_cons hs
  have ex : x'.toInt = x := ex
  obtain ⟨hlen, lv, h1, h2⟩ := hl
  exact lv_istore X.1 X.2.1 hdec h1 (by rw [← hlen]; exact hi) rfl (fun lsB hB => kk hm he p l e s m args below meth c X H locs lsB r hH hL (zv_lR_s1 (lsA := lsA) hlen h2 ⟨x', rfl, ex⟩ hB) hs1)
theorem zlstore_n {i : Fin 4} {x : Int} {ls' : List (Option zv_A)} (hd : y.2.2.2.2[k]? = some (pc, .lstore_n i, 1, pc')) (hi : i.val + 1 < ls.length) (hls : zv_s2 ls i.val (zL x) = ls') (kk : zV Γ y f mc ms Q G u pc' ls' st σ) : zV Γ y f mc ms Q G u pc ls (zL x :: st) σ := by
  intro hm he p l e s m args below meth c X H locs lsA stV hH hL hl hs
  obtain ⟨hdec, rfl⟩ := zv_dec hm hd
  subst hls
  obtain ⟨v, r, rfl, ⟨x', rfl, ex⟩, hs1⟩ := zv_sR_cons hs
  have ex : x'.toInt = x := ex
  obtain ⟨hlen, lv, h1, h2⟩ := hl
  exact lv_lstore_n X.1 X.2.1 hdec rfl h1 (by rw [← hlen]; exact hi) rfl (fun lsB hB => kk hm he p l e s m args below meth c X H locs lsB r hH hL (zv_lR_s2 (lsA := lsA) hlen h2 ⟨x', rfl, ex⟩ hB) hs1)
theorem zlstore {i : Nat} {x : Int} {ls' : List (Option zv_A)} (hd : y.2.2.2.2[k]? = some (pc, .lstore i, 2, pc')) (hi : i + 1 < ls.length) (hls : zv_s2 ls i (zL x) = ls') (kk : zV Γ y f mc ms Q G u pc' ls' st σ) : zV Γ y f mc ms Q G u pc ls (zL x :: st) σ := by
  intro hm he p l e s m args below meth c X H locs lsA stV hH hL hl hs
  obtain ⟨hdec, rfl⟩ := zv_dec hm hd
  subst hls
  obtain ⟨v, r, rfl, ⟨x', rfl, ex⟩, hs1⟩ := zv_sR_cons hs
  have ex : x'.toInt = x := ex
  obtain ⟨hlen, lv, h1, h2⟩ := hl
  exact lv_lstore X.1 X.2.1 hdec h1 (by rw [← hlen]; exact hi) rfl (fun lsB hB => kk hm he p l e s m args below meth c X H locs lsB r hH hL (zv_lR_s2 (lsA := lsA) hlen h2 ⟨x', rfl, ex⟩ hB) hs1)
theorem zastore_n {i : Fin 4} {x : Int} {ls' : List (Option zv_A)} (hd : y.2.2.2.2[k]? = some (pc, .astore_n i, 1, pc')) (hi : i.val < ls.length) (hls : zv_s1 ls i.val (zR x) = ls') (kk : zV Γ y f mc ms Q G u pc' ls' st σ) : zV Γ y f mc ms Q G u pc ls (zR x :: st) σ := by
  intro hm he p l e s m args below meth c X H locs lsA stV hH hL hl hs
  obtain ⟨hdec, rfl⟩ := zv_dec hm hd
  subst hls
  obtain ⟨v, r, rfl, h, hs1⟩ := zv_sR_cons hs
  obtain ⟨hlen, lv, h1, h2⟩ := hl
  rcases h with ⟨a, rfl⟩ | ⟨a, rfl⟩
  · exact lv_astore_nN X.1 X.2.1 hdec rfl h1 (by rw [← hlen]; exact hi) rfl (fun lsB hB => kk hm he p l e s m args below meth c X H locs lsB r hH hL (zv_lR_s1 (lsA := lsA) hlen h2 (Or.inl ⟨a, rfl⟩) hB) hs1)
  · exact lv_astore_n X.1 X.2.1 hdec rfl h1 (by rw [← hlen]; exact hi) rfl (fun lsB hB => kk hm he p l e s m args below meth c X H locs lsB r hH hL (zv_lR_s1 (lsA := lsA) hlen h2 (Or.inr ⟨a, rfl⟩) hB) hs1)
theorem zastore {i : Nat} {x : Int} {ls' : List (Option zv_A)} (hd : y.2.2.2.2[k]? = some (pc, .astore i, 2, pc')) (hi : i < ls.length) (hls : zv_s1 ls i (zR x) = ls') (kk : zV Γ y f mc ms Q G u pc' ls' st σ) : zV Γ y f mc ms Q G u pc ls (zR x :: st) σ := by
  intro hm he p l e s m args below meth c X H locs lsA stV hH hL hl hs
  obtain ⟨hdec, rfl⟩ := zv_dec hm hd
  subst hls
  obtain ⟨v, r, rfl, h, hs1⟩ := zv_sR_cons hs
  obtain ⟨hlen, lv, h1, h2⟩ := hl
  rcases h with ⟨a, rfl⟩ | ⟨a, rfl⟩
  · exact lv_astoreN X.1 X.2.1 hdec h1 (by rw [← hlen]; exact hi) rfl (fun lsB hB => kk hm he p l e s m args below meth c X H locs lsB r hH hL (zv_lR_s1 (lsA := lsA) hlen h2 (Or.inl ⟨a, rfl⟩) hB) hs1)
  · exact lv_astore X.1 X.2.1 hdec h1 (by rw [← hlen]; exact hi) rfl (fun lsB hB => kk hm he p l e s m args below meth c X H locs lsB r hH hL (zv_lR_s1 (lsA := lsA) hlen h2 (Or.inr ⟨a, rfl⟩) hB) hs1)
theorem ziconst {n : Int} (hd : y.2.2.2.2[k]? = some (pc, .iconst n, 1, pc')) (hn : -2147483648 ≤ n ∧ n ≤ 2147483647) (kk : zV Γ y f mc ms Q G u pc' ls (zI n :: st) σ) : zV Γ y f mc ms Q G u pc ls st σ := by
  intro hm he p l e s m args below meth c X H locs lsA stV hH hL hl hs
  obtain ⟨hdec, rfl⟩ := zv_dec hm hd
  exact lv_iconst X.1 X.2.1 hdec rfl (kk hm he p l e s m args below meth c X H locs lsA (_ :: stV) hH hL hl (zv_sR_mk (zv_mI (by rw [Int32.toInt_ofInt, w32_b]; exact w32_id hn.1 hn.2)) hs))
theorem zbipush {n : Int} (hd : y.2.2.2.2[k]? = some (pc, .bipush n, 2, pc')) (hn : (Int8.ofInt n).toInt32.toInt = n) (kk : zV Γ y f mc ms Q G u pc' ls (zI n :: st) σ) : zV Γ y f mc ms Q G u pc ls st σ := by
  intro hm he p l e s m args below meth c X H locs lsA stV hH hL hl hs
  obtain ⟨hdec, rfl⟩ := zv_dec hm hd
  exact lv_bipush X.1 X.2.1 hdec rfl (kk hm he p l e s m args below meth c X H locs lsA (_ :: stV) hH hL hl (zv_sR_mk (zv_mI hn) hs))
theorem zsipush {n : Int} (hd : y.2.2.2.2[k]? = some (pc, .sipush n, 3, pc')) (hn : (Int16.ofInt n).toInt32.toInt = n) (kk : zV Γ y f mc ms Q G u pc' ls (zI n :: st) σ) : zV Γ y f mc ms Q G u pc ls st σ := by
  intro hm he p l e s m args below meth c X H locs lsA stV hH hL hl hs
  obtain ⟨hdec, rfl⟩ := zv_dec hm hd
  exact lv_sipush X.1 X.2.1 hdec rfl (kk hm he p l e s m args below meth c X H locs lsA (_ :: stV) hH hL hl (zv_sR_mk (zv_mI hn) hs))
theorem zlconst {n : Fin 2} {z : Int} (hd : y.2.2.2.2[k]? = some (pc, .lconst n, 1, pc')) (hn : (Int64.ofNat n.val).toInt = z) (kk : zV Γ y f mc ms Q G u pc' ls (zL z :: st) σ) : zV Γ y f mc ms Q G u pc ls st σ := by
  intro hm he p l e s m args below meth c X H locs lsA stV hH hL hl hs
  obtain ⟨hdec, rfl⟩ := zv_dec hm hd
  exact lv_lconst X.1 X.2.1 hdec rfl (kk hm he p l e s m args below meth c X H locs lsA (_ :: stV) hH hL hl (zv_sR_mk (zv_mL hn) hs))
theorem zv_word {w : Cond} {args : Array Value} {s : State} (he : zv_e Γ) (hW : Γ.1.WarmedH s.vm) (hg : goodWord w = true) (hw : w ∈ lw_tbl) : w.before args s = true := word_at hW (good_of_word hg) (he.1 w hw)
theorem zldc {idx : Nat} {n : Int32} {z : Int} (hd : y.2.2.2.2[k]? = some (pc, .ldc idx, 2, pc')) (hw : Cond.constant y.1.cls idx n ∈ lw_tbl) (hn : n.toInt = z) (kk : zV Γ y f mc ms Q G u pc' ls (zI z :: st) σ) : zV Γ y f mc ms Q G u pc ls st σ := by
  intro hm he p l e s m args below meth c X H locs lsA stV hH hL hl hs
  obtain ⟨hdec, rfl⟩ := zv_dec hm hd
  exact lv_ldc X.1 X.2.1 X.2.2.2.2.2.2.1 (zv_word he X.2.2.2.2.2.2.2 rfl hw) hdec (kk hm he p l e s m args below meth c X H locs lsA (_ :: stV) hH hL hl (zv_sR_mk (zv_mI hn) hs))
theorem zldcw {idx : Nat} {n : Int32} {z : Int} (hd : y.2.2.2.2[k]? = some (pc, .ldc_w idx, 3, pc')) (hw : Cond.constant y.1.cls idx n ∈ lw_tbl) (hn : n.toInt = z) (kk : zV Γ y f mc ms Q G u pc' ls (zI z :: st) σ) : zV Γ y f mc ms Q G u pc ls st σ := by
  intro hm he p l e s m args below meth c X H locs lsA stV hH hL hl hs
  obtain ⟨hdec, rfl⟩ := zv_dec hm hd
  exact lv_ldcw X.1 X.2.1 X.2.2.2.2.2.2.1 (zv_word he X.2.2.2.2.2.2.2 rfl hw) hdec (kk hm he p l e s m args below meth c X H locs lsA (_ :: stV) hH hL hl (zv_sR_mk (zv_mI hn) hs))
theorem zldc2 {idx : Nat} {n : Int64} {z : Int} (hd : y.2.2.2.2[k]? = some (pc, .ldc2_w idx, 3, pc')) (hw : Cond.constantLong y.1.cls idx n ∈ lw_tbl) (hn : n.toInt = z) (kk : zV Γ y f mc ms Q G u pc' ls (zL z :: st) σ) : zV Γ y f mc ms Q G u pc ls st σ := by
  intro hm he p l e s m args below meth c X H locs lsA stV hH hL hl hs
  obtain ⟨hdec, rfl⟩ := zv_dec hm hd
  exact lv_ldc2 X.1 X.2.1 X.2.2.2.2.2.2.1 (zv_word he X.2.2.2.2.2.2.2 rfl hw) hdec (kk hm he p l e s m args below meth c X H locs lsA (_ :: stV) hH hL hl (zv_sR_mk (zv_mL hn) hs))
theorem ziadd {x y0 : Int} (hd : y.2.2.2.2[k]? = some (pc, .iadd, 1, pc')) (kk : zV Γ y f mc ms Q G u pc' ls (zI (w32 (x + y0)) :: st) σ) : zV Γ y f mc ms Q G u pc ls (zI y0 :: zI x :: st) σ := by
  intro hm he p l e s m args below meth c X H locs lsA stV hH hL hl hs
  obtain ⟨hdec, rfl⟩ := zv_dec hm hd
  obtain ⟨v, r, rfl, ⟨y', rfl, ey⟩, hs1⟩ := zv_sR_cons hs
  have ey : y'.toInt = y0 := ey
  obtain ⟨v, r, rfl, ⟨x', rfl, ex⟩, hs2⟩ := zv_sR_cons hs1
  have ex : x'.toInt = x := ex
  exact lv_iadd X.1 X.2.1 hdec (kk hm he p l e s m args below meth c X H locs lsA (_ :: r) hH hL hl (zv_sR_mk (zv_mI (by rw [Int32.toInt_add, w32_b, ex, ey])) hs2))
theorem zisub {x y0 : Int} (hd : y.2.2.2.2[k]? = some (pc, .isub, 1, pc')) (kk : zV Γ y f mc ms Q G u pc' ls (zI (w32 (x - y0)) :: st) σ) : zV Γ y f mc ms Q G u pc ls (zI y0 :: zI x :: st) σ := by
  intro hm he p l e s m args below meth c X H locs lsA stV hH hL hl hs
  obtain ⟨hdec, rfl⟩ := zv_dec hm hd
  obtain ⟨v, r, rfl, ⟨y', rfl, ey⟩, hs1⟩ := zv_sR_cons hs
  have ey : y'.toInt = y0 := ey
  obtain ⟨v, r, rfl, ⟨x', rfl, ex⟩, hs2⟩ := zv_sR_cons hs1
  have ex : x'.toInt = x := ex
  exact lv_isub X.1 X.2.1 hdec (kk hm he p l e s m args below meth c X H locs lsA (_ :: r) hH hL hl (zv_sR_mk (zv_mI (by rw [Int32.toInt_sub, w32_b, ex, ey])) hs2))
theorem zimul {x y0 : Int} (hd : y.2.2.2.2[k]? = some (pc, .imul, 1, pc')) (kk : zV Γ y f mc ms Q G u pc' ls (zI (w32 (x * y0)) :: st) σ) : zV Γ y f mc ms Q G u pc ls (zI y0 :: zI x :: st) σ := by
  intro hm he p l e s m args below meth c X H locs lsA stV hH hL hl hs
  obtain ⟨hdec, rfl⟩ := zv_dec hm hd
  obtain ⟨v, r, rfl, ⟨y', rfl, ey⟩, hs1⟩ := zv_sR_cons hs
  have ey : y'.toInt = y0 := ey
  obtain ⟨v, r, rfl, ⟨x', rfl, ex⟩, hs2⟩ := zv_sR_cons hs1
  have ex : x'.toInt = x := ex
  exact lv_imul X.1 X.2.1 hdec (kk hm he p l e s m args below meth c X H locs lsA (_ :: r) hH hL hl (zv_sR_mk (zv_mI (by rw [Int32.toInt_mul, w32_b, ex, ey])) hs2))
theorem zidiv {x y0 : Int} (hd : y.2.2.2.2[k]? = some (pc, .idiv, 1, pc')) (hne : y0 ≠ 0) (kk : zV Γ y f mc ms Q G u pc' ls (zI (w32 (x.tdiv y0)) :: st) σ) : zV Γ y f mc ms Q G u pc ls (zI y0 :: zI x :: st) σ := by
  intro hm he p l e s m args below meth c X H locs lsA stV hH hL hl hs
  obtain ⟨hdec, rfl⟩ := zv_dec hm hd
  obtain ⟨v, r, rfl, ⟨y', rfl, ey⟩, hs1⟩ := zv_sR_cons hs
  have ey : y'.toInt = y0 := ey
  obtain ⟨v, r, rfl, ⟨x', rfl, ex⟩, hs2⟩ := zv_sR_cons hs1
  have ex : x'.toInt = x := ex
  exact lv_idiv X.1 X.2.1 hdec (fun q => hne (by rw [← ey, q]; rfl)) (kk hm he p l e s m args below meth c X H locs lsA (_ :: r) hH hL hl (zv_sR_mk (zv_mI (by rw [Int32.toInt_div, w32_b, ex, ey])) hs2))
theorem zirem {x y0 : Int} (hd : y.2.2.2.2[k]? = some (pc, .irem, 1, pc')) (hne : y0 ≠ 0) (kk : zV Γ y f mc ms Q G u pc' ls (zI (x.tmod y0) :: st) σ) : zV Γ y f mc ms Q G u pc ls (zI y0 :: zI x :: st) σ := by
  intro hm he p l e s m args below meth c X H locs lsA stV hH hL hl hs
  obtain ⟨hdec, rfl⟩ := zv_dec hm hd
  obtain ⟨v, r, rfl, ⟨y', rfl, ey⟩, hs1⟩ := zv_sR_cons hs
  have ey : y'.toInt = y0 := ey
  obtain ⟨v, r, rfl, ⟨x', rfl, ex⟩, hs2⟩ := zv_sR_cons hs1
  have ex : x'.toInt = x := ex
  exact lv_irem X.1 X.2.1 hdec (fun q => hne (by rw [← ey, q]; rfl)) (kk hm he p l e s m args below meth c X H locs lsA (_ :: r) hH hL hl (zv_sR_mk (zv_mI (by rw [rem_toInt, ex, ey])) hs2))
theorem ziand {x y0 : Int} (hd : y.2.2.2.2[k]? = some (pc, .iand, 1, pc')) (kk : zV Γ y f mc ms Q G u pc' ls (zI (zand x y0) :: st) σ) : zV Γ y f mc ms Q G u pc ls (zI y0 :: zI x :: st) σ := by
  intro hm he p l e s m args below meth c X H locs lsA stV hH hL hl hs
  obtain ⟨hdec, rfl⟩ := zv_dec hm hd
  obtain ⟨v, r, rfl, ⟨y', rfl, ey⟩, hs1⟩ := zv_sR_cons hs
  have ey : y'.toInt = y0 := ey
  obtain ⟨v, r, rfl, ⟨x', rfl, ex⟩, hs2⟩ := zv_sR_cons hs1
  have ex : x'.toInt = x := ex
  exact lv_iand X.1 X.2.1 hdec (kk hm he p l e s m args below meth c X H locs lsA (_ :: r) hH hL hl (zv_sR_mk (zv_mI (by unfold zand; rw [← ex, ← ey, Int32.ofInt_toInt, Int32.ofInt_toInt])) hs2))
theorem zior {x y0 : Int} (hd : y.2.2.2.2[k]? = some (pc, .ior, 1, pc')) (kk : zV Γ y f mc ms Q G u pc' ls (zI (zor x y0) :: st) σ) : zV Γ y f mc ms Q G u pc ls (zI y0 :: zI x :: st) σ := by
  intro hm he p l e s m args below meth c X H locs lsA stV hH hL hl hs
  obtain ⟨hdec, rfl⟩ := zv_dec hm hd
  obtain ⟨v, r, rfl, ⟨y', rfl, ey⟩, hs1⟩ := zv_sR_cons hs
  have ey : y'.toInt = y0 := ey
  obtain ⟨v, r, rfl, ⟨x', rfl, ex⟩, hs2⟩ := zv_sR_cons hs1
  have ex : x'.toInt = x := ex
  exact lv_ior X.1 X.2.1 hdec (kk hm he p l e s m args below meth c X H locs lsA (_ :: r) hH hL hl (zv_sR_mk (zv_mI (by unfold zor; rw [← ex, ← ey, Int32.ofInt_toInt, Int32.ofInt_toInt])) hs2))
theorem zixor {x y0 : Int} (hd : y.2.2.2.2[k]? = some (pc, .ixor, 1, pc')) (kk : zV Γ y f mc ms Q G u pc' ls (zI (zxor x y0) :: st) σ) : zV Γ y f mc ms Q G u pc ls (zI y0 :: zI x :: st) σ := by
  intro hm he p l e s m args below meth c X H locs lsA stV hH hL hl hs
  obtain ⟨hdec, rfl⟩ := zv_dec hm hd
  obtain ⟨v, r, rfl, ⟨y', rfl, ey⟩, hs1⟩ := zv_sR_cons hs
  have ey : y'.toInt = y0 := ey
  obtain ⟨v, r, rfl, ⟨x', rfl, ex⟩, hs2⟩ := zv_sR_cons hs1
  have ex : x'.toInt = x := ex
  exact lv_ixor X.1 X.2.1 hdec (kk hm he p l e s m args below meth c X H locs lsA (_ :: r) hH hL hl (zv_sR_mk (zv_mI (by unfold zxor; rw [← ex, ← ey, Int32.ofInt_toInt, Int32.ofInt_toInt])) hs2))
theorem zishl {x y0 : Int} (hd : y.2.2.2.2[k]? = some (pc, .ishl, 1, pc')) (kk : zV Γ y f mc ms Q G u pc' ls (zI (zshl x y0) :: st) σ) : zV Γ y f mc ms Q G u pc ls (zI y0 :: zI x :: st) σ := by
  intro hm he p l e s m args below meth c X H locs lsA stV hH hL hl hs
  obtain ⟨hdec, rfl⟩ := zv_dec hm hd
  obtain ⟨v, r, rfl, ⟨y', rfl, ey⟩, hs1⟩ := zv_sR_cons hs
  have ey : y'.toInt = y0 := ey
  obtain ⟨v, r, rfl, ⟨x', rfl, ex⟩, hs2⟩ := zv_sR_cons hs1
  have ex : x'.toInt = x := ex
  exact lv_ishl X.1 X.2.1 hdec (kk hm he p l e s m args below meth c X H locs lsA (_ :: r) hH hL hl (zv_sR_mk (zv_mI (by unfold zshl; rw [← ex, ← ey, Int32.ofInt_toInt, Int32.ofInt_toInt])) hs2))
theorem zishr {x y0 : Int} (hd : y.2.2.2.2[k]? = some (pc, .ishr, 1, pc')) (kk : zV Γ y f mc ms Q G u pc' ls (zI (zshr x y0) :: st) σ) : zV Γ y f mc ms Q G u pc ls (zI y0 :: zI x :: st) σ := by
  intro hm he p l e s m args below meth c X H locs lsA stV hH hL hl hs
  obtain ⟨hdec, rfl⟩ := zv_dec hm hd
  obtain ⟨v, r, rfl, ⟨y', rfl, ey⟩, hs1⟩ := zv_sR_cons hs
  have ey : y'.toInt = y0 := ey
  obtain ⟨v, r, rfl, ⟨x', rfl, ex⟩, hs2⟩ := zv_sR_cons hs1
  have ex : x'.toInt = x := ex
  exact lv_ishr X.1 X.2.1 hdec (kk hm he p l e s m args below meth c X H locs lsA (_ :: r) hH hL hl (zv_sR_mk (zv_mI (by unfold zshr; rw [← ex, ← ey, Int32.ofInt_toInt, Int32.ofInt_toInt])) hs2))
theorem ziushr {x y0 : Int} (hd : y.2.2.2.2[k]? = some (pc, .iushr, 1, pc')) (kk : zV Γ y f mc ms Q G u pc' ls (zI (zushr x y0) :: st) σ) : zV Γ y f mc ms Q G u pc ls (zI y0 :: zI x :: st) σ := by
  intro hm he p l e s m args below meth c X H locs lsA stV hH hL hl hs
  obtain ⟨hdec, rfl⟩ := zv_dec hm hd
  obtain ⟨v, r, rfl, ⟨y', rfl, ey⟩, hs1⟩ := zv_sR_cons hs
  have ey : y'.toInt = y0 := ey
  obtain ⟨v, r, rfl, ⟨x', rfl, ex⟩, hs2⟩ := zv_sR_cons hs1
  have ex : x'.toInt = x := ex
  exact lv_iushr X.1 X.2.1 hdec rfl (kk hm he p l e s m args below meth c X H locs lsA (_ :: r) hH hL hl (zv_sR_mk (zv_mI (by unfold zushr; rw [← ex, ← ey, Int32.ofInt_toInt, Int32.ofInt_toInt])) hs2))
theorem zladd {x y0 : Int} (hd : y.2.2.2.2[k]? = some (pc, .ladd, 1, pc')) (kk : zV Γ y f mc ms Q G u pc' ls (zL (w64 (x + y0)) :: st) σ) : zV Γ y f mc ms Q G u pc ls (zL y0 :: zL x :: st) σ := by
  intro hm he p l e s m args below meth c X H locs lsA stV hH hL hl hs
  obtain ⟨hdec, rfl⟩ := zv_dec hm hd
  obtain ⟨v, r, rfl, ⟨y', rfl, ey⟩, hs1⟩ := zv_sR_cons hs
  have ey : y'.toInt = y0 := ey
  obtain ⟨v, r, rfl, ⟨x', rfl, ex⟩, hs2⟩ := zv_sR_cons hs1
  have ex : x'.toInt = x := ex
  exact lv_ladd X.1 X.2.1 hdec (kk hm he p l e s m args below meth c X H locs lsA (_ :: r) hH hL hl (zv_sR_mk (zv_mL (by rw [Int64.toInt_add, w64_b, ex, ey])) hs2))
theorem zlsub {x y0 : Int} (hd : y.2.2.2.2[k]? = some (pc, .lsub, 1, pc')) (kk : zV Γ y f mc ms Q G u pc' ls (zL (w64 (x - y0)) :: st) σ) : zV Γ y f mc ms Q G u pc ls (zL y0 :: zL x :: st) σ := by
  intro hm he p l e s m args below meth c X H locs lsA stV hH hL hl hs
  obtain ⟨hdec, rfl⟩ := zv_dec hm hd
  obtain ⟨v, r, rfl, ⟨y', rfl, ey⟩, hs1⟩ := zv_sR_cons hs
  have ey : y'.toInt = y0 := ey
  obtain ⟨v, r, rfl, ⟨x', rfl, ex⟩, hs2⟩ := zv_sR_cons hs1
  have ex : x'.toInt = x := ex
  exact lv_lsub X.1 X.2.1 hdec (kk hm he p l e s m args below meth c X H locs lsA (_ :: r) hH hL hl (zv_sR_mk (zv_mL (by rw [Int64.toInt_sub, w64_b, ex, ey])) hs2))
theorem zlmul {x y0 : Int} (hd : y.2.2.2.2[k]? = some (pc, .lmul, 1, pc')) (kk : zV Γ y f mc ms Q G u pc' ls (zL (w64 (x * y0)) :: st) σ) : zV Γ y f mc ms Q G u pc ls (zL y0 :: zL x :: st) σ := by
  intro hm he p l e s m args below meth c X H locs lsA stV hH hL hl hs
  obtain ⟨hdec, rfl⟩ := zv_dec hm hd
  obtain ⟨v, r, rfl, ⟨y', rfl, ey⟩, hs1⟩ := zv_sR_cons hs
  have ey : y'.toInt = y0 := ey
  obtain ⟨v, r, rfl, ⟨x', rfl, ex⟩, hs2⟩ := zv_sR_cons hs1
  have ex : x'.toInt = x := ex
  exact lv_lmul X.1 X.2.1 hdec (kk hm he p l e s m args below meth c X H locs lsA (_ :: r) hH hL hl (zv_sR_mk (zv_mL (by rw [Int64.toInt_mul, w64_b, ex, ey])) hs2))
theorem zldiv {x y0 : Int} (hd : y.2.2.2.2[k]? = some (pc, .ldiv, 1, pc')) (hne : y0 ≠ 0) (kk : zV Γ y f mc ms Q G u pc' ls (zL (w64 (x.tdiv y0)) :: st) σ) : zV Γ y f mc ms Q G u pc ls (zL y0 :: zL x :: st) σ := by
  intro hm he p l e s m args below meth c X H locs lsA stV hH hL hl hs
  obtain ⟨hdec, rfl⟩ := zv_dec hm hd
  obtain ⟨v, r, rfl, ⟨y', rfl, ey⟩, hs1⟩ := zv_sR_cons hs
  have ey : y'.toInt = y0 := ey
  obtain ⟨v, r, rfl, ⟨x', rfl, ex⟩, hs2⟩ := zv_sR_cons hs1
  have ex : x'.toInt = x := ex
  exact lv_ldiv X.1 X.2.1 hdec (fun q => hne (by rw [← ey, q]; rfl)) (kk hm he p l e s m args below meth c X H locs lsA (_ :: r) hH hL hl (zv_sR_mk (zv_mL (by rw [Int64.toInt_div, w64_b, ex, ey])) hs2))
theorem zlrem {x y0 : Int} (hd : y.2.2.2.2[k]? = some (pc, .lrem, 1, pc')) (hne : y0 ≠ 0) (kk : zV Γ y f mc ms Q G u pc' ls (zL (x.tmod y0) :: st) σ) : zV Γ y f mc ms Q G u pc ls (zL y0 :: zL x :: st) σ := by
  intro hm he p l e s m args below meth c X H locs lsA stV hH hL hl hs
  obtain ⟨hdec, rfl⟩ := zv_dec hm hd
  obtain ⟨v, r, rfl, ⟨y', rfl, ey⟩, hs1⟩ := zv_sR_cons hs
  have ey : y'.toInt = y0 := ey
  obtain ⟨v, r, rfl, ⟨x', rfl, ex⟩, hs2⟩ := zv_sR_cons hs1
  have ex : x'.toInt = x := ex
  exact lv_lrem X.1 X.2.1 hdec (fun q => hne (by rw [← ey, q]; rfl)) (kk hm he p l e s m args below meth c X H locs lsA (_ :: r) hH hL hl (zv_sR_mk (zv_mL (by rw [zrem64, ex, ey])) hs2))
theorem zland {x y0 : Int} (hd : y.2.2.2.2[k]? = some (pc, .land, 1, pc')) (kk : zV Γ y f mc ms Q G u pc' ls (zL (zandL x y0) :: st) σ) : zV Γ y f mc ms Q G u pc ls (zL y0 :: zL x :: st) σ := by
  intro hm he p l e s m args below meth c X H locs lsA stV hH hL hl hs
  obtain ⟨hdec, rfl⟩ := zv_dec hm hd
  obtain ⟨v, r, rfl, ⟨y', rfl, ey⟩, hs1⟩ := zv_sR_cons hs
  have ey : y'.toInt = y0 := ey
  obtain ⟨v, r, rfl, ⟨x', rfl, ex⟩, hs2⟩ := zv_sR_cons hs1
  have ex : x'.toInt = x := ex
  exact lv_land X.1 X.2.1 hdec (kk hm he p l e s m args below meth c X H locs lsA (_ :: r) hH hL hl (zv_sR_mk (zv_mL (by unfold zandL; rw [← ex, ← ey, Int64.ofInt_toInt, Int64.ofInt_toInt])) hs2))
theorem zlor {x y0 : Int} (hd : y.2.2.2.2[k]? = some (pc, .lor, 1, pc')) (kk : zV Γ y f mc ms Q G u pc' ls (zL (zorL x y0) :: st) σ) : zV Γ y f mc ms Q G u pc ls (zL y0 :: zL x :: st) σ := by
  intro hm he p l e s m args below meth c X H locs lsA stV hH hL hl hs
  obtain ⟨hdec, rfl⟩ := zv_dec hm hd
  obtain ⟨v, r, rfl, ⟨y', rfl, ey⟩, hs1⟩ := zv_sR_cons hs
  have ey : y'.toInt = y0 := ey
  obtain ⟨v, r, rfl, ⟨x', rfl, ex⟩, hs2⟩ := zv_sR_cons hs1
  have ex : x'.toInt = x := ex
  exact lv_lor X.1 X.2.1 hdec (kk hm he p l e s m args below meth c X H locs lsA (_ :: r) hH hL hl (zv_sR_mk (zv_mL (by unfold zorL; rw [← ex, ← ey, Int64.ofInt_toInt, Int64.ofInt_toInt])) hs2))
theorem zlxor {x y0 : Int} (hd : y.2.2.2.2[k]? = some (pc, .lxor, 1, pc')) (kk : zV Γ y f mc ms Q G u pc' ls (zL (zxorL x y0) :: st) σ) : zV Γ y f mc ms Q G u pc ls (zL y0 :: zL x :: st) σ := by
  intro hm he p l e s m args below meth c X H locs lsA stV hH hL hl hs
  obtain ⟨hdec, rfl⟩ := zv_dec hm hd
  obtain ⟨v, r, rfl, ⟨y', rfl, ey⟩, hs1⟩ := zv_sR_cons hs
  have ey : y'.toInt = y0 := ey
  obtain ⟨v, r, rfl, ⟨x', rfl, ex⟩, hs2⟩ := zv_sR_cons hs1
  have ex : x'.toInt = x := ex
  exact lv_lxor X.1 X.2.1 hdec (kk hm he p l e s m args below meth c X H locs lsA (_ :: r) hH hL hl (zv_sR_mk (zv_mL (by unfold zxorL; rw [← ex, ← ey, Int64.ofInt_toInt, Int64.ofInt_toInt])) hs2))
theorem zlshl {x y0 : Int} (hd : y.2.2.2.2[k]? = some (pc, .lshl, 1, pc')) (kk : zV Γ y f mc ms Q G u pc' ls (zL (zshlL x y0) :: st) σ) : zV Γ y f mc ms Q G u pc ls (zI y0 :: zL x :: st) σ := by
  intro hm he p l e s m args below meth c X H locs lsA stV hH hL hl hs
  obtain ⟨hdec, rfl⟩ := zv_dec hm hd
  obtain ⟨v, r, rfl, ⟨y', rfl, ey⟩, hs1⟩ := zv_sR_cons hs
  have ey : y'.toInt = y0 := ey
  obtain ⟨v, r, rfl, ⟨x', rfl, ex⟩, hs2⟩ := zv_sR_cons hs1
  have ex : x'.toInt = x := ex
  exact lv_lshl X.1 X.2.1 hdec rfl (kk hm he p l e s m args below meth c X H locs lsA (_ :: r) hH hL hl (zv_sR_mk (zv_mL (by unfold zshlL; rw [← ex, ← ey, Int64.ofInt_toInt, Int32.ofInt_toInt])) hs2))
theorem zlshr {x y0 : Int} (hd : y.2.2.2.2[k]? = some (pc, .lshr, 1, pc')) (kk : zV Γ y f mc ms Q G u pc' ls (zL (zshrL x y0) :: st) σ) : zV Γ y f mc ms Q G u pc ls (zI y0 :: zL x :: st) σ := by
  intro hm he p l e s m args below meth c X H locs lsA stV hH hL hl hs
  obtain ⟨hdec, rfl⟩ := zv_dec hm hd
  obtain ⟨v, r, rfl, ⟨y', rfl, ey⟩, hs1⟩ := zv_sR_cons hs
  have ey : y'.toInt = y0 := ey
  obtain ⟨v, r, rfl, ⟨x', rfl, ex⟩, hs2⟩ := zv_sR_cons hs1
  have ex : x'.toInt = x := ex
  exact lv_lshr X.1 X.2.1 hdec rfl (kk hm he p l e s m args below meth c X H locs lsA (_ :: r) hH hL hl (zv_sR_mk (zv_mL (by unfold zshrL; rw [← ex, ← ey, Int64.ofInt_toInt, Int32.ofInt_toInt])) hs2))
theorem zi2l {x : Int} (hd : y.2.2.2.2[k]? = some (pc, .i2l, 1, pc')) (kk : zV Γ y f mc ms Q G u pc' ls (zL x :: st) σ) : zV Γ y f mc ms Q G u pc ls (zI x :: st) σ := by
  intro hm he p l e s m args below meth c X H locs lsA stV hH hL hl hs
  obtain ⟨hdec, rfl⟩ := zv_dec hm hd
  obtain ⟨v, r, rfl, ⟨x', rfl, ex⟩, hs1⟩ := zv_sR_cons hs
  have ex : x'.toInt = x := ex
  exact lv_i2l X.1 X.2.1 hdec rfl (kk hm he p l e s m args below meth c X H locs lsA (_ :: r) hH hL hl (zv_sR_mk (zv_mL (by rw [Int32.toInt_toInt64, ex])) hs1))
theorem zl2i {x : Int} (hd : y.2.2.2.2[k]? = some (pc, .l2i, 1, pc')) (kk : zV Γ y f mc ms Q G u pc' ls (zI (w32 x) :: st) σ) : zV Γ y f mc ms Q G u pc ls (zL x :: st) σ := by
  intro hm he p l e s m args below meth c X H locs lsA stV hH hL hl hs
  obtain ⟨hdec, rfl⟩ := zv_dec hm hd
  obtain ⟨v, r, rfl, ⟨x', rfl, ex⟩, hs1⟩ := zv_sR_cons hs
  have ex : x'.toInt = x := ex
  exact lv_l2i X.1 X.2.1 hdec rfl (kk hm he p l e s m args below meth c X H locs lsA (_ :: r) hH hL hl (zv_sR_mk (zv_mI (by rw [Int64.toInt_toInt32, w32_b, ex])) hs1))
theorem zlcmp {x y0 : Int} (hd : y.2.2.2.2[k]? = some (pc, .lcmp, 1, pc')) (kk : zV Γ y f mc ms Q G u pc' ls (zI (zcmp x y0) :: st) σ) : zV Γ y f mc ms Q G u pc ls (zL y0 :: zL x :: st) σ := by
  intro hm he p l e s m args below meth c X H locs lsA stV hH hL hl hs
  obtain ⟨hdec, rfl⟩ := zv_dec hm hd
  obtain ⟨v, r, rfl, ⟨y', rfl, ey⟩, hs1⟩ := zv_sR_cons hs
  have ey : y'.toInt = y0 := ey
  obtain ⟨v, r, rfl, ⟨x', rfl, ex⟩, hs2⟩ := zv_sR_cons hs1
  have ex : x'.toInt = x := ex
  exact W.lcmp X.1 X.2.1 hdec (kk hm he p l e s m args below meth c X H locs lsA (_ :: r) hH hL hl (zv_sR_mk (zv_mI (by rw [zv_cmp, ex, ey])) hs2))
theorem zdup {q : zv_A} (hd : y.2.2.2.2[k]? = some (pc, .dup, 1, pc')) (hq : (q.1 == 1) = false) (kk : zV Γ y f mc ms Q G u pc' ls (q :: q :: st) σ) : zV Γ y f mc ms Q G u pc ls (q :: st) σ := by
  intro hm he p l e s m args below meth c X H locs lsA stV hH hL hl hs
  obtain ⟨hdec, rfl⟩ := zv_dec hm hd
  obtain ⟨v, r, rfl, hv, hs1⟩ := zv_sR_cons hs
  exact lv_dup X.1 X.2.1 hdec (zv_R_cat hv hq) (kk hm he p l e s m args below meth c X H locs lsA (_ :: _ :: r) hH hL hl (zv_sR_mk hv (zv_sR_mk hv hs1)))
theorem zdup2 {q q2 : zv_A} (hd : y.2.2.2.2[k]? = some (pc, .dup2, 1, pc')) (hq : (q.1 == 1) = false) (hq2 : (q2.1 == 1) = false) (kk : zV Γ y f mc ms Q G u pc' ls (q :: q2 :: q :: q2 :: st) σ) : zV Γ y f mc ms Q G u pc ls (q :: q2 :: st) σ := by
  intro hm he p l e s m args below meth c X H locs lsA stV hH hL hl hs
  obtain ⟨hdec, rfl⟩ := zv_dec hm hd
  obtain ⟨v, r, rfl, hv, hs1⟩ := zv_sR_cons hs
  obtain ⟨v2, r, rfl, hv2, hs2⟩ := zv_sR_cons hs1
  exact lv_dup2_11 X.1 X.2.1 hdec (zv_R_cat hv hq) (zv_R_cat hv2 hq2) (kk hm he p l e s m args below meth c X H locs lsA (_ :: _ :: _ :: _ :: r) hH hL hl (zv_sR_mk hv (zv_sR_mk hv2 (zv_sR_mk hv (zv_sR_mk hv2 hs2)))))
theorem zpop {q : zv_A} (hd : y.2.2.2.2[k]? = some (pc, .pop, 1, pc')) (hq : (q.1 == 1) = false) (kk : zV Γ y f mc ms Q G u pc' ls st σ) : zV Γ y f mc ms Q G u pc ls (q :: st) σ := by
  intro hm he p l e s m args below meth c X H locs lsA stV hH hL hl hs
  obtain ⟨hdec, rfl⟩ := zv_dec hm hd
  obtain ⟨v, r, rfl, hv, hs1⟩ := zv_sR_cons hs
  exact lv_pop X.1 X.2.1 hdec (zv_R_cat hv hq) (kk hm he p l e s m args below meth c X H locs lsA r hH hL hl hs1)
theorem zgoto {off : Int} {tgt : Nat} (hd : y.2.2.2.2[k]? = some (pc, .goto off, 3, pc')) (ht : (pc : Int) + off = (tgt : Int)) (kk : zV Γ y f mc ms Q G u tgt ls st σ) : zV Γ y f mc ms Q G u pc ls st σ := by
  intro hm he p l e s m args below meth c X H locs lsA stV hH hL hl hs
  obtain ⟨hdec, rfl⟩ := zv_dec hm hd
  exact lv_goto X.1 X.2.1 hdec ht (kk hm he p l e s m args below meth c X H locs lsA stV hH hL hl hs)
theorem ziinc {i : Nat} {n x : Int} {ls' : List (Option zv_A)} (hd : y.2.2.2.2[k]? = some (pc, .iinc i n, 3, pc')) (hx : ls[i]? = some (some (zI x))) (hn : -2147483648 ≤ n ∧ n ≤ 2147483647) (hls : zv_s1 ls i (zI (w32 (x + n))) = ls') (kk : zV Γ y f mc ms Q G u pc' ls' st σ) : zV Γ y f mc ms Q G u pc ls st σ := by
  intro hm he p l e s m args below meth c X H locs lsA stV hH hL hl hs
  obtain ⟨hdec, rfl⟩ := zv_dec hm hd
  subst hls
  obtain ⟨hlen, lv, h1, h2⟩ := hl
  obtain ⟨v, hv, x', rfl, ex⟩ := h2 i _ hx
  have ex : x'.toInt = x := ex
  obtain ⟨j, hj⟩ := List.getElem?_of_mem hv
  exact lv_iinc X.1 X.2.1 hdec h1 (k := j) hj rfl (by rw [← hlen]; exact (List.getElem?_eq_some_iff.mp hx).1) rfl (fun lsB hB => kk hm he p l e s m args below meth c X H locs lsB stV hH hL (zv_lR_s1 (lsA := lsA) hlen h2 (zv_mI (by rw [Int32.toInt_add, w32_b, Int32.toInt_ofInt, w32_b, w32_id hn.1 hn.2, ex])) hB) hs)
theorem zicmp_eq {x y0 : Int} {off : Int} {tgt : Nat} (hd : y.2.2.2.2[k]? = some (pc, .if_icmp .eq off, 3, pc')) (ht : (pc : Int) + off = (tgt : Int)) (kt : x = y0 → zV Γ y f mc ms Q G u tgt ls st σ) (kf : x ≠ y0 → zV Γ y f mc ms Q G u pc' ls st σ) : zV Γ y f mc ms Q G u pc ls (zI y0 :: zI x :: st) σ := by
  intro hm he p l e s m args below meth c X H locs lsA stV hH hL hl hs
  obtain ⟨hdec, rfl⟩ := zv_dec hm hd
  obtain ⟨v, r, rfl, ⟨y', rfl, ey⟩, hs1⟩ := zv_sR_cons hs
  have ey : y'.toInt = y0 := ey
  obtain ⟨v, r, rfl, ⟨x', rfl, ex⟩, hs2⟩ := zv_sR_cons hs1
  have ex : x'.toInt = x := ex
  exact lv_icmp_eq X.1 X.2.1 hdec ht (fun h => kt (by rw [← ex, ← ey]; simp only [Int32.lt_iff_toInt_lt, Int32.le_iff_toInt_le, ← Int32.toInt_inj] at h; omega) hm he p l e s m args below meth c X H locs lsA r hH hL hl hs2) (fun h => kf (by rw [← ex, ← ey]; simp only [Int32.lt_iff_toInt_lt, Int32.le_iff_toInt_le, ← Int32.toInt_inj] at h; omega) hm he p l e s m args below meth c X H locs lsA r hH hL hl hs2)
theorem zif_eq {x : Int} {off : Int} {tgt : Nat} (hd : y.2.2.2.2[k]? = some (pc, .ifCond .eq off, 3, pc')) (ht : (pc : Int) + off = (tgt : Int)) (kt : x = 0 → zV Γ y f mc ms Q G u tgt ls st σ) (kf : x ≠ 0 → zV Γ y f mc ms Q G u pc' ls st σ) : zV Γ y f mc ms Q G u pc ls (zI x :: st) σ := by
  intro hm he p l e s m args below meth c X H locs lsA stV hH hL hl hs
  obtain ⟨hdec, rfl⟩ := zv_dec hm hd
  obtain ⟨v, r, rfl, ⟨x', rfl, ex⟩, hs1⟩ := zv_sR_cons hs
  have ex : x'.toInt = x := ex
  exact lv_if_eq X.1 X.2.1 hdec ht (fun h => kt (by rw [← ex]; have e0 : (0 : Int32).toInt = 0 := rfl; simp only [Int32.lt_iff_toInt_lt, Int32.le_iff_toInt_le, ← Int32.toInt_inj, e0] at h; omega) hm he p l e s m args below meth c X H locs lsA r hH hL hl hs1) (fun h => kf (by rw [← ex]; have e0 : (0 : Int32).toInt = 0 := rfl; simp only [Int32.lt_iff_toInt_lt, Int32.le_iff_toInt_le, ← Int32.toInt_inj, e0] at h; omega) hm he p l e s m args below meth c X H locs lsA r hH hL hl hs1)
theorem zicmp_ne {x y0 : Int} {off : Int} {tgt : Nat} (hd : y.2.2.2.2[k]? = some (pc, .if_icmp .ne off, 3, pc')) (ht : (pc : Int) + off = (tgt : Int)) (kt : x ≠ y0 → zV Γ y f mc ms Q G u tgt ls st σ) (kf : x = y0 → zV Γ y f mc ms Q G u pc' ls st σ) : zV Γ y f mc ms Q G u pc ls (zI y0 :: zI x :: st) σ := by
  intro hm he p l e s m args below meth c X H locs lsA stV hH hL hl hs
  obtain ⟨hdec, rfl⟩ := zv_dec hm hd
  obtain ⟨v, r, rfl, ⟨y', rfl, ey⟩, hs1⟩ := zv_sR_cons hs
  have ey : y'.toInt = y0 := ey
  obtain ⟨v, r, rfl, ⟨x', rfl, ex⟩, hs2⟩ := zv_sR_cons hs1
  have ex : x'.toInt = x := ex
  exact lv_icmp_ne X.1 X.2.1 hdec ht (fun h => kt (by rw [← ex, ← ey]; simp only [Int32.lt_iff_toInt_lt, Int32.le_iff_toInt_le, ← Int32.toInt_inj] at h; omega) hm he p l e s m args below meth c X H locs lsA r hH hL hl hs2) (fun h => kf (by rw [← ex, ← ey]; simp only [Int32.lt_iff_toInt_lt, Int32.le_iff_toInt_le, ← Int32.toInt_inj] at h; omega) hm he p l e s m args below meth c X H locs lsA r hH hL hl hs2)
theorem zif_ne {x : Int} {off : Int} {tgt : Nat} (hd : y.2.2.2.2[k]? = some (pc, .ifCond .ne off, 3, pc')) (ht : (pc : Int) + off = (tgt : Int)) (kt : x ≠ 0 → zV Γ y f mc ms Q G u tgt ls st σ) (kf : x = 0 → zV Γ y f mc ms Q G u pc' ls st σ) : zV Γ y f mc ms Q G u pc ls (zI x :: st) σ := by
  intro hm he p l e s m args below meth c X H locs lsA stV hH hL hl hs
  obtain ⟨hdec, rfl⟩ := zv_dec hm hd
  obtain ⟨v, r, rfl, ⟨x', rfl, ex⟩, hs1⟩ := zv_sR_cons hs
  have ex : x'.toInt = x := ex
  exact lv_if_ne X.1 X.2.1 hdec ht (fun h => kt (by rw [← ex]; have e0 : (0 : Int32).toInt = 0 := rfl; simp only [Int32.lt_iff_toInt_lt, Int32.le_iff_toInt_le, ← Int32.toInt_inj, e0] at h; omega) hm he p l e s m args below meth c X H locs lsA r hH hL hl hs1) (fun h => kf (by rw [← ex]; have e0 : (0 : Int32).toInt = 0 := rfl; simp only [Int32.lt_iff_toInt_lt, Int32.le_iff_toInt_le, ← Int32.toInt_inj, e0] at h; omega) hm he p l e s m args below meth c X H locs lsA r hH hL hl hs1)
theorem zicmp_lt {x y0 : Int} {off : Int} {tgt : Nat} (hd : y.2.2.2.2[k]? = some (pc, .if_icmp .lt off, 3, pc')) (ht : (pc : Int) + off = (tgt : Int)) (kt : x < y0 → zV Γ y f mc ms Q G u tgt ls st σ) (kf : y0 ≤ x → zV Γ y f mc ms Q G u pc' ls st σ) : zV Γ y f mc ms Q G u pc ls (zI y0 :: zI x :: st) σ := by
  intro hm he p l e s m args below meth c X H locs lsA stV hH hL hl hs
  obtain ⟨hdec, rfl⟩ := zv_dec hm hd
  obtain ⟨v, r, rfl, ⟨y', rfl, ey⟩, hs1⟩ := zv_sR_cons hs
  have ey : y'.toInt = y0 := ey
  obtain ⟨v, r, rfl, ⟨x', rfl, ex⟩, hs2⟩ := zv_sR_cons hs1
  have ex : x'.toInt = x := ex
  exact lv_icmp_lt X.1 X.2.1 hdec ht (fun h => kt (by rw [← ex, ← ey]; simp only [Int32.lt_iff_toInt_lt, Int32.le_iff_toInt_le, ← Int32.toInt_inj] at h; omega) hm he p l e s m args below meth c X H locs lsA r hH hL hl hs2) (fun h => kf (by rw [← ex, ← ey]; simp only [Int32.lt_iff_toInt_lt, Int32.le_iff_toInt_le, ← Int32.toInt_inj] at h; omega) hm he p l e s m args below meth c X H locs lsA r hH hL hl hs2)
theorem zif_lt {x : Int} {off : Int} {tgt : Nat} (hd : y.2.2.2.2[k]? = some (pc, .ifCond .lt off, 3, pc')) (ht : (pc : Int) + off = (tgt : Int)) (kt : x < 0 → zV Γ y f mc ms Q G u tgt ls st σ) (kf : 0 ≤ x → zV Γ y f mc ms Q G u pc' ls st σ) : zV Γ y f mc ms Q G u pc ls (zI x :: st) σ := by
  intro hm he p l e s m args below meth c X H locs lsA stV hH hL hl hs
  obtain ⟨hdec, rfl⟩ := zv_dec hm hd
  obtain ⟨v, r, rfl, ⟨x', rfl, ex⟩, hs1⟩ := zv_sR_cons hs
  have ex : x'.toInt = x := ex
  exact lv_if_lt X.1 X.2.1 hdec ht (fun h => kt (by rw [← ex]; have e0 : (0 : Int32).toInt = 0 := rfl; simp only [Int32.lt_iff_toInt_lt, Int32.le_iff_toInt_le, ← Int32.toInt_inj, e0] at h; omega) hm he p l e s m args below meth c X H locs lsA r hH hL hl hs1) (fun h => kf (by rw [← ex]; have e0 : (0 : Int32).toInt = 0 := rfl; simp only [Int32.lt_iff_toInt_lt, Int32.le_iff_toInt_le, ← Int32.toInt_inj, e0] at h; omega) hm he p l e s m args below meth c X H locs lsA r hH hL hl hs1)
theorem zicmp_ge {x y0 : Int} {off : Int} {tgt : Nat} (hd : y.2.2.2.2[k]? = some (pc, .if_icmp .ge off, 3, pc')) (ht : (pc : Int) + off = (tgt : Int)) (kt : y0 ≤ x → zV Γ y f mc ms Q G u tgt ls st σ) (kf : x < y0 → zV Γ y f mc ms Q G u pc' ls st σ) : zV Γ y f mc ms Q G u pc ls (zI y0 :: zI x :: st) σ := by
  intro hm he p l e s m args below meth c X H locs lsA stV hH hL hl hs
  obtain ⟨hdec, rfl⟩ := zv_dec hm hd
  obtain ⟨v, r, rfl, ⟨y', rfl, ey⟩, hs1⟩ := zv_sR_cons hs
  have ey : y'.toInt = y0 := ey
  obtain ⟨v, r, rfl, ⟨x', rfl, ex⟩, hs2⟩ := zv_sR_cons hs1
  have ex : x'.toInt = x := ex
  exact lv_icmp_ge X.1 X.2.1 hdec ht (fun h => kt (by rw [← ex, ← ey]; simp only [Int32.lt_iff_toInt_lt, Int32.le_iff_toInt_le, ← Int32.toInt_inj] at h; omega) hm he p l e s m args below meth c X H locs lsA r hH hL hl hs2) (fun h => kf (by rw [← ex, ← ey]; simp only [Int32.lt_iff_toInt_lt, Int32.le_iff_toInt_le, ← Int32.toInt_inj] at h; omega) hm he p l e s m args below meth c X H locs lsA r hH hL hl hs2)
theorem zif_ge {x : Int} {off : Int} {tgt : Nat} (hd : y.2.2.2.2[k]? = some (pc, .ifCond .ge off, 3, pc')) (ht : (pc : Int) + off = (tgt : Int)) (kt : 0 ≤ x → zV Γ y f mc ms Q G u tgt ls st σ) (kf : x < 0 → zV Γ y f mc ms Q G u pc' ls st σ) : zV Γ y f mc ms Q G u pc ls (zI x :: st) σ := by
  intro hm he p l e s m args below meth c X H locs lsA stV hH hL hl hs
  obtain ⟨hdec, rfl⟩ := zv_dec hm hd
  obtain ⟨v, r, rfl, ⟨x', rfl, ex⟩, hs1⟩ := zv_sR_cons hs
  have ex : x'.toInt = x := ex
  exact lv_if_ge X.1 X.2.1 hdec ht (fun h => kt (by rw [← ex]; have e0 : (0 : Int32).toInt = 0 := rfl; simp only [Int32.lt_iff_toInt_lt, Int32.le_iff_toInt_le, ← Int32.toInt_inj, e0] at h; omega) hm he p l e s m args below meth c X H locs lsA r hH hL hl hs1) (fun h => kf (by rw [← ex]; have e0 : (0 : Int32).toInt = 0 := rfl; simp only [Int32.lt_iff_toInt_lt, Int32.le_iff_toInt_le, ← Int32.toInt_inj, e0] at h; omega) hm he p l e s m args below meth c X H locs lsA r hH hL hl hs1)
theorem zicmp_gt {x y0 : Int} {off : Int} {tgt : Nat} (hd : y.2.2.2.2[k]? = some (pc, .if_icmp .gt off, 3, pc')) (ht : (pc : Int) + off = (tgt : Int)) (kt : y0 < x → zV Γ y f mc ms Q G u tgt ls st σ) (kf : x ≤ y0 → zV Γ y f mc ms Q G u pc' ls st σ) : zV Γ y f mc ms Q G u pc ls (zI y0 :: zI x :: st) σ := by
  intro hm he p l e s m args below meth c X H locs lsA stV hH hL hl hs
  obtain ⟨hdec, rfl⟩ := zv_dec hm hd
  obtain ⟨v, r, rfl, ⟨y', rfl, ey⟩, hs1⟩ := zv_sR_cons hs
  have ey : y'.toInt = y0 := ey
  obtain ⟨v, r, rfl, ⟨x', rfl, ex⟩, hs2⟩ := zv_sR_cons hs1
  have ex : x'.toInt = x := ex
  exact lv_icmp_gt X.1 X.2.1 hdec ht (fun h => kt (by rw [← ex, ← ey]; simp only [Int32.lt_iff_toInt_lt, Int32.le_iff_toInt_le, ← Int32.toInt_inj] at h; omega) hm he p l e s m args below meth c X H locs lsA r hH hL hl hs2) (fun h => kf (by rw [← ex, ← ey]; simp only [Int32.lt_iff_toInt_lt, Int32.le_iff_toInt_le, ← Int32.toInt_inj] at h; omega) hm he p l e s m args below meth c X H locs lsA r hH hL hl hs2)
theorem zif_gt {x : Int} {off : Int} {tgt : Nat} (hd : y.2.2.2.2[k]? = some (pc, .ifCond .gt off, 3, pc')) (ht : (pc : Int) + off = (tgt : Int)) (kt : 0 < x → zV Γ y f mc ms Q G u tgt ls st σ) (kf : x ≤ 0 → zV Γ y f mc ms Q G u pc' ls st σ) : zV Γ y f mc ms Q G u pc ls (zI x :: st) σ := by
  intro hm he p l e s m args below meth c X H locs lsA stV hH hL hl hs
  obtain ⟨hdec, rfl⟩ := zv_dec hm hd
  obtain ⟨v, r, rfl, ⟨x', rfl, ex⟩, hs1⟩ := zv_sR_cons hs
  have ex : x'.toInt = x := ex
  exact lv_if_gt X.1 X.2.1 hdec ht (fun h => kt (by rw [← ex]; have e0 : (0 : Int32).toInt = 0 := rfl; simp only [Int32.lt_iff_toInt_lt, Int32.le_iff_toInt_le, ← Int32.toInt_inj, e0] at h; omega) hm he p l e s m args below meth c X H locs lsA r hH hL hl hs1) (fun h => kf (by rw [← ex]; have e0 : (0 : Int32).toInt = 0 := rfl; simp only [Int32.lt_iff_toInt_lt, Int32.le_iff_toInt_le, ← Int32.toInt_inj, e0] at h; omega) hm he p l e s m args below meth c X H locs lsA r hH hL hl hs1)
theorem zicmp_le {x y0 : Int} {off : Int} {tgt : Nat} (hd : y.2.2.2.2[k]? = some (pc, .if_icmp .le off, 3, pc')) (ht : (pc : Int) + off = (tgt : Int)) (kt : x ≤ y0 → zV Γ y f mc ms Q G u tgt ls st σ) (kf : y0 < x → zV Γ y f mc ms Q G u pc' ls st σ) : zV Γ y f mc ms Q G u pc ls (zI y0 :: zI x :: st) σ := by
  intro hm he p l e s m args below meth c X H locs lsA stV hH hL hl hs
  obtain ⟨hdec, rfl⟩ := zv_dec hm hd
  obtain ⟨v, r, rfl, ⟨y', rfl, ey⟩, hs1⟩ := zv_sR_cons hs
  have ey : y'.toInt = y0 := ey
  obtain ⟨v, r, rfl, ⟨x', rfl, ex⟩, hs2⟩ := zv_sR_cons hs1
  have ex : x'.toInt = x := ex
  exact lv_icmp_le X.1 X.2.1 hdec ht (fun h => kt (by rw [← ex, ← ey]; simp only [Int32.lt_iff_toInt_lt, Int32.le_iff_toInt_le, ← Int32.toInt_inj] at h; omega) hm he p l e s m args below meth c X H locs lsA r hH hL hl hs2) (fun h => kf (by rw [← ex, ← ey]; simp only [Int32.lt_iff_toInt_lt, Int32.le_iff_toInt_le, ← Int32.toInt_inj] at h; omega) hm he p l e s m args below meth c X H locs lsA r hH hL hl hs2)
theorem zif_le {x : Int} {off : Int} {tgt : Nat} (hd : y.2.2.2.2[k]? = some (pc, .ifCond .le off, 3, pc')) (ht : (pc : Int) + off = (tgt : Int)) (kt : x ≤ 0 → zV Γ y f mc ms Q G u tgt ls st σ) (kf : 0 < x → zV Γ y f mc ms Q G u pc' ls st σ) : zV Γ y f mc ms Q G u pc ls (zI x :: st) σ := by
  intro hm he p l e s m args below meth c X H locs lsA stV hH hL hl hs
  obtain ⟨hdec, rfl⟩ := zv_dec hm hd
  obtain ⟨v, r, rfl, ⟨x', rfl, ex⟩, hs1⟩ := zv_sR_cons hs
  have ex : x'.toInt = x := ex
  exact lv_if_le X.1 X.2.1 hdec ht (fun h => kt (by rw [← ex]; have e0 : (0 : Int32).toInt = 0 := rfl; simp only [Int32.lt_iff_toInt_lt, Int32.le_iff_toInt_le, ← Int32.toInt_inj, e0] at h; omega) hm he p l e s m args below meth c X H locs lsA r hH hL hl hs1) (fun h => kf (by rw [← ex]; have e0 : (0 : Int32).toInt = 0 := rfl; simp only [Int32.lt_iff_toInt_lt, Int32.le_iff_toInt_le, ← Int32.toInt_inj, e0] at h; omega) hm he p l e s m args below meth c X H locs lsA r hH hL hl hs1)
end ZROWS
