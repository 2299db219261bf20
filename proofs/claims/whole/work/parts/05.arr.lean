/-! ARRAYS, ENDS, SWITCHES, NEW CELLS, CALLS -/
theorem zv_cl32 {x : Int32} {i : Int} (hx : x.toInt = i) (h : 0 ≤ i) : (x.toNatClampNeg : Int) = i := by
  show ((x.toInt.toNat : Nat) : Int) = i
  omega
theorem zv_nin {x : Int32} {i : Int} {n : Nat} (hx : x.toInt = i) (h : 0 ≤ i) (h2 : i < n) : ¬ (x < 0 ∨ n ≤ x.toNatClampNeg) := by
  have h1 := zv_cl32 hx h
  have e0 : (0 : Int32).toInt = 0 := rfl
  rw [Int32.lt_iff_toInt_lt, e0]
  omega
section ZARR
variable {Γ : zv_M} {y : zv_Y} {f mc ms : Nat} {Q : zv_P} {G : zv_W} {u : Nat × Nat} {pc pc' k : Nat} {ls : List (Option zv_A)} {st : List zv_A} {σ : zv_H}
theorem ziaload {a i n : Int} (hd : y.2.2.2.2[k]? = some (pc, .iaload, 1, pc')) (ha : zv_ar G a .int n) (hi : 0 ≤ i ∧ i < n) (kk : zV Γ y f mc ms Q G u pc' ls (zI (σ a i) :: st) σ) : zV Γ y f mc ms Q G u pc ls (zI i :: zR a :: st) σ := by
  intro hm he p l e s m args below meth c X H locs lsA stV hH hL hl hs
  obtain ⟨hdec, rfl⟩ := zv_dec hm hd
  obtain ⟨v, r', rfl, hv, hs1⟩ := zv_sR_cons hs
  obtain ⟨x, rfl, ex⟩ := hv
  have ex : x.toInt = i := ex
  obtain ⟨vr, r', rfl, hvr, hs2⟩ := zv_sR_cons hs1
  obtain ⟨cell, c1, c2, c3, -, c4, c5, c6⟩ := hH.2.2 a _ ha.1
  have h0 := (zv_sh0 ha.1).1
  rcases hvr with ⟨z, -⟩ | ⟨-, rfl⟩
  · exact absurd h0 (by show ¬ 0 ≤ a; have : a < 0 := z; omega)
  have hj := zv_cl32 ex hi.1
  have c4 : (cell.slots.size : Int) = n := c4
  obtain ⟨w, g1, g2, -⟩ := c6 x.toNatClampNeg (by rw [hj]; exact hi.2)
  rw [hj] at g2
  have g2 : zv_R (zv_ad Γ) (zI (zv_val G σ a i)) w := g2
  have hval : zv_val G σ a i = σ a i := by unfold zv_val; rw [ha.2]; rfl
  rw [hval] at g2
  exact W.iald X.1 X.2.1 c1 (State.isArrayOf_alike X.2.2.2.2.2.2.2.alike c2) c3 (zv_nin ex hi.1 (by rw [c4]; exact hi.2)) g1 rfl rfl hdec (kk hm he p l e s m args below meth c X H locs lsA (w :: r') hH hL hl (zv_sR_mk g2 hs2))
theorem zlaload {a i n : Int} (hd : y.2.2.2.2[k]? = some (pc, .laload, 1, pc')) (ha : zv_ar G a .long n) (hi : 0 ≤ i ∧ i < n) (kk : zV Γ y f mc ms Q G u pc' ls (zL (σ a i) :: st) σ) : zV Γ y f mc ms Q G u pc ls (zI i :: zR a :: st) σ := by
  intro hm he p l e s m args below meth c X H locs lsA stV hH hL hl hs
  obtain ⟨hdec, rfl⟩ := zv_dec hm hd
  obtain ⟨v, r', rfl, hv, hs1⟩ := zv_sR_cons hs
  obtain ⟨x, rfl, ex⟩ := hv
  have ex : x.toInt = i := ex
  obtain ⟨vr, r', rfl, hvr, hs2⟩ := zv_sR_cons hs1
  obtain ⟨cell, c1, c2, c3, -, c4, c5, c6⟩ := hH.2.2 a _ ha.1
  have h0 := (zv_sh0 ha.1).1
  rcases hvr with ⟨z, -⟩ | ⟨-, rfl⟩
  · exact absurd h0 (by show ¬ 0 ≤ a; have : a < 0 := z; omega)
  have hj := zv_cl32 ex hi.1
  have c4 : (cell.slots.size : Int) = n := c4
  obtain ⟨w, g1, g2, -⟩ := c6 x.toNatClampNeg (by rw [hj]; exact hi.2)
  rw [hj] at g2
  have g2 : zv_R (zv_ad Γ) (zL (zv_val G σ a i)) w := g2
  have hval : zv_val G σ a i = σ a i := by unfold zv_val; rw [ha.2]; rfl
  rw [hval] at g2
  exact W.lald X.1 X.2.1 c1 (State.isArrayOf_alike X.2.2.2.2.2.2.2.alike c2) c3 (zv_nin ex hi.1 (by rw [c4]; exact hi.2)) g1 rfl rfl hdec (kk hm he p l e s m args below meth c X H locs lsA (w :: r') hH hL hl (zv_sR_mk g2 hs2))
theorem zbaload {a i n : Int} (hd : y.2.2.2.2[k]? = some (pc, .baload, 1, pc')) (ha : zv_ar G a .boolean n) (hi : 0 ≤ i ∧ i < n) (kk : zV Γ y f mc ms Q G u pc' ls (zI (σ a i) :: st) σ) : zV Γ y f mc ms Q G u pc ls (zI i :: zR a :: st) σ := by
  intro hm he p l e s m args below meth c X H locs lsA stV hH hL hl hs
  obtain ⟨hdec, rfl⟩ := zv_dec hm hd
  obtain ⟨v, r', rfl, hv, hs1⟩ := zv_sR_cons hs
  obtain ⟨x, rfl, ex⟩ := hv
  have ex : x.toInt = i := ex
  obtain ⟨vr, r', rfl, hvr, hs2⟩ := zv_sR_cons hs1
  obtain ⟨cell, c1, c2, c3, -, c4, c5, c6⟩ := hH.2.2 a _ ha.1
  have h0 := (zv_sh0 ha.1).1
  rcases hvr with ⟨z, -⟩ | ⟨-, rfl⟩
  · exact absurd h0 (by show ¬ 0 ≤ a; have : a < 0 := z; omega)
  have hj := zv_cl32 ex hi.1
  have c4 : (cell.slots.size : Int) = n := c4
  obtain ⟨w, g1, g2, -⟩ := c6 x.toNatClampNeg (by rw [hj]; exact hi.2)
  rw [hj] at g2
  have g2 : zv_R (zv_ad Γ) (zI (zv_val G σ a i)) w := g2
  have hval : zv_val G σ a i = σ a i := by unfold zv_val; rw [ha.2]; rfl
  rw [hval] at g2
  exact W.zald X.1 X.2.1 c1 (State.isArrayOf_alike X.2.2.2.2.2.2.2.alike c2) c3 (zv_nin ex hi.1 (by rw [c4]; exact hi.2)) g1 rfl rfl hdec (kk hm he p l e s m args below meth c X H locs lsA (w :: r') hH hL hl (zv_sR_mk g2 hs2))
theorem zaaload {a i n z : Int} {C : String} (hd : y.2.2.2.2[k]? = some (pc, .aaload, 1, pc')) (ha : zv_sh G a = some (.inr (.object C, n))) (hi : 0 ≤ i ∧ i < n) (hz : zv_val G σ a i = z) (kk : zV Γ y f mc ms Q G u pc' ls (zR z :: st) σ) : zV Γ y f mc ms Q G u pc ls (zI i :: zR a :: st) σ := by
  intro hm he p l e s m args below meth c X H locs lsA stV hH hL hl hs
  obtain ⟨hdec, rfl⟩ := zv_dec hm hd
  obtain ⟨v, r', rfl, hv, hs1⟩ := zv_sR_cons hs
  obtain ⟨x, rfl, ex⟩ := hv
  have ex : x.toInt = i := ex
  obtain ⟨vr, r', rfl, hvr, hs2⟩ := zv_sR_cons hs1
  obtain ⟨cell, c1, c2, c3, -, c4, c5, c6⟩ := hH.2.2 a _ ha
  have h0 := (zv_sh0 ha).1
  rcases hvr with ⟨z, -⟩ | ⟨-, rfl⟩
  · exact absurd h0 (by show ¬ 0 ≤ a; have : a < 0 := z; omega)
  have hj := zv_cl32 ex hi.1
  have c4 : (cell.slots.size : Int) = n := c4
  obtain ⟨w, g1, g2, -⟩ := c6 x.toNatClampNeg (by rw [hj]; exact hi.2)
  rw [hj] at g2
  have g2 : zv_R (zv_ad Γ) (zR (zv_val G σ a i)) w := g2
  rw [hz] at g2
  exact W.aald X.1 X.2.1 c1 (State.isArrayOf_alike X.2.2.2.2.2.2.2.alike c2) rfl c3 (zv_nin ex hi.1 (by rw [c4]; exact hi.2)) g1 rfl rfl hdec (kk hm he p l e s m args below meth c X H locs lsA (w :: r') hH hL hl (zv_sR_mk g2 hs2))
theorem zarraylength {a n : Int} {ty : FieldType} (hd : y.2.2.2.2[k]? = some (pc, .arraylength, 1, pc')) (ha : zv_sh G a = some (.inr (ty, n))) (kk : zV Γ y f mc ms Q G u pc' ls (zI n :: st) σ) : zV Γ y f mc ms Q G u pc ls (zR a :: st) σ := by
  intro hm he p l e s m args below meth c X H locs lsA stV hH hL hl hs
  obtain ⟨hdec, rfl⟩ := zv_dec hm hd
  obtain ⟨vr, r', rfl, hvr, hs2⟩ := zv_sR_cons hs
  obtain ⟨cell, c1, c2, c3, -, c4, c5, c6⟩ := hH.2.2 a _ ha
  have h0 := (zv_sh0 ha).1
  have c4 : (cell.slots.size : Int) = n := c4
  have c5 : n < 2147483648 := c5
  rcases hvr with ⟨z, -⟩ | ⟨-, rfl⟩
  · exact absurd h0 (by show ¬ 0 ≤ a; have : a < 0 := z; omega)
  exact W.alen X.1 X.2.1 c1 (State.isArrayOf_alike X.2.2.2.2.2.2.2.alike c2) rfl rfl rfl hdec (kk hm he p l e s m args below meth c X H locs lsA (_ :: r') hH hL hl (zv_sR_mk (zv_mI (by show (Int32.ofNat cell.slots.size).toInt = n; rw [Int32.toInt_ofNat_of_lt (by show cell.slots.size < 2147483648; omega)]; exact c4)) hs2))
theorem zifnonnull {a off : Int} {tgt : Nat} (hd : y.2.2.2.2[k]? = some (pc, .ifnonnull off, 3, pc')) (h0 : 0 ≤ a) (ht : (pc : Int) + off = (tgt : Int)) (kk : zV Γ y f mc ms Q G u tgt ls st σ) : zV Γ y f mc ms Q G u pc ls (zR a :: st) σ := by
  intro hm he p l e s m args below meth c X H locs lsA stV hH hL hl hs
  obtain ⟨hdec, rfl⟩ := zv_dec hm hd
  obtain ⟨vr, r', rfl, hvr, hs2⟩ := zv_sR_cons hs
  rcases hvr with ⟨z, -⟩ | ⟨-, rfl⟩
  · exact absurd h0 (by show ¬ 0 ≤ a; have : a < 0 := z; omega)
  exact lv_ifnonnull X.1 X.2.1 hdec ht (kk hm he p l e s m args below meth c X H locs lsA r' hH hL hl hs2)
theorem zifnull {a off : Int} (hd : y.2.2.2.2[k]? = some (pc, .ifnull off, 3, pc')) (h0 : 0 ≤ a) (kk : zV Γ y f mc ms Q G u pc' ls st σ) : zV Γ y f mc ms Q G u pc ls (zR a :: st) σ := by
  intro hm he p l e s m args below meth c X H locs lsA stV hH hL hl hs
  obtain ⟨hdec, rfl⟩ := zv_dec hm hd
  obtain ⟨vr, r', rfl, hvr, hs2⟩ := zv_sR_cons hs
  rcases hvr with ⟨z, -⟩ | ⟨-, rfl⟩
  · exact absurd h0 (by show ¬ 0 ≤ a; have : a < 0 := z; omega)
  exact lv_ifnull X.1 X.2.1 hdec (kk hm he p l e s m args below meth c X H locs lsA r' hH hL hl hs2)
theorem ziastore {a i n v : Int} (hd : y.2.2.2.2[k]? = some (pc, .iastore, 1, pc')) (ha : zv_ar G a .int n) (hi : 0 ≤ i ∧ i < n) (h0 : 0 < a) (kk : zV Γ y f mc ms Q G u pc' ls st (zup σ a i v)) : zV Γ y f mc ms Q G u pc ls (zI v :: zI i :: zR a :: st) σ := by
  intro hm he p l e s m args below meth c X H locs lsA stV hH hL hl hs
  obtain ⟨hdec, rfl⟩ := zv_dec hm hd
  obtain ⟨w0, r', rfl, hw, hs0⟩ := zv_sR_cons hs
  obtain ⟨z, rfl, ez⟩ := hw
  have ez : z.toInt = v := ez
  obtain ⟨w1, r', rfl, hw1, hs1⟩ := zv_sR_cons hs0
  obtain ⟨x, rfl, ex⟩ := hw1
  have ex : x.toInt = i := ex
  obtain ⟨vr, r', rfl, hvr, hs2⟩ := zv_sR_cons hs1
  obtain ⟨cell, c1, c2, c3, cra, c4, c5, c6⟩ := hH.2.2 a _ ha.1
  rcases hvr with ⟨z, -⟩ | ⟨-, rfl⟩
  · exact absurd h0 (by show ¬ 0 < a; have : a < 0 := z; omega)
  have hj := zv_cl32 ex hi.1
  have c4 : (cell.slots.size : Int) = n := c4
  refine W.iast X.1 X.2.1 c1 (State.isArrayOf_alike X.2.2.2.2.2.2.2.alike c2) c3 (zv_nin ex hi.1 (by rw [c4]; exact hi.2)) rfl rfl hdec (fun H' e1 e2 e3 => ?_)
  skip
  refine kk hm he p l e s m args below meth c X H' _ lsA r' (zv_hR_set he hH ha.1 h0 e2 e3 ?_) (fun q hq => ?_) hl hs2
  · refine ⟨_, e1, c2, c3, cra, by simp [Cell.setSlot]; exact c4, c5, fun j hjn => ?_⟩
    have hjn : (j : Int) < n := hjn
    by_cases ej : j = x.toNatClampNeg
    · subst ej
      refine ⟨.int z, ?_, ?_⟩
      · have : x.toNatClampNeg < cell.slots.size := by omega
        simp [Cell.setSlot, this]
      · have e : zv_val G (zup σ a i v) a (x.toNatClampNeg : Int) = v := by
          unfold zv_val
          rw [ha.2, hj, zup_s]
          rfl
        show zv_R (zv_ad Γ) (zI (zv_val G (zup σ a i v) a (x.toNatClampNeg : Int))) _ ∧ zv_ok _ _
        rw [e]
        exact ⟨⟨z, rfl, ez⟩, trivial⟩
    · obtain ⟨w, g1, g2⟩ := c6 j hjn
      have e : zv_val G (zup σ a i v) a (j : Int) = zv_val G σ a (j : Int) := by
        unfold zv_val
        rw [zup_n (by omega)]
      rw [e]
      exact ⟨w, by rw [slot_ne _ _ (Ne.symm ej)]; exact g1, g2⟩
  · rcases List.mem_append.mp hq with h | h
    · exact hL q h
    · simp at h
      subst h
      exact zv_new h0
theorem zlastore {a i n v : Int} (hd : y.2.2.2.2[k]? = some (pc, .lastore, 1, pc')) (ha : zv_ar G a .long n) (hi : 0 ≤ i ∧ i < n) (h0 : 0 < a) (kk : zV Γ y f mc ms Q G u pc' ls st (zup σ a i v)) : zV Γ y f mc ms Q G u pc ls (zL v :: zI i :: zR a :: st) σ := by
  intro hm he p l e s m args below meth c X H locs lsA stV hH hL hl hs
  obtain ⟨hdec, rfl⟩ := zv_dec hm hd
  obtain ⟨w0, r', rfl, hw, hs0⟩ := zv_sR_cons hs
  obtain ⟨z, rfl, ez⟩ := hw
  have ez : z.toInt = v := ez
  obtain ⟨w1, r', rfl, hw1, hs1⟩ := zv_sR_cons hs0
  obtain ⟨x, rfl, ex⟩ := hw1
  have ex : x.toInt = i := ex
  obtain ⟨vr, r', rfl, hvr, hs2⟩ := zv_sR_cons hs1
  obtain ⟨cell, c1, c2, c3, cra, c4, c5, c6⟩ := hH.2.2 a _ ha.1
  rcases hvr with ⟨z, -⟩ | ⟨-, rfl⟩
  · exact absurd h0 (by show ¬ 0 < a; have : a < 0 := z; omega)
  have hj := zv_cl32 ex hi.1
  have c4 : (cell.slots.size : Int) = n := c4
  refine W.last X.1 X.2.1 c1 (State.isArrayOf_alike X.2.2.2.2.2.2.2.alike c2) c3 (zv_nin ex hi.1 (by rw [c4]; exact hi.2)) rfl rfl hdec (fun H' e1 e2 e3 => ?_)
  skip
  refine kk hm he p l e s m args below meth c X H' _ lsA r' (zv_hR_set he hH ha.1 h0 e2 e3 ?_) (fun q hq => ?_) hl hs2
  · refine ⟨_, e1, c2, c3, cra, by simp [Cell.setSlot]; exact c4, c5, fun j hjn => ?_⟩
    have hjn : (j : Int) < n := hjn
    by_cases ej : j = x.toNatClampNeg
    · subst ej
      refine ⟨.long z, ?_, ?_⟩
      · have : x.toNatClampNeg < cell.slots.size := by omega
        simp [Cell.setSlot, this]
      · have e : zv_val G (zup σ a i v) a (x.toNatClampNeg : Int) = v := by
          unfold zv_val
          rw [ha.2, hj, zup_s]
          rfl
        show zv_R (zv_ad Γ) (zL (zv_val G (zup σ a i v) a (x.toNatClampNeg : Int))) _ ∧ zv_ok _ _
        rw [e]
        exact ⟨⟨z, rfl, ez⟩, trivial⟩
    · obtain ⟨w, g1, g2⟩ := c6 j hjn
      have e : zv_val G (zup σ a i v) a (j : Int) = zv_val G σ a (j : Int) := by
        unfold zv_val
        rw [zup_n (by omega)]
      rw [e]
      exact ⟨w, by rw [slot_ne _ _ (Ne.symm ej)]; exact g1, g2⟩
  · rcases List.mem_append.mp hq with h | h
    · exact hL q h
    · simp at h
      subst h
      exact zv_new h0
theorem zbastore {a i n v : Int} (hd : y.2.2.2.2[k]? = some (pc, .bastore, 1, pc')) (ha : zv_ar G a .boolean n) (hi : 0 ≤ i ∧ i < n) (h0 : 0 < a) (hv01 : v = 0 ∨ v = 1) (kk : zV Γ y f mc ms Q G u pc' ls st (zup σ a i v)) : zV Γ y f mc ms Q G u pc ls (zI v :: zI i :: zR a :: st) σ := by
  intro hm he p l e s m args below meth c X H locs lsA stV hH hL hl hs
  obtain ⟨hdec, rfl⟩ := zv_dec hm hd
  obtain ⟨w0, r', rfl, hw, hs0⟩ := zv_sR_cons hs
  obtain ⟨z, rfl, ez⟩ := hw
  have ez : z.toInt = v := ez
  obtain ⟨w1, r', rfl, hw1, hs1⟩ := zv_sR_cons hs0
  obtain ⟨x, rfl, ex⟩ := hw1
  have ex : x.toInt = i := ex
  obtain ⟨vr, r', rfl, hvr, hs2⟩ := zv_sR_cons hs1
  obtain ⟨cell, c1, c2, c3, cra, c4, c5, c6⟩ := hH.2.2 a _ ha.1
  rcases hvr with ⟨z, -⟩ | ⟨-, rfl⟩
  · exact absurd h0 (by show ¬ 0 < a; have : a < 0 := z; omega)
  have hj := zv_cl32 ex hi.1
  have c4 : (cell.slots.size : Int) = n := c4
  have hz : z = 0 ∨ z = 1 := by
    rcases hv01 with q | q
    · exact Or.inl (Int32.toInt_inj.mp (ez.trans q))
    · exact Or.inr (Int32.toInt_inj.mp (ez.trans q))
  have hnar : narrow .boolean (.int z) = .int z := by rcases hz with rfl | rfl <;> rfl
  refine W.zast X.1 X.2.1 c1 (State.isArrayOf_alike X.2.2.2.2.2.2.2.alike c2) c3 (zv_nin ex hi.1 (by rw [c4]; exact hi.2)) rfl rfl hdec (fun H' e1 e2 e3 => ?_)
  rw [hnar] at e1
  refine kk hm he p l e s m args below meth c X H' _ lsA r' (zv_hR_set he hH ha.1 h0 e2 e3 ?_) (fun q hq => ?_) hl hs2
  · refine ⟨_, e1, c2, c3, cra, by simp [Cell.setSlot]; exact c4, c5, fun j hjn => ?_⟩
    have hjn : (j : Int) < n := hjn
    by_cases ej : j = x.toNatClampNeg
    · subst ej
      refine ⟨.int z, ?_, ?_⟩
      · have : x.toNatClampNeg < cell.slots.size := by omega
        simp [Cell.setSlot, this]
      · have e : zv_val G (zup σ a i v) a (x.toNatClampNeg : Int) = v := by
          unfold zv_val
          rw [ha.2, hj, zup_s]
          rfl
        show zv_R (zv_ad Γ) (zI (zv_val G (zup σ a i v) a (x.toNatClampNeg : Int))) _ ∧ zv_ok _ _
        rw [e]
        exact ⟨⟨z, rfl, ez⟩, hv01⟩
    · obtain ⟨w, g1, g2⟩ := c6 j hjn
      have e : zv_val G (zup σ a i v) a (j : Int) = zv_val G σ a (j : Int) := by
        unfold zv_val
        rw [zup_n (by omega)]
      rw [e]
      exact ⟨w, by rw [slot_ne _ _ (Ne.symm ej)]; exact g1, g2⟩
  · rcases List.mem_append.mp hq with h | h
    · exact hL q h
    · simp at h
      subst h
      exact zv_new h0
theorem zireturn {x : Int} (hd : y.2.2.2.2[k]? = some (pc, .ireturn, 1, pc')) (hr : y.2.2.2.1 = some .int) (hu : u = (mc, ms)) (hQ : Q (some (zI x)) G σ) : zV Γ y f mc ms Q G u pc ls [zI x] σ := by
  intro hm he p l e s m args below meth c X H locs lsA stV hH hL hl hs
  obtain ⟨hdec, rfl⟩ := zv_dec hm hd
  obtain ⟨v, r', rfl, hv, hs1⟩ := zv_sR_cons hs
  obtain ⟨z, rfl, ez⟩ := hv
  have e := zv_sR_nil' hs1
  subst e
  subst hu
  exact W.iret X.1 X.2.1 (X.2.2.2.1.trans hr) (fun t ht _ => ⟨_, _, _, hQ, by rw [ht]; exact hH, _, rfl, z, rfl, ez⟩) hL hdec (hlocks := X.2.2.2.2.1)
theorem zlreturn {x : Int} (hd : y.2.2.2.2[k]? = some (pc, .lreturn, 1, pc')) (hr : y.2.2.2.1 = some .long) (hu : u = (mc, ms)) (hQ : Q (some (zL x)) G σ) : zV Γ y f mc ms Q G u pc ls [zL x] σ := by
  intro hm he p l e s m args below meth c X H locs lsA stV hH hL hl hs
  obtain ⟨hdec, rfl⟩ := zv_dec hm hd
  obtain ⟨v, r', rfl, hv, hs1⟩ := zv_sR_cons hs
  obtain ⟨z, rfl, ez⟩ := hv
  have e := zv_sR_nil' hs1
  subst e
  subst hu
  exact W.lret X.1 X.2.1 (X.2.2.2.1.trans hr) (fun t ht _ => ⟨_, _, _, hQ, by rw [ht]; exact hH, _, rfl, z, rfl, ez⟩) hL hdec (hlocks := X.2.2.2.2.1)
theorem zzreturn {x : Int} (hd : y.2.2.2.2[k]? = some (pc, .ireturn, 1, pc')) (hr : y.2.2.2.1 = some .boolean) (hx : x = 0 ∨ x = 1) (hu : u = (mc, ms)) (hQ : Q (some (zI x)) G σ) : zV Γ y f mc ms Q G u pc ls [zI x] σ := by
  intro hm he p l e s m args below meth c X H locs lsA stV hH hL hl hs
  obtain ⟨hdec, rfl⟩ := zv_dec hm hd
  obtain ⟨v, r', rfl, hv, hs1⟩ := zv_sR_cons hs
  obtain ⟨z, rfl, ez⟩ := hv
  have ez : z.toInt = x := ez
  have e := zv_sR_nil' hs1
  subst e
  subst hu
  have hz : z = 0 ∨ z = 1 := by
    rcases hx with q | q
    · exact Or.inl (Int32.toInt_inj.mp (ez.trans q))
    · exact Or.inr (Int32.toInt_inj.mp (ez.trans q))
  have hnar : narrow .boolean (.int z) = .int z := by rcases hz with rfl | rfl <;> rfl
  exact W.zret X.1 X.2.1 (X.2.2.2.1.trans hr) hnar (fun t ht _ => ⟨_, _, _, hQ, by rw [ht]; exact hH, _, rfl, z, rfl, ez⟩) hL hdec (hlocks := X.2.2.2.2.1)
theorem zreturn (hd : y.2.2.2.2[k]? = some (pc, .return_, 1, pc')) (hr : y.2.2.2.1 = none) (hu : u = (mc, ms)) (hQ : Q none G σ) : zV Γ y f mc ms Q G u pc ls [] σ := by
  intro hm he p l e s m args below meth c X H locs lsA stV hH hL hl hs
  obtain ⟨hdec, rfl⟩ := zv_dec hm hd
  have e := zv_sR_nil' hs
  subst e
  subst hu
  exact W.vret X.1 X.2.1 (X.2.2.2.1.trans hr) (fun t ht _ => ⟨_, _, _, hQ, by rw [ht]; exact hH, rfl⟩) hL hdec (hlocks := X.2.2.2.2.1)
theorem zareturn {x : Int} {rt : FieldType} (hd : y.2.2.2.2[k]? = some (pc, .areturn, 1, pc')) (hr : y.2.2.2.1 = some rt) (hrt : (∃ n, rt = .object n) ∨ ∃ t, rt = .array t) (hu : u = (mc, ms)) (hQ : Q (some (zR x)) G σ) : zV Γ y f mc ms Q G u pc ls [zR x] σ := by
  intro hm he p l e s m args below meth c X H locs lsA stV hH hL hl hs
  obtain ⟨hdec, rfl⟩ := zv_dec hm hd
  obtain ⟨v, r', rfl, hv, hs1⟩ := zv_sR_cons hs
  have e := zv_sR_nil' hs1
  subst e
  subst hu
  exact W.aret X.1 X.2.1 (X.2.2.2.1.trans hr) hrt (by rcases hv with ⟨-, rfl⟩ | ⟨-, rfl⟩; exact Or.inl rfl; exact Or.inr ⟨_, rfl⟩) (fun t ht _ => ⟨_, _, _, hQ, by rw [ht]; exact hH, _, rfl, hv⟩) hL hdec (hlocks := X.2.2.2.2.1)
theorem ztabIn {dflt lo hi : Int} {offs : Array Int} {len : Nat} {x off : Int} {tgt : Nat} (j : Nat) (hd : y.2.2.2.2[k]? = some (pc, .tableswitch dflt lo hi offs, len, pc')) (hx : x = lo + j) (hj : lo + j ≤ hi) (ho : offs[j]? = some off) (ht : (pc : Int) + off = (tgt : Int)) (kk : zV Γ y f mc ms Q G u tgt ls st σ) : zV Γ y f mc ms Q G u pc ls (zI x :: st) σ := by
  intro hm he p l e s m args below meth c X H locs lsA stV hH hL hl hs
  obtain ⟨hdec, rfl⟩ := zv_dec hm hd
  obtain ⟨v, r', rfl, hv, hs1⟩ := zv_sR_cons hs
  obtain ⟨z, rfl, ez⟩ := hv
  have ez : z.toInt = x := ez
  exact lv_tableIn X.1 X.2.1 hdec (by omega) (by omega) (by rw [ez, hx, show (lo + (j : Int) - lo).toNat = j by omega]; exact ho) ht (kk hm he p l e s m args below meth c X H locs lsA r' hH hL hl hs1)
theorem ztabOut {dflt lo hi : Int} {offs : Array Int} {len : Nat} {x : Int} {tgt : Nat} (hd : y.2.2.2.2[k]? = some (pc, .tableswitch dflt lo hi offs, len, pc')) (hx : x < lo ∨ hi < x) (ht : (pc : Int) + dflt = (tgt : Int)) (kk : zV Γ y f mc ms Q G u tgt ls st σ) : zV Γ y f mc ms Q G u pc ls (zI x :: st) σ := by
  intro hm he p l e s m args below meth c X H locs lsA stV hH hL hl hs
  obtain ⟨hdec, rfl⟩ := zv_dec hm hd
  obtain ⟨v, r', rfl, hv, hs1⟩ := zv_sR_cons hs
  obtain ⟨z, rfl, ez⟩ := hv
  have ez : z.toInt = x := ez
  exact lv_tableOut X.1 X.2.1 hdec (by rw [ez]; exact hx) ht (kk hm he p l e s m args below meth c X H locs lsA r' hH hL hl hs1)
theorem zlook {dflt : Int} {ps : Array (Int × Int)} {len : Nat} {x off : Int} {tgt : Nat} (hd : y.2.2.2.2[k]? = some (pc, .lookupswitch dflt ps, len, pc')) (hp : (ps.toList.zip (ps.toList.drop 1)).all (fun (a, next) => a.1 < next.1) = true) (ho : Op.lookupswitch.offset ps.toList dflt x = off) (ht : (pc : Int) + off = (tgt : Int)) (kk : zV Γ y f mc ms Q G u tgt ls st σ) : zV Γ y f mc ms Q G u pc ls (zI x :: st) σ := by
  intro hm he p l e s m args below meth c X H locs lsA stV hH hL hl hs
  obtain ⟨hdec, rfl⟩ := zv_dec hm hd
  obtain ⟨v, r', rfl, hv, hs1⟩ := zv_sR_cons hs
  obtain ⟨z, rfl, ez⟩ := hv
  have ez : z.toInt = x := ez
  exact lv_lookup X.1 X.2.1 hdec hp (by rw [ez]; exact ho) ht (kk hm he p l e s m args below meth c X H locs lsA r' hH hL hl hs1)
/-- the range of an int on the stack, of one in a cell -/
theorem zrng_top {x : Int} (kk : -2147483648 ≤ x ∧ x ≤ 2147483647 → zV Γ y f mc ms Q G u pc ls (zI x :: st) σ) : zV Γ y f mc ms Q G u pc ls (zI x :: st) σ := by
  intro hm he p l e s m args below meth c X H locs lsA stV hH hL hl hs
  obtain ⟨v, r', rfl, hv, hs1⟩ := zv_sR_cons hs
  exact kk (zv_rng hv) hm he p l e s m args below meth c X H locs lsA _ hH hL hl hs
theorem zrng_loc {i : Nat} {x : Int} (hi : ls[i]? = some (some (zI x))) (kk : -2147483648 ≤ x ∧ x ≤ 2147483647 → zV Γ y f mc ms Q G u pc ls st σ) : zV Γ y f mc ms Q G u pc ls st σ := by
  intro hm he p l e s m args below meth c X H locs lsA stV hH hL hl hs
  obtain ⟨v, -, hv⟩ := zv_lR_at hl hi
  exact kk (zv_rng hv) hm he p l e s m args below meth c X H locs lsA _ hH hL hl hs
theorem zrng_arr {a n : Int} (ha : zv_ar G a .int n) (kk : (∀ i, 0 ≤ i → i < n → -2147483648 ≤ σ a i ∧ σ a i ≤ 2147483647) → zV Γ y f mc ms Q G u pc ls st σ) : zV Γ y f mc ms Q G u pc ls st σ := by
  intro hm he p l e s m args below meth c X H locs lsA stV hH hL hl hs
  refine kk (fun i h0 hn => ?_) hm he p l e s m args below meth c X H locs lsA _ hH hL hl hs
  obtain ⟨cell, -, -, -, -, -, -, c6⟩ := hH.2.2 a _ ha.1
  obtain ⟨w, -, g2, -⟩ := c6 i.toNat (by show (i.toNat : Int) < n; omega)
  have e : (i.toNat : Int) = i := by omega
  rw [e] at g2
  have g2 : zv_R (zv_ad Γ) (zI (zv_val G σ a i)) w := g2
  have hval : zv_val G σ a i = σ a i := by unfold zv_val; rw [ha.2]; rfl
  rw [hval] at g2
  exact zv_rng g2
theorem zrng_fld {a : Int} {ci kf : Nat} (ha : zv_ob G a ci) (hN : ∃ r : vw_C, vwCl[ci]? = some r ∧ kf < r.2.2) (ht : zv_tag (zv_ty ci kf) = 0) (hx : G.2 a kf = none) (kk : (-2147483648 ≤ σ a kf ∧ σ a kf ≤ 2147483647) → zV Γ y f mc ms Q G u pc ls st σ) : zV Γ y f mc ms Q G u pc ls st σ := by
  intro hm he p l e s m args below meth c X H locs lsA stV hH hL hl hs
  refine kk ?_ hm he p l e s m args below meth c X H locs lsA _ hH hL hl hs
  obtain ⟨r, V, h1, h2, h3⟩ := hH.2.2 a _ ha
  obtain ⟨r2, g1, g2⟩ := hN
  cases h1.symm.trans g1
  have h4 := (h3 kf g2).1
  unfold zv_val at h4
  rw [ht, hx] at h4
  exact zv_rng h4
theorem zwiden {u2 : Nat × Nat} (h1 : u.1 ≤ u2.1) (h2 : u.2 ≤ u2.2) (kk : zV Γ y f mc ms Q G u2 pc ls st σ) : zV Γ y f mc ms Q G u pc ls st σ :=
  fun hm he p l e s m args below meth c X H locs lsA stV hH hL hl hs => W.widen h1 h2 (kk hm he p l e s m args below meth c X H locs lsA stV hH hL hl hs)
/-- the post can be weakened -/
theorem zmono {Q2 : zv_P} (h : ∀ r G' σ', Q2 r G' σ' → Q r G' σ') (kk : zV Γ y f mc ms Q2 G u pc ls st σ) : zV Γ y f mc ms Q G u pc ls st σ := by
  intro hm he p l e s m args below meth c X H locs lsA stV hH hL hl hs T hT Y
  obtain ⟨t, a1, o, b1, b2, ⟨r, G', σ', g1, g2⟩, b4⟩ := kk hm he p l e s m args below meth c X H locs lsA stV hH hL hl hs T hT Y
  exact ⟨t, a1, o, b1, b2, ⟨r, G', σ', h _ _ _ g1, g2⟩, b4⟩
end ZARR
def znw (σ : zv_H) (a : Int) (d : Int → Int) : zv_H := fun a' k' => if a' = a then d k' else σ a' k'
theorem znw_s (σ : zv_H) (a : Int) (d : Int → Int) (k : Int) : znw σ a d a k = d k := by simp [znw]
theorem znw_n {σ : zv_H} {a : Int} {d : Int → Int} {a' k' : Int} (h : ¬ a' = a) : znw σ a d a' k' = σ a' k' := by simp [znw, h]
def zdf (ci : Nat) : Int → Int := fun k => if zv_tag (zv_ty ci k.toNat) = 2 then -1 else 0
theorem zv_sh_push {G : zv_W} {sh : zv_S} {a : Int} {x : zv_S} (h : zv_sh (G.1 ++ [sh], G.2) a = some x) : (a = G.1.length ∧ x = sh) ∨ zv_sh G a = some x := by
  unfold zv_sh at h ⊢
  cases a with
  | negSucc n => cases h
  | ofNat n =>
    have h : (G.1 ++ [sh])[n]? = some x := h
    by_cases hn : n < G.1.length
    · rw [List.getElem?_append_left hn] at h
      exact Or.inr h
    · rw [List.getElem?_append_right (by omega)] at h
      have hz : n - G.1.length < 1 := (List.getElem?_eq_some_iff.mp h).1
      rw [show n - G.1.length = 0 by omega] at h
      cases h
      exact Or.inl ⟨by show (n : Int) = _; omega, rfl⟩
/-- a heap with one cell more -/
theorem zv_hR_push {Γ : zv_M} {G : zv_W} {σ : zv_H} {H H' : Heap} {sh : zv_S} {d : Int → Int} (hH : zv_hR Γ G σ H) (hsz : H'.size = H.size + 1) (hne : ∀ q, q < H.size → H'[q]? = H[q]?) (he : zv_e Γ) (hc : zv_cR Γ (G.1 ++ [sh], G.2) (znw σ G.1.length d) G.1.length sh H') : zv_hR Γ (G.1 ++ [sh], G.2) (znw σ G.1.length d) H' := by
  obtain ⟨⟨h1, h2⟩, h3, h4⟩ := hH
  refine ⟨⟨by show _ = _ + (G.1 ++ [sh]).length; rw [List.length_append, hsz]; simp only [List.length_cons, List.length_nil]; omega, by show 0 < (G.1 ++ [sh]).length; simp⟩, fun q hq => ?_, fun b sb hb => ?_⟩
  · rw [hne q (by omega)]
    exact h3 q hq
  · rcases zv_sh_push hb with ⟨rfl, rfl⟩ | hb
    · exact hc
    · have hb0 := zv_sh0 hb
      have hk := h4 b sb hb
      have hlt : zv_ad Γ b < H.size := by
        unfold zv_ad
        have := he.2.2
        split <;> omega
      have k2 : zv_cR Γ G (znw σ G.1.length d) b sb H' := zv_cR_kept hk (hne _ hlt) (fun j => by unfold zv_val; rw [znw_n (by omega)])
      cases sb with
      | inl ci => exact k2
      | inr q => exact k2
theorem zv_adN {Γ : zv_M} {G : zv_W} {σ : zv_H} {H : Heap} (h : zv_hR Γ G σ H) (h1 : 1 < G.1.length ∨ 0 < G.1.length) : zv_ad Γ G.1.length = H.size := by
  have := h.1
  unfold zv_ad
  rw [if_neg (by omega)]
  omega
section ZNEW
variable {Γ : zv_M} {y : zv_Y} {f mc ms : Nat} {Q : zv_P} {G : zv_W} {u : Nat × Nat} {pc pc' k : Nat} {ls : List (Option zv_A)} {st : List zv_A} {σ : zv_H}
theorem znewobj {idx ci : Nat} {C : String} {T : u_T} {N : Nat} (hd : y.2.2.2.2[k]? = some (pc, .new idx, 3, pc')) (hc : vwCl[ci]? = some (C, T, N)) (hin : ∀ w ∈ u_ws C T N, w ∈ lw_tbl) (hpt : ∀ k, k < N → parseFieldDescriptor (T k).2.2.1 = some (zv_ty ci k)) (hdf : ∀ j, j < N → zv_kd (zv_ty ci j)) (hx : ∀ k, G.2 G.1.length k = none)
    (hl1 : Cond.classLink y.1.cls idx C ∈ lw_tbl) (hl2 : Cond.instantiable C N ∈ lw_tbl) (hl3 : Cond.initialized C ∈ lw_tbl) (hr1 : u.1 + 1 ≤ mc) (hr2 : u.2 + N ≤ ms) (kk : zV Γ y f mc ms Q (G.1 ++ [.inl ci], G.2) (u.1 + 1, u.2 + N) pc' ls (zR G.1.length :: st) (znw σ G.1.length (zdf ci))) : zV Γ y f mc ms Q G u pc ls st σ := by
  intro hm he p l e s m args below meth c X H locs lsA stV hH hL hl hs
  obtain ⟨hdec, rfl⟩ := zv_dec hm hd
  have hu := zv_wu (s := s) (args := args) he X.2.2.2.2.2.2.2 hin
  have hKn : u_Kn s C T N (Γ.2.1.1 ci) (Γ.2.1.2 ci) := u_Kn_moved X.2.2.2.2.2.2.2.alike (he.2.1 ci _ hc)
  have had := zv_adN hH (Or.inr hH.1.2)
  refine W.newcK X.1 X.2.1 X.2.2.2.2.2.2.1 (zv_word he X.2.2.2.2.2.2.2 rfl hl1) (zv_word he X.2.2.2.2.2.2.2 rfl hl2) (zv_word he X.2.2.2.2.2.2.2 rfl hl3) rfl hdec hr1 hr2 hKn.2.1 rfl fun H1 kC hkC e1 z1 o1 => ?_
  refine kk hm he p l e s m args below meth c X H1 locs lsA (_ :: stV) (zv_hR_push hH z1 o1 he ?_) hL hl (zv_sR_mk (Or.inr ⟨by show (0 : Int) ≤ G.1.length; omega, by show _ = Value.ref (zv_ad Γ G.1.length); rw [had]⟩) hs)
  refine ⟨(C, T, N), fun j => defaultValue (zv_ty ci j), hc, by rw [had]; exact u_born (zv_ty ci) hu (fun w h => h) hKn hkC e1 hpt, fun j hj => ?_⟩
  have hv : zv_val (G.1 ++ [.inl ci], G.2) (znw σ G.1.length (zdf ci)) G.1.length j = zdf ci j := by
    show (G.2 G.1.length j).getD _ = _
    rw [hx, znw_s]
    rfl
  rw [hv]
  unfold zdf
  rw [Int.toNat_natCast]
  show zv_R (zv_ad Γ) (zv_tag (zv_ty ci j), if zv_tag (zv_ty ci j) = 2 then -1 else 0) (defaultValue (zv_ty ci j)) ∧ zv_ok (zv_ty ci j) (if zv_tag (zv_ty ci j) = 2 then -1 else 0)
  rcases hdf j hj with h | h | h | ⟨n, h⟩ | ⟨t, h⟩ <;> rw [h]
  · exact ⟨⟨0, rfl, rfl⟩, trivial⟩
  · exact ⟨⟨0, rfl, rfl⟩, Or.inl rfl⟩
  · exact ⟨⟨0, rfl, rfl⟩, trivial⟩
  · exact ⟨Or.inl ⟨by show (-1 : Int) < 0; omega, rfl⟩, trivial⟩
  · exact ⟨Or.inl ⟨by show (-1 : Int) < 0; omega, rfl⟩, trivial⟩
theorem znewarr {at_ : ArrayType} {ty : FieldType} {n : Int} (hd : y.2.2.2.2[k]? = some (pc, .newarray at_, 2, pc')) (hty : newarray.typeOf at_ = ty) (htk : ty = .int ∨ ty = .boolean ∨ ty = .long) (hn : 0 ≤ n ∧ n ≤ 60000000) (hx : ∀ k, G.2 G.1.length k = none)
    (hl1 : Cond.arrayClass ty ∈ lw_tbl) (hr1 : u.1 + 1 ≤ mc) (hr2 : u.2 + n.toNat ≤ ms) (kk : zV Γ y f mc ms Q (G.1 ++ [.inr (ty, n)], G.2) (u.1 + 1, u.2 + n.toNat) pc' ls (zR G.1.length :: st) (znw σ G.1.length (fun _ => 0))) : zV Γ y f mc ms Q G u pc ls (zI n :: st) σ := by
  intro hm he p l e s m args below meth c X H locs lsA stV hH hL hl hs
  obtain ⟨hdec, rfl⟩ := zv_dec hm hd
  obtain ⟨v, r', rfl, hv, hs1⟩ := zv_sR_cons hs
  obtain ⟨z, rfl, ez⟩ := hv
  have ez : z.toInt = n := ez
  have had := zv_adN hH (Or.inr hH.1.2)
  subst hty
  have hzn : z.toNatClampNeg = n.toNat := by show z.toInt.toNat = _; rw [ez]
  have hneg : ¬ z < 0 := by
    have e0 : (0 : Int32).toInt = 0 := rfl
    rw [Int32.lt_iff_toInt_lt, e0]
    omega
  refine va_newaK X.1 X.2.1 (zv_word he X.2.2.2.2.2.2.2 rfl hl1) rfl hdec rfl hneg hzn (by rcases htk with h | h | h <;> rw [h] <;> simp only [componentBytes] <;> omega) hr1 hr2 rfl fun H1 cA e1 z1 o1 hAr _ => ?_
  refine kk hm he p l e s m args below meth c X H1 locs lsA (_ :: r') (zv_hR_push hH z1 o1 he ?_) hL hl (zv_sR_mk (Or.inr ⟨by show (0 : Int) ≤ G.1.length; omega, by show _ = Value.ref (zv_ad Γ G.1.length); rw [had]⟩) hs1)
  refine ⟨arrV cA n.toNat (fun _ => defaultValue (newarray.typeOf at_)), by rw [had]; exact e1, ?_, (by intro h; cases h), ?_, by rw [arrV_size]; show ((n.toNat : Nat) : Int) = n; omega, by show n < 2147483648; omega, fun j hj => ?_⟩
  · exact State.isArrayOf_alike X.2.2.2.2.2.2.2.alike.symm (hAr _ _)
  · show zv_ra Γ _ (newarray.typeOf at_)
    rcases htk with h | h | h <;> rw [h] <;> trivial
  · have hj : (j : Int) < n := hj
    have hv : zv_val (G.1 ++ [.inr (newarray.typeOf at_, n)], G.2) (znw σ G.1.length (fun _ => 0)) G.1.length j = 0 := by
      show (G.2 G.1.length j).getD _ = _
      rw [hx, znw_s]
      rfl
    rw [hv]
    refine ⟨_, arrV_read _ _ (by omega), ?_⟩
    show zv_R _ (zv_tag (newarray.typeOf at_), 0) (defaultValue (newarray.typeOf at_)) ∧ zv_ok (newarray.typeOf at_) 0
    rcases htk with h | h | h <;> rw [h]
    · exact ⟨⟨0, rfl, rfl⟩, trivial⟩
    · exact ⟨⟨0, rfl, rfl⟩, Or.inl rfl⟩
    · exact ⟨⟨0, rfl, rfl⟩, trivial⟩
end ZNEW
section ZCALL
variable {Γ : zv_M} {y : zv_Y} {f mc ms : Nat} {Q : zv_P} {G : zv_W} {u : Nat × Nat} {pc pc' k : Nat} {ls : List (Option zv_A)} {st : List zv_A} {σ : zv_H}
/-- what the tables say of a method -/
def zv_mA (y' : zv_Y) (n : Nat) : Prop := Cond.initialized y'.1.cls ∈ lw_tbl ∧ Cond.code y'.1 y'.2.1 y'.2.2.1 y'.2.2.2.1 ∈ lw_tbl ∧ (y'.1.cls ≠ "java/lang/invoke/MethodHandle" ∧ y'.1.cls ≠ "java/lang/invoke/VarHandle") ∧ (parseMethodDescriptor y'.1.desc).map (fun d => d.parameters.length) = some n ∧ y'.2.2.1 ≤ 45
def zv_mV (y' : zv_Y) (n : Nat) : Prop := zv_mA y' n ∧ Cond.instanceMethod y'.1 ∈ lw_tbl ∧ Cond.selects y'.1.cls y'.1 y'.1 ∈ lw_tbl
def zv_mS (y' : zv_Y) (n : Nat) : Prop := zv_mA y' n ∧ Cond.static y'.1 ∈ lw_tbl
def zv_mC (y' : zv_Y) (n : Nat) : Prop := zv_mA y' n ∧ Cond.instanceMethod y'.1 ∈ lw_tbl ∧ y'.1.name = "<init>" ∧ y'.2.2.2.1 = none
def zv_lk (own : String) (idx : Nat) (y' : zv_Y) : Prop := Cond.methodLink own idx y'.1 ∈ lw_tbl ∨ ∃ h : String, Cond.methodLinkNest own idx y'.1 h ∈ lw_tbl
def zcat (st : List zv_A) : Nat := match st with
  | [] => 0
  | q :: r => (if q.1 == 1 then 2 else 1) + zcat r
theorem zv_cats {ad : Int → Nat} : ∀ {st : List zv_A} {vs : List Value}, zv_sR ad vs st → (vs.map fun v => v.category).sum = zcat st
  | [], vs, h => by rw [zv_sR_nil' h]; rfl
  | q :: r, vs, h => by
    obtain ⟨v, t, rfl, hv, ht⟩ := zv_sR_cons h
    have ih := zv_cats ht
    rw [List.map_cons, List.sum_cons, ih]
    show _ = (if q.1 == 1 then 2 else 1) + zcat r
    by_cases hq : (q.1 == 1) = true
    · rw [zv_R_cat2 hv hq, if_pos hq]
    · rw [zv_R_cat hv (by simpa using hq), if_neg hq]
theorem zv_sR_app {ad : Int → Nat} : ∀ {q1 q2 : List zv_A} {vs : List Value}, zv_sR ad vs (q1 ++ q2) → ∃ v1 v2, vs = v1 ++ v2 ∧ zv_sR ad v1 q1 ∧ zv_sR ad v2 q2
  | [], q2, vs, h => ⟨[], vs, rfl, zv_sR_nil, h⟩
  | q :: q1, q2, vs, h => by
    obtain ⟨v, t, rfl, hv, ht⟩ := zv_sR_cons h
    obtain ⟨v1, v2, rfl, h1, h2⟩ := zv_sR_app (q1 := q1) ht
    exact ⟨v :: v1, v2, rfl, zv_sR_mk hv h1, h2⟩
theorem zv_sR_apm {ad : Int → Nat} : ∀ {q1 q2 : List zv_A} {v1 v2 : List Value}, zv_sR ad v1 q1 → zv_sR ad v2 q2 → zv_sR ad (v1 ++ v2) (q1 ++ q2)
  | [], q2, v1, v2, h1, h2 => by rw [zv_sR_nil' h1]; exact h2
  | q :: q1, q2, v1, v2, h1, h2 => by
    obtain ⟨v, t, rfl, hv, ht⟩ := zv_sR_cons h1
    exact zv_sR_mk hv (zv_sR_apm ht h2)
theorem zv_sR_rev {ad : Int → Nat} : ∀ {qs : List zv_A} {vs : List Value}, zv_sR ad vs qs → zv_sR ad vs.reverse qs.reverse
  | [], vs, h => by rw [zv_sR_nil' h]; exact zv_sR_nil
  | q :: qs, vs, h => by
    obtain ⟨v, t, rfl, hv, ht⟩ := zv_sR_cons h
    rw [List.reverse_cons, List.reverse_cons]
    exact zv_sR_apm (zv_sR_rev ht) (zv_sR_mk hv zv_sR_nil)
theorem zv_blind {as : List zv_A} : FrameBlind (zv_Pc Γ G as σ) := fun a U g mk h => ⟨h.1, h.2.1, h.2.2⟩
theorem zv_parse {y' : zv_Y} {n : Nat} (h : (parseMethodDescriptor y'.1.desc).map (fun d => d.parameters.length) = some n) : ∀ sig, parseMethodDescriptor y'.1.desc = some sig → n = sig.parameters.length := by
  intro sig e
  rw [e] at h
  exact (Option.some.inj h).symm
theorem zv_codeW {y' : zv_Y} : ∀ w ∈ [Cond.code y'.1 y'.2.1 y'.2.2.1 y'.2.2.2.1], goodWord w = true := by
  intro w hw
  simp at hw
  subst hw
  rfl
/-- behind a call -/
theorem zv_back {mc' ms' : Nat} {Q1 : zv_P} {rest : List zv_A} {p : Program} {l : Launch} {e : Env} {s : State} {m : MethodId} {args : Array Value} {below : List Frame} {meth : Method} {c : Code} {H : Heap} {locs : List Loc} {lsA : Array Slot} {stV restV : List Value} {a : Array Value}
    (hm : zv_m y) (he : zv_e Γ) (X : zv_X y Γ p s m meth c) (hL : ∀ q ∈ locs, Γ.1.heap.size ≤ q.base) (hl : zv_lR (zv_ad Γ) lsA y.2.2.1 ls) (hrest : zv_sR (zv_ad Γ) restV rest)
    (hrun : va_Run p l e (zv_Rm f mc ms) s m args below meth c H locs u.1 u.2 mc' ms' (F0 m pc lsA stV) restV (zv_Qc Γ Q1 a) (zv_F Γ))
    (kk : ∀ r G' σ', Q1 r G' σ' → zV Γ y f mc ms Q G' (u.1 + mc', u.2 + ms') (pc + 3) ls (r.toList ++ rest) σ') :
    W p l e (zv_Rm f mc ms) s m args below meth c H locs u.1 u.2 (MQ below (zv_Qc Γ Q) args s mc ms (zv_F Γ)) (F0 m pc lsA stV) := by
  intro T hT Y
  obtain ⟨v, st₀, t, T', L, h0, X', hLL, e1, e2, ⟨r, G', σ', hq, hR, hor⟩, go⟩ := hrun T hT Y
  have hst : zv_sR (zv_ad Γ) (v.toList ++ restV) (r.toList ++ rest) := by
    cases r with
    | none =>
      have : v = none := Outcome.returned.inj hor
      subst this
      exact hrest
    | some q =>
      obtain ⟨v', hv', hr'⟩ := hor
      have : v = some v' := Outcome.returned.inj hv'
      subst this
      exact zv_sR_mk hr' hrest
  obtain ⟨t2, a1, b1⟩ := kk r G' σ' hq hm he p l e s m args below meth c X T'.heap (locs ++ L) lsA (v.toList ++ restV) (by rw [e1]; exact hR) (fun q hq => by
    rcases List.mem_append.mp hq with h | h
    · exact hL q h
    · exact hLL q h) hl hst T' rfl X'
  exact ⟨t2, go t2 a1, b1⟩
theorem zcallV {y' : zv_Y} {f' mc' ms' idx n ci : Nat} {b : Int} {as rest : List zv_A} {Q1 : zv_P} (hd : y.2.2.2.2[k]? = some (pc, .invokevirtual idx, 3, pc')) (hC : zC Γ y' f' mc' ms' G (zR b :: as) σ Q1) (hM : zv_mV y' n) (hk : zv_lk y.1.cls idx y') (hst : st = as.reverse ++ zR b :: rest) (hn : as.length = n) (hb : zv_ob G b ci) (hbc : ∃ r : vw_C, vwCl[ci]? = some r ∧ r.1 = y'.1.cls) (hz : zcat rest ≤ 8) (hf : f' + 1 ≤ f) (hmc : u.1 + mc' ≤ mc) (hms : u.2 + ms' ≤ ms)
    (kk : ∀ r G' σ', Q1 r G' σ' → zV Γ y f mc ms Q G' (u.1 + mc', u.2 + ms') pc' ls (r.toList ++ rest) σ') : zV Γ y f mc ms Q G u pc ls st σ := by
  intro hm he p l e s m args below meth c X H locs lsA stV hH hL hl hs
  obtain ⟨hdec, rfl⟩ := zv_dec hm hd
  subst hst
  obtain ⟨v1, v2, rfl, g1, g2⟩ := zv_sR_app hs
  obtain ⟨vb, rv, rfl, hvb, hrv⟩ := zv_sR_cons g2
  obtain ⟨rr, V, h1, ⟨cellB, q1, q2, q3, -⟩, -⟩ := hH.2.2 b _ hb
  obtain ⟨r2, w1, w2⟩ := hbc
  cases h1.symm.trans w1
  have hb0 := (zv_sh0 hb).1
  rcases hvb with ⟨z, -⟩ | ⟨-, rfl⟩
  · exact absurd hb0 (by show ¬ 0 ≤ b; have : b < 0 := z; omega)
  have hKn : u_Kn s rr.1 rr.2.1 rr.2.2 (Γ.2.1.1 ci) (Γ.2.1.2 ci) := u_Kn_moved X.2.2.2.2.2.2.2.alike (he.2.1 ci _ h1)
  have hrev := zv_sR_rev g1
  rw [List.reverse_reverse] at hrev
  have hlen : v1.reverse.length = n := by rw [hrev.1, hn]
  have hcat : 2 * (F0 m pc lsA (v1 ++ Value.ref (zv_ad Γ (zR b).2) :: rv)).monitorRoom + (rv.map fun v => v.category).sum ≤ 8 := lv_room (by rw [zv_cats hrv]; exact hz)
  have hpre : PreV s H y'.1.cls (zv_ad Γ b) (zv_Pc Γ G (zR b :: as) σ) v1.reverse := ⟨zv_blind, ⟨cellB, q1, by rw [q3]; rfl, by rw [q2, ← w2]; exact hKn.2.1⟩, fun U hU hW => ⟨State.WarmedH.trans X.2.2.2.2.2.2.2 hW, by rw [hU]; exact hH, _, rfl, zv_sR_mk (Or.inr ⟨hb0, rfl⟩) hrev⟩⟩
  obtain ⟨⟨m1, m2, m3, m4, m5⟩, m6, m7⟩ := hM
  have hW := X.2.2.2.2.2.2.2
  have hco : ∀ w ∈ [Cond.code y'.1 y'.2.1 y'.2.2.1 y'.2.2.2.1], ∀ (a' : Array Value) (U : State), s.WarmedH U.vm → w.before a' U = true := by
    intro w hw a' U hU
    simp at hw
    subst hw
    exact zv_word he (State.WarmedH.trans hW hU) rfl m2
  have hroom : (zv_Rm f' mc' ms').frames + 1 ≤ (zv_Rm f mc ms).frames ∧ 8 + (y'.2.2.1 + 11) + (zv_Rm f' mc' ms').locals ≤ (zv_Rm f mc ms).locals := ⟨hf, by show 8 + (y'.2.2.1 + 11) + 64 * f' ≤ 64 * f; omega⟩
  refine zv_back (a := (Value.ref (zv_ad Γ b) :: v1.reverse).toArray) hm he X hL hl hrv (stV := v1 ++ Value.ref (zv_ad Γ b) :: rv) ?_ kk
  rcases hk with hk | ⟨host, hk⟩
  · exact va_runV (Ts := []) ⟨X.1, X.2.1, X.2.2.1, X.2.2.2.2.2.2.1, fun w h => by simp at h⟩ (hC he l) ⟨⟨rfl, rfl, hroom.1, hroom.2, hco, by simp, zv_word he hW rfl m2, zv_word he hW rfl m1, m3, zv_parse m4, zv_word he hW rfl hk⟩, zv_word he hW rfl m6, zv_word he hW rfl m7⟩ hpre rfl hlen (zv_lR_len hl) (by rw [List.reverse_reverse]) hcat hdec ⟨hmc, hms⟩
  · exact va_runVN (Ts := []) (C := y'.1.cls) ⟨X.1, X.2.1, X.2.2.1, X.2.2.2.2.2.2.1, fun w h => by simp at h⟩ (hC he l) ⟨⟨⟨rfl, rfl, hroom.1, hroom.2, hco, by simp⟩, zv_word he hW rfl m2, zv_word he hW rfl m1, m3, zv_parse m4, va_Nw.use rfl (va_Nw.warmM hW (zv_nest (s := s) he hk rfl))⟩, zv_word he hW rfl m6, zv_word he hW rfl m7⟩ hpre rfl hlen (zv_lR_len hl) (by rw [List.reverse_reverse]) hcat hdec ⟨hmc, hms⟩
theorem zcallS {y' : zv_Y} {f' mc' ms' idx n : Nat} {as rest : List zv_A} {Q1 : zv_P} (hd : y.2.2.2.2[k]? = some (pc, .invokestatic idx, 3, pc')) (hC : zC Γ y' f' mc' ms' G as σ Q1) (hM : zv_mS y' n) (hk : zv_lk y.1.cls idx y') (hst : st = as.reverse ++ rest) (hn : as.length = n) (hz : zcat rest ≤ 8) (hf : f' + 1 ≤ f) (hmc : u.1 + mc' ≤ mc) (hms : u.2 + ms' ≤ ms)
    (kk : ∀ r G' σ', Q1 r G' σ' → zV Γ y f mc ms Q G' (u.1 + mc', u.2 + ms') pc' ls (r.toList ++ rest) σ') : zV Γ y f mc ms Q G u pc ls st σ := by
  intro hm he p l e s m args below meth c X H locs lsA stV hH hL hl hs
  obtain ⟨hdec, rfl⟩ := zv_dec hm hd
  subst hst
  obtain ⟨v1, rv, rfl, g1, hrv⟩ := zv_sR_app hs
  have hrev := zv_sR_rev g1
  rw [List.reverse_reverse] at hrev
  have hlen : v1.reverse.length = n := by rw [hrev.1, hn]
  have hcat : 2 * (F0 m pc lsA (v1 ++ rv)).monitorRoom + (rv.map fun v => v.category).sum ≤ 8 := lv_room (by rw [zv_cats hrv]; exact hz)
  have hpre : PreS s H (zv_Pc Γ G as σ) v1.reverse := ⟨zv_blind, fun U hU hW => ⟨State.WarmedH.trans X.2.2.2.2.2.2.2 hW, by rw [hU]; exact hH, _, rfl, hrev⟩⟩
  obtain ⟨⟨m1, m2, m3, m4, m5⟩, m6⟩ := hM
  have hW := X.2.2.2.2.2.2.2
  have hco : ∀ w ∈ [Cond.code y'.1 y'.2.1 y'.2.2.1 y'.2.2.2.1], ∀ (a' : Array Value) (U : State), s.WarmedH U.vm → w.before a' U = true := by
    intro w hw a' U hU
    simp at hw
    subst hw
    exact zv_word he (State.WarmedH.trans hW hU) rfl m2
  have hroom : (zv_Rm f' mc' ms').frames + 1 ≤ (zv_Rm f mc ms).frames ∧ 8 + (y'.2.2.1 + 11) + (zv_Rm f' mc' ms').locals ≤ (zv_Rm f mc ms).locals := ⟨hf, by show 8 + (y'.2.2.1 + 11) + 64 * f' ≤ 64 * f; omega⟩
  refine zv_back (a := v1.reverse.toArray) hm he X hL hl hrv ?_ kk
  rcases hk with hk | ⟨host, hk⟩
  · exact va_runS (Ts := []) ⟨X.1, X.2.1, X.2.2.1, X.2.2.2.2.2.2.1, fun w h => by simp at h⟩ (hC he l) ⟨⟨rfl, rfl, hroom.1, hroom.2, hco, by simp, zv_word he hW rfl m2, zv_word he hW rfl m1, m3, zv_parse m4, zv_word he hW rfl hk⟩, zv_word he hW rfl m6⟩ hpre rfl hlen (zv_lR_len hl) (by rw [List.reverse_reverse]) hcat hdec ⟨hmc, hms⟩
  · exact va_runSN (Ts := []) ⟨X.1, X.2.1, X.2.2.1, X.2.2.2.2.2.2.1, fun w h => by simp at h⟩ (hC he l) ⟨⟨⟨rfl, rfl, hroom.1, hroom.2, hco, by simp⟩, zv_word he hW rfl m2, zv_word he hW rfl m1, m3, zv_parse m4, va_Nw.use rfl (va_Nw.warmM hW (zv_nest (s := s) he hk rfl))⟩, zv_word he hW rfl m6, trivial⟩ hpre rfl hlen (zv_lR_len hl) (by rw [List.reverse_reverse]) hcat hdec ⟨hmc, hms⟩
theorem zcallI {y' : zv_Y} {f' mc' ms' idx n : Nat} {b : Int} {as rest : List zv_A} {Q1 : zv_P} (hd : y.2.2.2.2[k]? = some (pc, .invokespecial idx, 3, pc')) (hC : zC Γ y' f' mc' ms' G (zR b :: as) σ Q1) (hM : zv_mC y' n) (hk : zv_lk y.1.cls idx y') (hst : st = as.reverse ++ zR b :: rest) (hn : as.length = n) (hb : 0 ≤ b) (hz : zcat rest ≤ 8) (hf : f' + 1 ≤ f) (hmc : u.1 + mc' ≤ mc) (hms : u.2 + ms' ≤ ms)
    (kk : ∀ r G' σ', Q1 r G' σ' → zV Γ y f mc ms Q G' (u.1 + mc', u.2 + ms') pc' ls (r.toList ++ rest) σ') : zV Γ y f mc ms Q G u pc ls st σ := by
  intro hm he p l e s m args below meth c X H locs lsA stV hH hL hl hs
  obtain ⟨hdec, rfl⟩ := zv_dec hm hd
  subst hst
  obtain ⟨v1, v2, rfl, g1, g2⟩ := zv_sR_app hs
  obtain ⟨vb, rv, rfl, hvb, hrv⟩ := zv_sR_cons g2
  rcases hvb with ⟨z, -⟩ | ⟨-, rfl⟩
  · exact absurd hb (by show ¬ 0 ≤ b; have : b < 0 := z; omega)
  have hrev := zv_sR_rev g1
  rw [List.reverse_reverse] at hrev
  have hlen : v1.reverse.length = n := by rw [hrev.1, hn]
  have hcat : 2 * (F0 m pc lsA (v1 ++ Value.ref (zv_ad Γ (zR b).2) :: rv)).monitorRoom + (rv.map fun v => v.category).sum ≤ 8 := lv_room (by rw [zv_cats hrv]; exact hz)
  have hpre : PreS s H (zv_Pc Γ G (zR b :: as) σ) (.ref (zv_ad Γ b) :: v1.reverse) := ⟨zv_blind, fun U hU hW => ⟨State.WarmedH.trans X.2.2.2.2.2.2.2 hW, by rw [hU]; exact hH, _, rfl, zv_sR_mk (Or.inr ⟨hb, rfl⟩) hrev⟩⟩
  obtain ⟨⟨m1, m2, m3, m4, m5⟩, m6, m7, m8⟩ := hM
  have hW := X.2.2.2.2.2.2.2
  have hco : ∀ w ∈ [Cond.code y'.1 y'.2.1 y'.2.2.1 y'.2.2.2.1], ∀ (a' : Array Value) (U : State), s.WarmedH U.vm → w.before a' U = true := by
    intro w hw a' U hU
    simp at hw
    subst hw
    exact zv_word he (State.WarmedH.trans hW hU) rfl m2
  rw [m8] at hco m2
  have hC2 := hC he l
  rw [m8] at hC2
  have hroom : (zv_Rm f' mc' ms').frames + 1 ≤ (zv_Rm f mc ms).frames ∧ 8 + (y'.2.2.1 + 11) + (zv_Rm f' mc' ms').locals ≤ (zv_Rm f mc ms).locals := ⟨hf, by show 8 + (y'.2.2.1 + 11) + 64 * f' ≤ 64 * f; omega⟩
  refine zv_back (a := (Value.ref (zv_ad Γ b) :: v1.reverse).toArray) hm he X hL hl hrv (stV := v1 ++ Value.ref (zv_ad Γ b) :: rv) ?_ kk
  rcases hk with hk | ⟨host, hk⟩
  · exact va_runI (Ts := []) ⟨X.1, X.2.1, X.2.2.1, X.2.2.2.2.2.2.1, fun w h => by simp at h⟩ hC2 ⟨⟨rfl, rfl, hroom.1, hroom.2, hco, by simp, zv_word he hW rfl m2, zv_word he hW rfl m1, m3, zv_parse m4, zv_word he hW rfl hk⟩, m7, zv_word he hW rfl m6⟩ hpre rfl hlen (zv_lR_len hl) (by rw [List.reverse_reverse]) hcat hdec ⟨hmc, hms⟩
  · exact va_runIN (Ts := []) ⟨X.1, X.2.1, X.2.2.1, X.2.2.2.2.2.2.1, fun w h => by simp at h⟩ hC2 ⟨⟨⟨rfl, rfl, hroom.1, hroom.2, hco, by simp⟩, zv_word he hW rfl m2, zv_word he hW rfl m1, m3, zv_parse m4, va_Nw.use rfl (va_Nw.warmM hW (zv_nest (s := s) he hk rfl))⟩, m7, zv_word he hW rfl m6⟩ hpre rfl hlen (zv_lR_len hl) (by rw [List.reverse_reverse]) hcat hdec ⟨hmc, hms⟩
/-- Object.<init> -/
theorem zobjInit {idx : Nat} {a : Int} (hd : y.2.2.2.2[k]? = some (pc, .invokespecial idx, 3, pc')) (h1 : Cond.methodLink y.1.cls idx objectInit ∈ lw_tbl) (h2 : Cond.instanceMethod objectInit ∈ lw_tbl) (h3 : Cond.code objectInit ⟨#[0xb1]⟩ 1 none ∈ lw_tbl) (h0 : 0 ≤ a) (hz : zcat st = 0) (hf : 1 ≤ f) (kk : zV Γ y f mc ms Q G u pc' ls st σ) : zV Γ y f mc ms Q G u pc ls (zR a :: st) σ := by
  intro hm he p l e s m args below meth c X H locs lsA stV hH hL hl hs
  obtain ⟨hdec, rfl⟩ := zv_dec hm hd
  obtain ⟨vr, r', rfl, hvr, hs2⟩ := zv_sR_cons hs
  rcases hvr with ⟨z, -⟩ | ⟨-, rfl⟩
  · exact absurd h0 (by show ¬ 0 ≤ a; have : a < 0 := z; omega)
  have hW := X.2.2.2.2.2.2.2
  have hcat := zv_cats hs2
  exact W.objInit X.1 X.2.1 X.2.2.2.2.2.2.1 (zv_word he hW rfl h1) (zv_word he hW rfl h2) (zv_word he hW rfl h3) rfl ((zv_lR_len hl).trans X.2.2.1.symm) rfl hdec hf (by rw [hcat, hz]; show 2 * 0 + 0 + 12 ≤ 64 * f; omega) (kk hm he p l e s m args below meth c X H locs lsA r' hH hL hl hs2)
def zv_en : List zv_A → List (Option zv_A)
  | [] => []
  | q :: qs => if q.1 == 1 then some q :: none :: zv_en qs else some q :: zv_en qs
def zv_ent (as : List zv_A) (n : Nat) : List (Option zv_A) := zv_en as ++ List.replicate (n - (zv_en as).length) none
theorem zv_en_at {ad : Int → Nat} : ∀ {as : List zv_A} {vs : List Value} (b : Nat), zv_sR ad vs as → (lg_sl vs).length = (zv_en as).length ∧ ∀ (i : Nat) (q : zv_A), (zv_en as)[i]? = some (some q) → ∃ v, (b + i, v) ∈ lv_args b vs ∧ zv_R ad q v
  | [], vs, b, h => by
    rw [zv_sR_nil' h]
    exact ⟨rfl, fun i q h => by simp [zv_en] at h⟩
  | q :: qs, vs, b, h => by
    obtain ⟨v, t, rfl, hv, ht⟩ := zv_sR_cons h
    by_cases hq : (q.1 == 1) = true
    · have hc := zv_R_cat2 hv hq
      obtain ⟨ih1, ih2⟩ := zv_en_at (b + 2) ht
      have e1 : zv_en (q :: qs) = some q :: none :: zv_en qs := by simp only [zv_en]; rw [if_pos hq]
      have e2 : lg_sl (v :: t) = [Slot.val v, Slot.second] ++ lg_sl t := by simp [lg_sl, hc]
      refine ⟨by rw [e1, e2]; simp [ih1], fun i q' hi => ?_⟩
      rw [e1] at hi
      match i, hi with
      | 0, hi => cases hi; exact ⟨v, List.mem_cons_self, hv⟩
      | 1, hi => cases hi
      | i + 2, hi =>
        obtain ⟨w, hw, hr⟩ := ih2 i q' (by simpa using hi)
        refine ⟨w, ?_, hr⟩
        show (b + (i + 2), w) ∈ (b, v) :: lv_args (if v.category = 2 then b + 2 else b + 1) t
        rw [if_pos hc, show b + (i + 2) = b + 2 + i by omega]
        exact List.mem_cons_of_mem _ hw
    · have hc := zv_R_cat hv (by simpa using hq)
      obtain ⟨ih1, ih2⟩ := zv_en_at (b + 1) ht
      have e1 : zv_en (q :: qs) = some q :: zv_en qs := by simp only [zv_en]; rw [if_neg hq]
      have e2 : lg_sl (v :: t) = [Slot.val v] ++ lg_sl t := by simp [lg_sl, hc]
      refine ⟨by rw [e1, e2]; simp [ih1], fun i q' hi => ?_⟩
      rw [e1] at hi
      match i, hi with
      | 0, hi => cases hi; exact ⟨v, List.mem_cons_self, hv⟩
      | i + 1, hi =>
        obtain ⟨w, hw, hr⟩ := ih2 i q' (by simpa using hi)
        refine ⟨w, ?_, hr⟩
        show (b + (i + 1), w) ∈ (b, v) :: lv_args (if v.category = 2 then b + 2 else b + 1) t
        rw [if_neg (by omega), show b + (i + 1) = b + 1 + i by omega]
        exact List.mem_cons_of_mem _ hw
theorem zC_of {as : List zv_A} {ls0 : List (Option zv_A)} (hm : zv_m y) (hp : plainName y.1.cls = true) (hls : zv_ent as y.2.2.1 = ls0) (hlen : (zv_en as).length ≤ y.2.2.1) (h : zV Γ y f mc ms Q G (0, 0) 0 ls0 [] σ) : zC Γ y f mc ms G as σ Q := by
  intro he l
  refine Met.ofW (cc := y.2.1) (maxL := y.2.2.1) (ret := y.2.2.2.1) hp rfl ?_
  intro p e s m args below meth c s₁ B hml hv
  obtain ⟨hW, hR, vs, rfl, hvs⟩ := hv
  obtain ⟨hl1, hl2⟩ := zv_en_at 0 hvs
  have hl := lv_entry vs (n := y.2.2.1) (by rw [hl1]; exact hlen)
  rw [lg_entry_eq]
  refine h hm he p l e s m _ below meth c ⟨B.exec, B.bytes, hml, B.returns, B.notSynchronized, (name_of_methodNamed B.named B.method).1, findClass_of_methodNamed B.named, hW⟩ s.heap [] _ [] hR (fun q hq => by simp at hq) ⟨?_, _, hl, fun i q hi => ?_⟩ zv_sR_nil
  · rw [← hls]
    simp only [zv_ent, List.length_append, List.length_replicate]
    omega
  · rw [← hls] at hi
    unfold zv_ent at hi
    by_cases hlt : i < (zv_en as).length
    · rw [List.getElem?_append_left hlt] at hi
      obtain ⟨v, hv, hr⟩ := hl2 i q hi
      rw [Nat.zero_add] at hv
      exact ⟨v, hv, hr⟩
    · rw [List.getElem?_append_right (by omega), List.getElem?_replicate] at hi
      split at hi <;> cases hi
end ZCALL
