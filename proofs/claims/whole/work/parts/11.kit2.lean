/-! ROWS THAT SIMPLIFY: no overflow, no sign, masks, switches -/
theorem zand_m {x m : Int} (k : Nat) (hk : k ≤ 31) (hm : m = 2 ^ k - 1) (hx : -2147483648 ≤ x ∧ x ≤ 2147483647) : zand x m = x % 2 ^ k := by
  have hp : (2 : Int) ^ k = ((2 ^ k : Nat) : Int) := by simp
  have hpos : 0 < 2 ^ k := Nat.two_pow_pos k
  have hle : 2 ^ k ≤ 2 ^ 31 := Nat.pow_le_pow_right (by decide) hk
  have hmI : m = ((2 ^ k - 1 : Nat) : Int) := by rw [hm, hp]; omega
  have hmN : (Int32.ofInt m).toBitVec.toNat = 2 ^ k - 1 := by
    show (BitVec.ofInt 32 m).toNat = 2 ^ k - 1
    rw [BitVec.toNat_ofInt, hmI]
    omega
  have hxN : (((Int32.ofInt x).toBitVec.toNat : Nat) : Int) = x % 4294967296 := by
    show (((BitVec.ofInt 32 x).toNat : Nat) : Int) = x % 4294967296
    rw [BitVec.toNat_ofInt]
    omega
  have hlt : (Int32.ofInt x).toBitVec.toNat % 2 ^ k < 2 ^ k := Nat.mod_lt _ hpos
  unfold zand
  rw [pk_and _ k hmN, nI_toInt (by omega), Int.natCast_emod, hxN, ← hp]
  exact Int.emod_emod_of_dvd x (by
    refine ⟨2 ^ (32 - k), ?_⟩
    rw [← Int.pow_add, show k + (32 - k) = 32 by omega]
    rfl)
section ZK2
variable {Γ : zv_M} {y : zv_Y} {f mc ms : Nat} {Q : zv_P} {G : zv_W} {u : Nat × Nat} {pc pc' k : Nat} {ls : List (Option zv_A)} {st : List zv_A} {σ : zv_H}
theorem ziaddB {x y0 : Int} (hd : y.2.2.2.2[k]? = some (pc, .iadd, 1, pc')) (hb : -2147483648 ≤ x + y0 ∧ x + y0 ≤ 2147483647) (kk : zV Γ y f mc ms Q G u pc' ls (zI (x + y0) :: st) σ) : zV Γ y f mc ms Q G u pc ls (zI y0 :: zI x :: st) σ :=
  ziadd hd (by rw [w32_id hb.1 hb.2]; exact kk)
theorem zisubB {x y0 : Int} (hd : y.2.2.2.2[k]? = some (pc, .isub, 1, pc')) (hb : -2147483648 ≤ x - y0 ∧ x - y0 ≤ 2147483647) (kk : zV Γ y f mc ms Q G u pc' ls (zI (x - y0) :: st) σ) : zV Γ y f mc ms Q G u pc ls (zI y0 :: zI x :: st) σ :=
  zisub hd (by rw [w32_id hb.1 hb.2]; exact kk)
theorem zimulB {x y0 : Int} (hd : y.2.2.2.2[k]? = some (pc, .imul, 1, pc')) (hb : -2147483648 ≤ x * y0 ∧ x * y0 ≤ 2147483647) (kk : zV Γ y f mc ms Q G u pc' ls (zI (x * y0) :: st) σ) : zV Γ y f mc ms Q G u pc ls (zI y0 :: zI x :: st) σ :=
  zimul hd (by rw [w32_id hb.1 hb.2]; exact kk)
theorem zladdB {x y0 : Int} (hd : y.2.2.2.2[k]? = some (pc, .ladd, 1, pc')) (hb : -9223372036854775808 ≤ x + y0 ∧ x + y0 ≤ 9223372036854775807) (kk : zV Γ y f mc ms Q G u pc' ls (zL (x + y0) :: st) σ) : zV Γ y f mc ms Q G u pc ls (zL y0 :: zL x :: st) σ :=
  zladd hd (by rw [w64_id hb.1 hb.2]; exact kk)
theorem zlsubB {x y0 : Int} (hd : y.2.2.2.2[k]? = some (pc, .lsub, 1, pc')) (hb : -9223372036854775808 ≤ x - y0 ∧ x - y0 ≤ 9223372036854775807) (kk : zV Γ y f mc ms Q G u pc' ls (zL (x - y0) :: st) σ) : zV Γ y f mc ms Q G u pc ls (zL y0 :: zL x :: st) σ :=
  zlsub hd (by rw [w64_id hb.1 hb.2]; exact kk)
theorem zlmulB {x y0 : Int} (hd : y.2.2.2.2[k]? = some (pc, .lmul, 1, pc')) (hb : -9223372036854775808 ≤ x * y0 ∧ x * y0 ≤ 9223372036854775807) (kk : zV Γ y f mc ms Q G u pc' ls (zL (x * y0) :: st) σ) : zV Γ y f mc ms Q G u pc ls (zL y0 :: zL x :: st) σ :=
  zlmul hd (by rw [w64_id hb.1 hb.2]; exact kk)
theorem zgI {idx ci kf : Nat} {a : Int} (kz : Int) (hd : y.2.2.2.2[k]? = some (pc, .getfield idx, 3, pc')) (hsh : zv_ob G a ci) (hF : zv_fl y.1.cls idx ci kf 0) (hkz : (kf : Int) = kz) (hx : G.2 a kz = none) (kk : zV Γ y f mc ms Q G u pc' ls (zI (σ a kz) :: st) σ) : zV Γ y f mc ms Q G u pc ls (zR a :: st) σ := by
  subst hkz
  exact zgetI hd hsh hF hx kk
theorem zgL {idx ci kf : Nat} {a : Int} (kz : Int) (hd : y.2.2.2.2[k]? = some (pc, .getfield idx, 3, pc')) (hsh : zv_ob G a ci) (hF : zv_fl y.1.cls idx ci kf 1) (hkz : (kf : Int) = kz) (hx : G.2 a kz = none) (kk : zV Γ y f mc ms Q G u pc' ls (zL (σ a kz) :: st) σ) : zV Γ y f mc ms Q G u pc ls (zR a :: st) σ := by
  subst hkz
  exact zgetL hd hsh hF hx kk
theorem zgR {idx ci kf : Nat} {a : Int} (kz : Int) (hd : y.2.2.2.2[k]? = some (pc, .getfield idx, 3, pc')) (hsh : zv_ob G a ci) (hF : zv_fl y.1.cls idx ci kf 2) (hkz : (kf : Int) = kz) (hx : G.2 a kz = none) (kk : zV Γ y f mc ms Q G u pc' ls (zR (σ a kz) :: st) σ) : zV Γ y f mc ms Q G u pc ls (zR a :: st) σ := by
  subst hkz
  exact zgetR hd hsh hF hx kk
theorem zgF {idx ci kf tag : Nat} {a z : Int} (kz : Int) (hd : y.2.2.2.2[k]? = some (pc, .getfield idx, 3, pc')) (hsh : zv_ob G a ci) (hF : zv_fl y.1.cls idx ci kf tag) (hkz : (kf : Int) = kz) (hx : G.2 a kz = some z) (kk : zV Γ y f mc ms Q G u pc' ls ((tag, z) :: st) σ) : zV Γ y f mc ms Q G u pc ls (zR a :: st) σ := by
  subst hkz
  exact zgetF hd hsh hF hx kk
theorem zpI {idx ci kf : Nat} {a v : Int} (kz : Int) (hd : y.2.2.2.2[k]? = some (pc, .putfield idx, 3, pc')) (hsh : zv_ob G a ci) (hF : zv_fl y.1.cls idx ci kf 0) (hnf : zv_nf ci kf false) (h : zv_ty ci kf = .int) (ha : 0 < a) (hkz : (kf : Int) = kz) (hx : G.2 a kz = none) (kk : zV Γ y f mc ms Q G u pc' ls st (zup σ a kz v)) : zV Γ y f mc ms Q G u pc ls (zI v :: zR a :: st) σ := by
  subst hkz
  exact zputfield (q := zI v) hd hsh hF hnf (Or.inl h) (by rw [h]; exact trivial) ha hx kk
theorem zpZ {idx ci kf : Nat} {a v : Int} (kz : Int) (hd : y.2.2.2.2[k]? = some (pc, .putfield idx, 3, pc')) (hsh : zv_ob G a ci) (hF : zv_fl y.1.cls idx ci kf 0) (hnf : zv_nf ci kf false) (h : zv_ty ci kf = .boolean) (hv : v = 0 ∨ v = 1) (ha : 0 < a) (hkz : (kf : Int) = kz) (hx : G.2 a kz = none) (kk : zV Γ y f mc ms Q G u pc' ls st (zup σ a kz v)) : zV Γ y f mc ms Q G u pc ls (zI v :: zR a :: st) σ := by
  subst hkz
  exact zputfield (q := zI v) hd hsh hF hnf (Or.inr (Or.inl h)) (by rw [h]; exact hv) ha hx kk
theorem zpL {idx ci kf : Nat} {a v : Int} (kz : Int) (hd : y.2.2.2.2[k]? = some (pc, .putfield idx, 3, pc')) (hsh : zv_ob G a ci) (hF : zv_fl y.1.cls idx ci kf 1) (hnf : zv_nf ci kf false) (h : zv_ty ci kf = .long) (ha : 0 < a) (hkz : (kf : Int) = kz) (hx : G.2 a kz = none) (kk : zV Γ y f mc ms Q G u pc' ls st (zup σ a kz v)) : zV Γ y f mc ms Q G u pc ls (zL v :: zR a :: st) σ := by
  subst hkz
  exact zputfield (q := zL v) hd hsh hF hnf (Or.inr (Or.inr (Or.inl h))) (by rw [h]; exact trivial) ha hx kk
theorem zpR {idx ci kf : Nat} {a v : Int} {C : String} (kz : Int) (hd : y.2.2.2.2[k]? = some (pc, .putfield idx, 3, pc')) (hsh : zv_ob G a ci) (hF : zv_fl y.1.cls idx ci kf 2) (hnf : zv_nf ci kf false) (h : zv_ty ci kf = .object C) (ha : 0 < a) (hkz : (kf : Int) = kz) (hx : G.2 a kz = none) (kk : zV Γ y f mc ms Q G u pc' ls st (zup σ a kz v)) : zV Γ y f mc ms Q G u pc ls (zR v :: zR a :: st) σ := by
  subst hkz
  exact zputfield (q := zR v) hd hsh hF hnf (Or.inr (Or.inr (Or.inr (Or.inl ⟨_, h⟩)))) (by rw [h]; trivial) ha hx kk
theorem zv_ofWF {l : Launch} {y : MethodName} {ws ws' : List Cond} {rm : Room} {Pc : Array Value → State → Prop} {Qc : Array Value → State → Outcome → State → Prop} {mc ms : Nat} {free : Addr → Prop} {cc : ByteArray} {maxL : Nat} {ret : Option FieldType}
    (hy : plainFor y = true) (hw : ws = Cond.code y cc maxL ret :: ws')
    (body : ∀ (p : Program) (e : Env) (s : State) (m : MethodId) (args : Array Value) (below : List Frame) (meth : Method) (c : Code) (s₁ : State), BodyLoose p l y (headSpec ws rm) cc maxL ret e s m args below meth c s₁ → c.maxLocals = maxL → Pc args s →
      W p l e (headSpec ws rm).room s m args below meth c s.heap [] 0 0 (MQ below Qc args s mc ms free) (entryFrame m args maxL)) : Met l y ws rm Pc Qc mc ms free := by
  refine MetFree.of_bodySF (code := cc) (maxLocals := maxL) (ret := ret) hy ?_ ?_
  · intro args s m h hn
    obtain ⟨meth, c, h1, h2, h3, h4, h5, h6, -, -⟩ := Cond.code_spec hn (atoms_spec (ws := ws) h _ (by rw [hw]; exact List.mem_cons_self))
    exact ⟨meth, c, h1, h2, h3, h4, h5, h6⟩
  · intro p e s m args below meth c s₁ B hml hP _
    have hh0 : s₁.heap = s.heap := by rw [B.state]; rfl
    obtain ⟨t, a1, o, b1, b2, b3⟩ := body p e s m args below meth c s₁ B hml hP s₁ hh0 (Stand.of_body B)
    exact ⟨t, o, a1, b1, b2, ⟨b3.1, b3.2⟩⟩
theorem zC_ofJ {as : List zv_A} {ls0 : List (Option zv_A)} (hm : zv_m y) (hp : plainFor y.1 = true) (hls : zv_ent as y.2.2.1 = ls0) (hlen : (zv_en as).length ≤ y.2.2.1) (h : zV Γ y f mc ms Q G (0, 0) 0 ls0 [] σ) : zC Γ y f mc ms G as σ Q := by
  intro he l
  refine zv_ofWF (cc := y.2.1) (maxL := y.2.2.1) (ret := y.2.2.2.1) hp rfl ?_
  intro p e s m args below meth c s₁ B hml hv
  obtain ⟨hW, hR, vs, rfl, hvs⟩ := hv
  obtain ⟨hl1, hl2⟩ := zv_en_at 0 hvs
  have hl := lv_entry vs (n := y.2.2.1) (by rw [hl1]; exact hlen)
  rw [lg_entry_eq]
  refine h hm he p l e s m _ below meth c ⟨B.exec, B.bytes, hml, B.returns, B.notSynchronized, (name_of_methodNamed B.named B.method).1, findClass_of_methodNamed B.named, hW⟩ s.heap [] _ [] hR (fun q hq => by simp at hq) ⟨?_, _, hl, fun i q hi => ?_⟩ zv_sR_nil
  · rw [← hls]
    simp only [zv_ent, List.length_append, List.length_replicate]
    omega
  · rw [← hls] at hi
    unfold zv_ent at hi
    by_cases hlt : i < (zv_en as).length
    · rw [List.getElem?_append_left hlt] at hi
      obtain ⟨v, hv, hr⟩ := hl2 i q hi
      rw [Nat.zero_add] at hv
      exact ⟨v, hv, hr⟩
    · rw [List.getElem?_append_right (by omega), List.getElem?_replicate] at hi
      split at hi <;> cases hi
theorem zforget {ls' : List (Option zv_A)} (i : Nat) (hls : ls.set i none = ls') (kk : zV Γ y f mc ms Q G u pc ls' st σ) : zV Γ y f mc ms Q G u pc ls st σ := by
  subst hls
  intro hm he p l e s m args below meth c X H locs lsA stV hH hL hl hs
  refine kk hm he p l e s m args below meth c X H locs lsA stV hH hL ⟨by rw [List.length_set]; exact hl.1, ?_⟩ hs
  obtain ⟨lv, h1, h2⟩ := hl.2
  refine ⟨lv, h1, fun j q hj => h2 j q ?_⟩
  by_cases e : j = i
  · subst e
    by_cases hlt : j < ls.length
    · rw [List.getElem?_set_self hlt] at hj
      cases hj
    · rw [List.getElem?_eq_none (by rw [List.length_set]; omega)] at hj
      cases hj
  · rw [List.getElem?_set_ne (Ne.symm e)] at hj
    exact hj
theorem ziincB {i : Nat} {n x : Int} {ls' : List (Option zv_A)} (hd : y.2.2.2.2[k]? = some (pc, .iinc i n, 3, pc')) (hx : ls[i]? = some (some (zI x))) (hn : -2147483648 ≤ n ∧ n ≤ 2147483647) (hb : -2147483648 ≤ x + n ∧ x + n ≤ 2147483647) (hls : zv_s1 ls i (zI (x + n)) = ls') (kk : zV Γ y f mc ms Q G u pc' ls' st σ) : zV Γ y f mc ms Q G u pc ls st σ :=
  ziinc hd hx hn (by rw [w32_id hb.1 hb.2]; exact hls) kk
theorem zidivP {x y0 : Int} (hd : y.2.2.2.2[k]? = some (pc, .idiv, 1, pc')) (hb : 0 ≤ x ∧ x ≤ 2147483647 ∧ 0 < y0) (kk : zV Γ y f mc ms Q G u pc' ls (zI (x / y0) :: st) σ) : zV Γ y f mc ms Q G u pc ls (zI y0 :: zI x :: st) σ :=
  zidiv hd (by omega) (by
    have e : x.tdiv y0 = x / y0 := Int.tdiv_eq_ediv_of_nonneg hb.1
    have h1 : 0 ≤ x / y0 := Int.ediv_nonneg hb.1 (by omega)
    have h2 : x / y0 ≤ x := Int.ediv_le_self _ hb.1
    rw [e, w32_id (by omega) (by omega)]; exact kk)
theorem ziremP {x y0 : Int} (hd : y.2.2.2.2[k]? = some (pc, .irem, 1, pc')) (hb : 0 ≤ x ∧ 0 < y0) (kk : zV Γ y f mc ms Q G u pc' ls (zI (x % y0) :: st) σ) : zV Γ y f mc ms Q G u pc ls (zI y0 :: zI x :: st) σ :=
  zirem hd (by omega) (by rw [Int.tmod_eq_emod_of_nonneg hb.1]; exact kk)
theorem zldivP {x y0 : Int} (hd : y.2.2.2.2[k]? = some (pc, .ldiv, 1, pc')) (hb : 0 ≤ x ∧ x ≤ 9223372036854775807 ∧ 0 < y0) (kk : zV Γ y f mc ms Q G u pc' ls (zL (x / y0) :: st) σ) : zV Γ y f mc ms Q G u pc ls (zL y0 :: zL x :: st) σ :=
  zldiv hd (by omega) (by
    have e : x.tdiv y0 = x / y0 := Int.tdiv_eq_ediv_of_nonneg hb.1
    have h1 : 0 ≤ x / y0 := Int.ediv_nonneg hb.1 (by omega)
    have h2 : x / y0 ≤ x := Int.ediv_le_self _ hb.1
    rw [e, w64_id (by omega) (by omega)]; exact kk)
theorem zlremP {x y0 : Int} (hd : y.2.2.2.2[k]? = some (pc, .lrem, 1, pc')) (hb : 0 ≤ x ∧ 0 < y0) (kk : zV Γ y f mc ms Q G u pc' ls (zL (x % y0) :: st) σ) : zV Γ y f mc ms Q G u pc ls (zL y0 :: zL x :: st) σ :=
  zlrem hd (by omega) (by rw [Int.tmod_eq_emod_of_nonneg hb.1]; exact kk)
theorem ztabC {dflt lo hi : Int} {offs : Array Int} {len : Nat} {x off v : Int} {tgt : Nat} (j : Nat) (hd : y.2.2.2.2[k]? = some (pc, .tableswitch dflt lo hi offs, len, pc')) (hv : lo + (j : Int) = v) (hj : v ≤ hi) (ho : offs[j]? = some off) (ht : (pc : Int) + off = (tgt : Int)) (kin : x = v → zV Γ y f mc ms Q G u tgt ls st σ) (kout : x ≠ v → zV Γ y f mc ms Q G u pc ls (zI x :: st) σ) : zV Γ y f mc ms Q G u pc ls (zI x :: st) σ := by
  by_cases h : x = v
  · exact ztabIn j hd (by omega) (by omega) ho ht (kin h)
  · exact kout h
theorem zlookC {dflt : Int} {ps : Array (Int × Int)} {len : Nat} {x off v : Int} {tgt : Nat} (hd : y.2.2.2.2[k]? = some (pc, .lookupswitch dflt ps, len, pc')) (hp : (ps.toList.zip (ps.toList.drop 1)).all (fun (a, next) => a.1 < next.1) = true) (ho : Op.lookupswitch.offset ps.toList dflt v = off) (ht : (pc : Int) + off = (tgt : Int)) (kin : x = v → zV Γ y f mc ms Q G u tgt ls st σ) (kout : x ≠ v → zV Γ y f mc ms Q G u pc ls (zI x :: st) σ) : zV Γ y f mc ms Q G u pc ls (zI x :: st) σ := by
  by_cases h : x = v
  · exact zlook hd hp (by rw [h]; exact ho) ht (kin h)
  · exact kout h
theorem ziandM {x m : Int} (kb : Nat) (hd : y.2.2.2.2[k]? = some (pc, .iand, 1, pc')) (hk : kb ≤ 31) (hm : m = 2 ^ kb - 1) (p2 : Int) (hp : (2 : Int) ^ kb = p2) (kk : zV Γ y f mc ms Q G u pc' ls (zI (x % p2) :: st) σ) : zV Γ y f mc ms Q G u pc ls (zI m :: zI x :: st) σ := by
  intro hmm he p l e s mm args below meth c X H locs lsA stV hH hL hl hs
  obtain ⟨v, r', rfl, hv, hs1⟩ := zv_sR_cons hs
  obtain ⟨v2, r', rfl, hv2, hs2⟩ := zv_sR_cons hs1
  have e1 := zand_m kb hk hm (zv_rng hv2)
  rw [hp] at e1
  exact ziand hd (by rw [e1]; exact kk) hmm he p l e s mm args below meth c X H locs lsA _ hH hL hl hs
end ZK2
