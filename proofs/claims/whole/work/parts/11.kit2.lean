/-! ROWS THAT SIMPLIFY: no overflow, no sign, masks, switches -/
theorem zand_m {x m : Int} (k : Nat) (hk : k ≤ 31) (hm : m = 2 ^ k - 1) (hx : -2147483648 ≤ x ∧ x ≤ 2147483647) : zand x m = x % 2 ^ k := by
  have hp : (2 : Int) ^ k = ((2 ^ k : Nat) : Int) := by simp
  have hpos : 0 < 2 ^ k := Nat.two_pow_pos k
  have hle : 2 ^ k ≤ 2 ^ 31 := Nat.pow_le_pow_right (by decide) hk
  have hmI : m = ((2 ^ k - 1 : Nat) : Int) := by rw [hm, hp]; omega
  have hmN : (Int32.ofInt m).toBitVec.toNat = 2 ^ k - 1 := by
    show (BitVec.ofInt 32 m).toNat = 2 ^ k - 1
    rw [BitVec.toNat_ofInt, hmI]
    omega
  have hxN : (((Int32.ofInt x).toBitVec.toNat : Nat) : Int) = x % 4294967296 := by
    show (((BitVec.ofInt 32 x).toNat : Nat) : Int) = x % 4294967296
    rw [BitVec.toNat_ofInt]
    omega
  have hlt : (Int32.ofInt x).toBitVec.toNat % 2 ^ k < 2 ^ k := Nat.mod_lt _ hpos
  unfold zand
  rw [pk_and _ k hmN, nI_toInt (by omega), Int.natCast_emod, hxN, ← hp]
  exact Int.emod_emod_of_dvd x (by
    refine ⟨2 ^ (32 - k), ?_⟩
    rw [← Int.pow_add, show k + (32 - k) = 32 by omega]
    rfl)
section ZK2
variable {Γ : zv_M} {y : zv_Y} {f mc ms : Nat} {Q : zv_P} {G : zv_W} {u : Nat × Nat} {pc pc' k : Nat} {ls : List (Option zv_A)} {st : List zv_A} {σ : zv_H}
theorem ziaddB {x y0 : Int} (hd : y.2.2.2.2[k]? = some (pc, .iadd, 1, pc')) (hb : -2147483648 ≤ x + y0 ∧ x + y0 ≤ 2147483647) (kk : zV Γ y f mc ms Q G u pc' ls (zI (x + y0) :: st) σ) : zV Γ y f mc ms Q G u pc ls (zI y0 :: zI x :: st) σ :=
  ziadd hd (by rw [w32_id hb.1 hb.2]; exact kk)
theorem zisubB {x y0 : Int} (hd : y.2.2.2.2[k]? = some (pc, .isub, 1, pc')) (hb : -2147483648 ≤ x - y0 ∧ x - y0 ≤ 2147483647) (kk : zV Γ y f mc ms Q G u pc' ls (zI (x - y0) :: st) σ) : zV Γ y f mc ms Q G u pc ls (zI y0 :: zI x :: st) σ :=
  zisub hd (by rw [w32_id hb.1 hb.2]; exact kk)
theorem zimulB {x y0 : Int} (hd : y.2.2.2.2[k]? = some (pc, .imul, 1, pc')) (hb : -2147483648 ≤ x * y0 ∧ x * y0 ≤ 2147483647) (kk : zV Γ y f mc ms Q G u pc' ls (zI (x * y0) :: st) σ) : zV Γ y f mc ms Q G u pc ls (zI y0 :: zI x :: st) σ :=
  zimul hd (by rw [w32_id hb.1 hb.2]; exact kk)
theorem zladdB {x y0 : Int} (hd : y.2.2.2.2[k]? = some (pc, .ladd, 1, pc')) (hb : -9223372036854775808 ≤ x + y0 ∧ x + y0 ≤ 9223372036854775807) (kk : zV Γ y f mc ms Q G u pc' ls (zL (x + y0) :: st) σ) : zV Γ y f mc ms Q G u pc ls (zL y0 :: zL x :: st) σ :=
  zladd hd (by rw [w64_id hb.1 hb.2]; exact kk)
theorem zlsubB {x y0 : Int} (hd : y.2.2.2.2[k]? = some (pc, .lsub, 1, pc')) (hb : -9223372036854775808 ≤ x - y0 ∧ x - y0 ≤ 9223372036854775807) (kk : zV Γ y f mc ms Q G u pc' ls (zL (x - y0) :: st) σ) : zV Γ y f mc ms Q G u pc ls (zL y0 :: zL x :: st) σ :=
  zlsub hd (by rw [w64_id hb.1 hb.2]; exact kk)
theorem zlmulB {x y0 : Int} (hd : y.2.2.2.2[k]? = some (pc, .lmul, 1, pc')) (hb : -9223372036854775808 ≤ x * y0 ∧ x * y0 ≤ 9223372036854775807) (kk : zV Γ y f mc ms Q G u pc' ls (zL (x * y0) :: st) σ) : zV Γ y f mc ms Q G u pc ls (zL y0 :: zL x :: st) σ :=
  zlmul hd (by rw [w64_id hb.1 hb.2]; exact kk)
theorem ziincB {i : Nat} {n x : Int} {ls' : List (Option zv_A)} (hd : y.2.2.2.2[k]? = some (pc, .iinc i n, 3, pc')) (hx : ls[i]? = some (some (zI x))) (hn : -2147483648 ≤ n ∧ n ≤ 2147483647) (hb : -2147483648 ≤ x + n ∧ x + n ≤ 2147483647) (hls : zv_s1 ls i (zI (x + n)) = ls') (kk : zV Γ y f mc ms Q G u pc' ls' st σ) : zV Γ y f mc ms Q G u pc ls st σ :=
  ziinc hd hx hn (by rw [w32_id hb.1 hb.2]; exact hls) kk
theorem zidivP {x y0 : Int} (hd : y.2.2.2.2[k]? = some (pc, .idiv, 1, pc')) (hb : 0 ≤ x ∧ x ≤ 2147483647 ∧ 0 < y0) (kk : zV Γ y f mc ms Q G u pc' ls (zI (x / y0) :: st) σ) : zV Γ y f mc ms Q G u pc ls (zI y0 :: zI x :: st) σ :=
  zidiv hd (by omega) (by
    have e : x.tdiv y0 = x / y0 := Int.tdiv_eq_ediv_of_nonneg hb.1
    have h1 : 0 ≤ x / y0 := Int.ediv_nonneg hb.1 (by omega)
    have h2 : x / y0 ≤ x := Int.ediv_le_self _ hb.1
    rw [e, w32_id (by omega) (by omega)]; exact kk)
theorem ziremP {x y0 : Int} (hd : y.2.2.2.2[k]? = some (pc, .irem, 1, pc')) (hb : 0 ≤ x ∧ 0 < y0) (kk : zV Γ y f mc ms Q G u pc' ls (zI (x % y0) :: st) σ) : zV Γ y f mc ms Q G u pc ls (zI y0 :: zI x :: st) σ :=
  zirem hd (by omega) (by rw [Int.tmod_eq_emod_of_nonneg hb.1]; exact kk)
theorem zldivP {x y0 : Int} (hd : y.2.2.2.2[k]? = some (pc, .ldiv, 1, pc')) (hb : 0 ≤ x ∧ x ≤ 9223372036854775807 ∧ 0 < y0) (kk : zV Γ y f mc ms Q G u pc' ls (zL (x / y0) :: st) σ) : zV Γ y f mc ms Q G u pc ls (zL y0 :: zL x :: st) σ :=
  zldiv hd (by omega) (by
    have e : x.tdiv y0 = x / y0 := Int.tdiv_eq_ediv_of_nonneg hb.1
    have h1 : 0 ≤ x / y0 := Int.ediv_nonneg hb.1 (by omega)
    have h2 : x / y0 ≤ x := Int.ediv_le_self _ hb.1
    rw [e, w64_id (by omega) (by omega)]; exact kk)
theorem zlremP {x y0 : Int} (hd : y.2.2.2.2[k]? = some (pc, .lrem, 1, pc')) (hb : 0 ≤ x ∧ 0 < y0) (kk : zV Γ y f mc ms Q G u pc' ls (zL (x % y0) :: st) σ) : zV Γ y f mc ms Q G u pc ls (zL y0 :: zL x :: st) σ :=
  zlrem hd (by omega) (by rw [Int.tmod_eq_emod_of_nonneg hb.1]; exact kk)
theorem ztabC {dflt lo hi : Int} {offs : Array Int} {len : Nat} {x off v : Int} {tgt : Nat} (j : Nat) (hd : y.2.2.2.2[k]? = some (pc, .tableswitch dflt lo hi offs, len, pc')) (hv : lo + (j : Int) = v) (hj : v ≤ hi) (ho : offs[j]? = some off) (ht : (pc : Int) + off = (tgt : Int)) (kin : x = v → zV Γ y f mc ms Q G u tgt ls st σ) (kout : x ≠ v → zV Γ y f mc ms Q G u pc ls (zI x :: st) σ) : zV Γ y f mc ms Q G u pc ls (zI x :: st) σ := by
  by_cases h : x = v
  · exact ztabIn j hd (by omega) (by omega) ho ht (kin h)
  · exact kout h
theorem zlookC {dflt : Int} {ps : Array (Int × Int)} {len : Nat} {x off v : Int} {tgt : Nat} (hd : y.2.2.2.2[k]? = some (pc, .lookupswitch dflt ps, len, pc')) (hp : (ps.toList.zip (ps.toList.drop 1)).all (fun (a, next) => a.1 < next.1) = true) (ho : Op.lookupswitch.offset ps.toList dflt v = off) (ht : (pc : Int) + off = (tgt : Int)) (kin : x = v → zV Γ y f mc ms Q G u tgt ls st σ) (kout : x ≠ v → zV Γ y f mc ms Q G u pc ls (zI x :: st) σ) : zV Γ y f mc ms Q G u pc ls (zI x :: st) σ := by
  by_cases h : x = v
  · exact zlook hd hp (by rw [h]; exact ho) ht (kin h)
  · exact kout h
theorem ziandM {x m : Int} (kb : Nat) (hd : y.2.2.2.2[k]? = some (pc, .iand, 1, pc')) (hk : kb ≤ 31) (hm : m = 2 ^ kb - 1) (p2 : Int) (hp : (2 : Int) ^ kb = p2) (kk : zV Γ y f mc ms Q G u pc' ls (zI (x % p2) :: st) σ) : zV Γ y f mc ms Q G u pc ls (zI m :: zI x :: st) σ := by
  intro hmm he p l e s mm args below meth c X H locs lsA stV hH hL hl hs
  obtain ⟨v, r', rfl, hv, hs1⟩ := zv_sR_cons hs
  obtain ⟨v2, r', rfl, hv2, hs2⟩ := zv_sR_cons hs1
  have e1 := zand_m kb hk hm (zv_rng hv2)
  rw [hp] at e1
  exact ziand hd (by rw [e1]; exact kk) hmm he p l e s mm args below meth c X H locs lsA _ hH hL hl hs
end ZK2
