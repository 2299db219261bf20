/-! bits -/
def bcn (v : Int) : Int := v % 2 + v / 2 % 2 + v / 4 % 2 + v / 8 % 2 + v / 16 % 2 + v / 32 % 2 + v / 64 % 2
set_option maxHeartbeats 4000000 in
set_option maxRecDepth 20000 in
theorem c_J_bitCount {Γ : zv_M} {L : Int} {v : Int} {σ : zv_H} (h : 0 ≤ v ∧ v ≤ 127) : zC Γ m_J_bitCount 0 0 0 (GM L) [zI v] σ (zFn (some (zI (bcn v))) (GM L) σ) := by
  refine zC_ofJ (ls0 := [_]) zm_J_bitCount (by decide +kernel) rfl (Nat.le_of_ble_eq_true rfl) ?_
  generalize hQ : (zFn (some (zI (bcn v))) (GM L) σ) = Q
  refine ziload_n (k := 0) rfl rfl ?_
  refine ziload_n (k := 1) rfl rfl ?_
  refine ziconst (k := 2) rfl (by decide) ?_
  refine ziushr (k := 3) rfl ?_
  refine zldcw (k := 4) (z := 1431655765) rfl kc_J6_265 rfl ?_
  refine ziand (k := 5) rfl ?_
  refine zisub (k := 6) rfl ?_
  refine zistore_n (k := 7) (ls' := [_]) rfl (Nat.le_of_ble_eq_true rfl) rfl ?_
  refine ziload_n (k := 8) rfl rfl ?_
  refine zldcw (k := 9) (z := 858993459) rfl kc_J6_266 rfl ?_
  refine ziand (k := 10) rfl ?_
  refine ziload_n (k := 11) rfl rfl ?_
  refine ziconst (k := 12) rfl (by decide) ?_
  refine ziushr (k := 13) rfl ?_
  refine zldcw (k := 14) (z := 858993459) rfl kc_J6_266 rfl ?_
  refine ziand (k := 15) rfl ?_
  refine ziadd (k := 16) rfl ?_
  refine zistore_n (k := 17) (ls' := [_]) rfl (Nat.le_of_ble_eq_true rfl) rfl ?_
  refine ziload_n (k := 18) rfl rfl ?_
  refine ziload_n (k := 19) rfl rfl ?_
  refine ziconst (k := 20) rfl (by decide) ?_
  refine ziushr (k := 21) rfl ?_
  refine ziadd (k := 22) rfl ?_
  refine zldcw (k := 23) (z := 252645135) rfl kc_J6_267 rfl ?_
  refine ziand (k := 24) rfl ?_
  refine zistore_n (k := 25) (ls' := [_]) rfl (Nat.le_of_ble_eq_true rfl) rfl ?_
  refine ziload_n (k := 26) rfl rfl ?_
  refine ziload_n (k := 27) rfl rfl ?_
  refine zbipush (k := 28) rfl rfl ?_
  refine ziushr (k := 29) rfl ?_
  refine ziadd (k := 30) rfl ?_
  refine zistore_n (k := 31) (ls' := [_]) rfl (Nat.le_of_ble_eq_true rfl) rfl ?_
  refine ziload_n (k := 32) rfl rfl ?_
  refine ziload_n (k := 33) rfl rfl ?_
  refine zbipush (k := 34) rfl rfl ?_
  refine ziushr (k := 35) rfl ?_
  refine ziadd (k := 36) rfl ?_
  refine zistore_n (k := 37) (ls' := [_]) rfl (Nat.le_of_ble_eq_true rfl) rfl ?_
  refine ziload_n (k := 38) rfl rfl ?_
  refine zbipush (k := 39) rfl rfl ?_
  refine ziand (k := 40) rfl ?_
  refine zireturn (k := 41) rfl rfl rfl ?_
  rw [← hQ]
  refine ⟨?_, rfl, rfl⟩
  clear hQ
  obtain ⟨x, rfl⟩ : ∃ x : Fin 128, v = ((x.val : Nat) : Int) := ⟨⟨v.toNat, by omega⟩, by show v = ((v.toNat : Nat) : Int); omega⟩
  clear h
  revert x
  decide +kernel
