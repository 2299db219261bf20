/-! what is held back is joined -/
def jfr (i K : Int) (σ σ' : zv_H) : Prop := ∀ x k, ¬ (x = 289 ∧ (k = 31 ∨ k = 40 ∨ k = 42)) → ¬ ((x = 304 ∨ x = 305) ∧ 1600 * i + K ≤ k ∧ k < 1600 * i + 1600) → σ' x k = σ x k
theorem jfr_rf (i K : Int) (σ : zv_H) : jfr i K σ σ := fun _ _ _ _ => rfl
/-- so far -/
def jnM (σ0 σ : zv_H) (i base : Int) (K N : Nat) (r : List Int) (u : List (Int × Int)) (o m : Int) : Prop := jfr i K σ0 σ ∧ σ 289 42 = m ∧ m - (r.length : Int) = base ∧ opM σ r m ∧ ouM σ i u ∧ σ 289 31 = (u.length : Int) ∧ σ 289 40 = o ∧ u.length + r.length = N ∧ K ≤ u.length
theorem jnM_s {σ0 σ : zv_H} {i base : Int} {K N : Nat} {x : Int} {r : List Int} {u : List (Int × Int)} {o m : Int} (h : jnM σ0 σ i base K N (x :: r) u o m) (hN : N ≤ 1600) (hi : i = 0 ∨ i = 1) : jnM σ0 (zup (zup (zup (zup σ 289 42 (m - 1)) 304 (1600 * i + (u.length : Int)) x) 305 (1600 * i + (u.length : Int)) 0) 289 31 ((u.length : Int) + 1)) i base K N r ((x, 0) :: u) o (m - 1) := by
  obtain ⟨f, a, b, c, d, e, g, n, k⟩ := h
  rw [List.length_cons] at b n
  refine ⟨fun y j q1_q q2_q => ?_, by rw [zup_n (by omega), zup_n (by omega), zup_n (by omega), zup_s], by omega, opM_x c.2 (fun j k1_q k2_q => by rw [zup_n (by omega), zup_n (by omega), zup_n (by omega), zup_n (by omega)]), ⟨⟨by rw [zup_n (by omega), zup_n (by omega), zup_s], by rw [zup_n (by omega), zup_s]⟩, ouM_x d (fun y j q k1_q k2_q => by rw [zup_n (by omega), zup_n (by omega), zup_n (by omega), zup_n (by omega)])⟩, by rw [zup_s, List.length_cons]; omega, by rw [zup_n (by omega), zup_n (by omega), zup_n (by omega), zup_n (by omega)]; exact g, by rw [List.length_cons]; omega, by rw [List.length_cons]; omega⟩
  rw [zup_n (by omega), zup_n (by omega), zup_n (by omega), zup_n (by omega)]
  exact f y j q1_q q2_q
theorem jnM_o {σ0 σ : zv_H} {i base : Int} {K N : Nat} {r : List Int} {u : List (Int × Int)} {o m v : Int} (h : jnM σ0 σ i base K N r u o m) : jnM σ0 (zup σ 289 40 v) i base K N r u v m := by
  obtain ⟨f, a, b, c, d, e, g, n, k⟩ := h
  refine ⟨fun y j q1_q q2_q => by rw [zup_n (by omega)]; exact f y j q1_q q2_q, by rw [zup_n (by omega)]; exact a, b, opM_x c (fun j k1_q k2_q => by rw [zup_n (by omega)]), ouM_x d (fun y j q k1_q k2_q => by rw [zup_n (by omega)]), by rw [zup_n (by omega)]; exact e, by rw [zup_s], n, k⟩
theorem mjo_n {l x : Int} {r : List Int} {u : List (Int × Int)} {o : Int} (h : ¬ l ≤ rnk x) : mjo l (x :: r) u o = (x :: r, u, o) := if_neg h
theorem mjo_p {l x : Int} {r : List Int} {u : List (Int × Int)} {o : Int} (h : l ≤ rnk x) : mjo l (x :: r) u o = mjo l r ((x, 0) :: u) (if x = 43 then o - 1 else o) := if_pos h
set_option maxHeartbeats 4000000 in
set_option maxRecDepth 20000 in
theorem c_M_joins {Γ : zv_M} {L : Int} {σ : zv_H} {i l D base : Int} {ops : List Int} {out : List (Int × Int)} {op m : Int} (hi1_q : i = 0 ∨ i = 1) (hin : σ 289 32 = i) (hD : σ 289 39 = D) (hD1 : 1 ≤ D ∧ D ≤ 20) (hB : σ 312 (D - 1) = base) (hb0_q : 0 ≤ base) (hm : m ≤ 500) (hN : out.length + ops.length ≤ 1600) (hop : -100 ≤ op ∧ op ≤ 100) (h0_q : jnM σ σ i base out.length (out.length + ops.length) ops out op m)  : zC Γ m_M_joins 2 0 0 (GM L) [zR 289, zI l] σ (zP0 (GM L) (fun σ' => ∃ (r : List Int) (u : List (Int × Int)) (o' m' : Int), mjo l ops out op = (r, u, o') ∧ jnM σ σ' i base out.length (out.length + ops.length) r u o' m')) := by
  refine zC_of (ls0 := [_, _]) zm_M_joins (by decide) rfl (Nat.le_of_ble_eq_true rfl) ?_
  generalize hQ : (zP0 (GM L) (fun σ' => ∃ (r : List Int) (u : List (Int × Int)) (o' m' : Int), mjo l ops out op = (r, u, o') ∧ jnM σ σ' i base out.length (out.length + ops.length) r u o' m')) = Q
  have lp0_q : ∀ (g : Nat) (r : List Int) (u : List (Int × Int)) (o5_q m5_q : Int) (σ5 : zv_H), (r.length) < g → (jnM σ σ5 i base out.length (out.length + ops.length) r u o5_q m5_q) → (mjo l r u o5_q = mjo l ops out op) → (m5_q ≤ 500) → (-10000 + (r.length : Int) ≤ o5_q ∧ o5_q ≤ 100) → zV Γ m_M_joins 2 0 0 Q (GM L) (0, 0) 0 [some (zR 289), some (zI l)] [] σ5 := by
    intro g
    induction g with
    | zero => intro r u o5_q m5_q σ5 hg; exact absurd hg (Nat.not_lt_zero _)
    | succ g ih0_q =>
      intro r u o5_q m5_q σ5 hg hj he hm5_q ho5_q
      obtain ⟨f5_q, a5_q, b5_q, c5_q, d5_q, e5_q, g5_q, n5_q, k5_q⟩ := hj
      have hj : jnM σ σ5 i base out.length (out.length + ops.length) r u o5_q m5_q := ⟨f5_q, a5_q, b5_q, c5_q, d5_q, e5_q, g5_q, n5_q, k5_q⟩
      refine zaload_n (k := 0) rfl rfl ?_
      refine zgI 42 (k := 1) rfl ob_289 fl_12_141 rfl fx_289_42 ?_
      rw [a5_q]
      refine zaload_n (k := 2) rfl rfl ?_
      refine zgF 38 (k := 3) rfl ob_289 fl_12_129 rfl fx_289_38 ?_
      refine zaload_n (k := 4) rfl rfl ?_
      refine zgI 39 (k := 5) rfl ob_289 fl_12_132 rfl fx_289_39 ?_
      rw [f5_q 289 39 (by omega) (by omega), hD]
      refine ziconst (k := 6) rfl (by decide) ?_
      refine zisubB (k := 7) rfl (by omega) ?_
      refine ziaload (k := 8) rfl ar_312 ⟨by omega, by omega⟩ ?_
      rw [f5_q 312 _ (by omega) (by omega), hB]
      refine zicmp_le (k := 9) rfl rfl (fun c1_q => ?_) (fun c1_q => ?_)
      · skip
        refine zreturn (k := 48) rfl rfl rfl ?_
        rw [← hQ]
        refine ⟨rfl, rfl, r, u, o5_q, m5_q, ?_, hj⟩
        rw [← he]
        rcases r with _ | ⟨y, r2_q⟩
        · rfl
        · exfalso
          rw [List.length_cons] at b5_q
          omega
      · skip
        -- HAS
        obtain ⟨x, r2_q, rfl⟩ : ∃ x r2_q, r = x :: r2_q := by
          rcases r with _ | ⟨y, r2_q⟩
          · exfalso
            rw [List.length_nil] at b5_q
            omega
          · exact ⟨y, r2_q, rfl⟩
        have c6_q : σ5 313 (m5_q - 1) = x ∧ opM σ5 r2_q (m5_q - 1) := c5_q
        have b6_q := b5_q
        rw [List.length_cons] at b6_q
        refine zaload_n (k := 10) rfl rfl ?_
        refine zgF 41 (k := 11) rfl ob_289 fl_12_138 rfl fx_289_41 ?_
        refine zaload_n (k := 12) rfl rfl ?_
        refine zgI 42 (k := 13) rfl ob_289 fl_12_141 rfl fx_289_42 ?_
        rw [a5_q]
        refine ziconst (k := 14) rfl (by decide) ?_
        refine zisubB (k := 15) rfl (by omega) ?_
        refine ziaload (k := 16) rfl ar_313 ⟨by omega, by omega⟩ ?_
        rw [c6_q.1]
        refine zfS1 (k := 17) rfl c_M_rank fm_M_rank lk_12_319 rfl rfl (Nat.le_of_ble_eq_true rfl) (by decide) ⟨by decide, by decide⟩ ?_
        refine ziload_n (k := 18) rfl rfl ?_
        refine zicmp_lt (k := 19) rfl rfl (fun c2_q => ?_) (fun c2_q => ?_)
        · skip
          refine zreturn (k := 48) rfl rfl rfl ?_
          rw [← hQ]
          refine ⟨rfl, rfl, _, _, _, _, ?_, hj⟩
          rw [← he]
          exact mjo_n (by omega)
        · skip
          refine zaload_n (k := 20) rfl rfl ?_
          refine zdup (k := 21) rfl rfl ?_
          refine zgI 42 (k := 22) rfl ob_289 fl_12_141 rfl fx_289_42 ?_
          rw [a5_q]
          refine ziconst (k := 23) rfl (by decide) ?_
          refine zisubB (k := 24) rfl (by omega) ?_
          refine zpI 42 (k := 25) rfl ob_289 fl_12_141 ⟨_, rfl, rfl⟩ rfl (by omega) rfl fx_289_42 ?_
          refine zaload_n (k := 26) rfl rfl ?_
          refine zaload_n (k := 27) rfl rfl ?_
          refine zgF 41 (k := 28) rfl ob_289 fl_12_138 rfl fx_289_41 ?_
          refine zaload_n (k := 29) rfl rfl ?_
          refine zgI 42 (k := 30) rfl ob_289 fl_12_141 rfl fx_289_42 ?_
          rw [zup_s]
          refine ziaload (k := 31) rfl ar_313 ⟨by omega, by omega⟩ ?_
          rw [zup_n (by omega), c6_q.1]
          refine ziconst (k := 32) rfl (by decide) ?_
          refine zfV0 (k := 33) rfl (c_M_add (k := (u.length : Int)) hi1_q (by rw [zup_n (by omega), f5_q 289 32 (by omega) (by omega)]; exact hin) (by rw [zup_n (by omega)]; exact e5_q) (by omega)) fm_M_add lk_12_322 rfl rfl ob_289 ⟨_, rfl, rfl⟩ (Nat.le_of_ble_eq_true rfl) (by decide) ⟨by decide, by decide⟩ ?_
          have hj2_q := jnM_s hj (by omega) hi1_q
          have hlt : r2_q.length < g := by
            rw [List.length_cons] at hg
            omega
          have hle : l ≤ rnk x := by omega
          have heN : x ≠ 43 → mjo l r2_q ((x, 0) :: u) o5_q = mjo l ops out op := fun q => by
            rw [← he, mjo_p hle, if_neg q]
          have heY : x = 43 → mjo l r2_q ((x, 0) :: u) (o5_q - 1) = mjo l ops out op := fun q => by
            rw [← he, mjo_p hle, if_pos q]
          have hm6_q : m5_q - 1 ≤ 500 := by omega
          have ho7_q : -10000 + (r2_q.length : Int) ≤ o5_q - 1 ∧ o5_q - 1 ≤ 100 := by
            rw [List.length_cons] at ho5_q
            omega
          have ho6_q : -10000 + (r2_q.length : Int) ≤ o5_q ∧ o5_q ≤ 100 := by omega
          refine zaload_n (k := 34) rfl rfl ?_
          refine zgF 41 (k := 35) rfl ob_289 fl_12_138 rfl fx_289_41 ?_
          refine zaload_n (k := 36) rfl rfl ?_
          refine zgI 42 (k := 37) rfl ob_289 fl_12_141 rfl fx_289_42 ?_
          rw [hj2_q.2.1]
          refine ziaload (k := 38) rfl ar_313 ⟨by omega, by omega⟩ ?_
          rw [zup_n (by omega), zup_n (by omega), zup_n (by omega), zup_n (by omega), c6_q.1]
          refine zbipush (k := 39) rfl rfl ?_
          refine zicmp_ne (k := 40) rfl rfl (fun c3_q => ?_) (fun c3_q => ?_)
          · skip
            first
            | exact ih0_q r2_q _ _ _ _ hlt hj2_q (heN (by assumption)) hm6_q ho6_q
            | exact ih0_q r2_q _ _ _ _ hlt (jnM_o hj2_q) (heY (by assumption)) hm6_q ho7_q
          · skip
            refine zaload_n (k := 41) rfl rfl ?_
            refine zdup (k := 42) rfl rfl ?_
            refine zgI 40 (k := 43) rfl ob_289 fl_12_135 rfl fx_289_40 ?_
            rw [hj2_q.2.2.2.2.2.2.1]
            refine ziconst (k := 44) rfl (by decide) ?_
            refine zisubB (k := 45) rfl (by omega) ?_
            refine zpI 40 (k := 46) rfl ob_289 fl_12_135 ⟨_, rfl, rfl⟩ rfl (by omega) rfl fx_289_40 ?_
            refine zgoto (k := 47) rfl rfl ?_
            first
            | exact ih0_q r2_q _ _ _ _ hlt hj2_q (heN (by assumption)) hm6_q ho6_q
            | exact ih0_q r2_q _ _ _ _ hlt (jnM_o hj2_q) (heY (by assumption)) hm6_q ho7_q
  exact lp0_q _ ops out op m σ (Nat.lt_succ_self _) h0_q rfl hm (by omega)
