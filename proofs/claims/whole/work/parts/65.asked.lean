def askW (u : Int) (lk : Bool) : Int := if u = 3 then -1 else if u = 2 then -2 else if u = 13 then -3 else if u = 14 then -4 else if u = 15 then -5 else if u = 1 ∧ lk = true then -6 else if u = 16 ∧ lk = true then -7 else 0
theorem ask_w {T : Int → Int} {p : Int} {lk : Bool} (hk : tK T p = 1) : (askW (tO T p) lk = 0 ∧ askS T p lk = -1) ∨ (askW (tO T p) lk ≠ 0 ∧ (1 ≤ askS T p lk ∧ askS T p lk ≤ 7) ∧ askW (tO T p) lk = enS (askS T p lk, askV T p) ∧ (-7 ≤ enS (askS T p lk, askV T p) ∧ enS (askS T p lk, askV T p) ≤ -1)) := by
  have e1 : askS T p lk = if tO T p = 3 then 1 else if tO T p = 2 then 2 else if tO T p = 13 then 3 else if tO T p = 14 then 4 else if tO T p = 15 then 5 else if tO T p = 1 ∧ lk = true then 6 else if tO T p = 16 ∧ lk = true then 7 else -1 := by unfold askS; rw [if_neg (by omega)]
  have e2 : askV T p = 0 := by unfold askV; rw [if_neg (by omega)]
  rw [e1, e2]
  generalize tO T p = u
  unfold askW
  by_cases c1 : u = 3
  · subst c1; cases lk <;> exact Or.inr (by decide)
  by_cases c2 : u = 2
  · subst c2; cases lk <;> exact Or.inr (by decide)
  by_cases c3 : u = 13
  · subst c3; cases lk <;> exact Or.inr (by decide)
  by_cases c4 : u = 14
  · subst c4; cases lk <;> exact Or.inr (by decide)
  by_cases c5 : u = 15
  · subst c5; cases lk <;> exact Or.inr (by decide)
  by_cases c6 : u = 1
  · subst c6
    cases lk
    · exact Or.inl (by decide)
    · exact Or.inr (by decide)
  by_cases c7 : u = 16
  · subst c7
    cases lk
    · exact Or.inl (by decide)
    · exact Or.inr (by decide)
  refine Or.inl ⟨?_, ?_⟩
  · rw [if_neg c1, if_neg c2, if_neg c3, if_neg c4, if_neg c5, if_neg (fun q => c6 q.1), if_neg (fun q => c7 q.1)]
  · rw [if_neg c1, if_neg c2, if_neg c3, if_neg c4, if_neg c5, if_neg (fun q => c6 q.1), if_neg (fun q => c7 q.1)]
set_option maxHeartbeats 4000000 in
set_option maxRecDepth 20000 in
theorem c_Reader_askedStep {Γ : zv_M} {L : Int} {σ : zv_H} {u : Int} {lk : Bool} (hl : σ 52 3 = zB lk) : zC Γ m_Reader_askedStep 0 0 0 (GM L) [zR 52, zI u] σ (zFn (some (zI (askW u lk))) (GM L) σ) := by
  refine zC_of (ls0 := [_, _]) zm_Reader_askedStep (by decide) rfl (Nat.le_of_ble_eq_true rfl) ?_
  generalize hQ : (zFn (some (zI (askW u lk))) (GM L) σ) = Q
  refine ziload_n (k := 0) rfl rfl ?_
  refine ztabC (k := 1) (v := 1) 0 rfl rfl (by decide) rfl rfl (fun c1 => ?_) (fun c1 => ?_)
  · skip
    refine zaload_n (k := 12) rfl rfl ?_
    refine zgI 3 (k := 13) rfl ob_52 fl_4_88 rfl fx_52_3 ?_
    rw [hl]
    refine zif_eq (k := 14) rfl rfl (fun c2 => ?_) (fun c2 => ?_)
    · skip
      refine ziconst (k := 17) rfl (by decide) ?_
      refine zireturn (k := 18) rfl rfl rfl ?_
      rw [← hQ]
      refine ⟨?_, rfl, rfl⟩
      have hz1 : zB true = 1 := rfl
      have hz0 : zB false = 0 := rfl
      cases lk <;> first
      | (exfalso; omega)
      | (have e : u = 3 := (by omega); subst e; rfl)
      | (have e : u = 2 := (by omega); subst e; rfl)
      | (have e : u = 13 := (by omega); subst e; rfl)
      | (have e : u = 14 := (by omega); subst e; rfl)
      | (have e : u = 15 := (by omega); subst e; rfl)
      | (have e : u = 1 := (by omega); subst e; rfl)
      | (have e : u = 16 := (by omega); subst e; rfl)
      | (unfold askW; rw [if_neg (by omega), if_neg (by omega), if_neg (by omega), if_neg (by omega), if_neg (by omega), if_neg (fun q => by have := q.1; omega), if_neg (fun q => by have := q.1; omega)])
    · skip
      refine zbipush (k := 15) rfl rfl ?_
      refine zgoto (k := 16) rfl rfl ?_
      refine zireturn (k := 18) rfl rfl rfl ?_
      rw [← hQ]
      refine ⟨?_, rfl, rfl⟩
      have hz1 : zB true = 1 := rfl
      have hz0 : zB false = 0 := rfl
      cases lk <;> first
      | (exfalso; omega)
      | (have e : u = 3 := (by omega); subst e; rfl)
      | (have e : u = 2 := (by omega); subst e; rfl)
      | (have e : u = 13 := (by omega); subst e; rfl)
      | (have e : u = 14 := (by omega); subst e; rfl)
      | (have e : u = 15 := (by omega); subst e; rfl)
      | (have e : u = 1 := (by omega); subst e; rfl)
      | (have e : u = 16 := (by omega); subst e; rfl)
      | (unfold askW; rw [if_neg (by omega), if_neg (by omega), if_neg (by omega), if_neg (by omega), if_neg (by omega), if_neg (fun q => by have := q.1; omega), if_neg (fun q => by have := q.1; omega)])
  refine ztabC (k := 1) (v := 2) 1 rfl rfl (by decide) rfl rfl (fun c3 => ?_) (fun c3 => ?_)
  · skip
    refine zbipush (k := 4) rfl rfl ?_
    refine zireturn (k := 5) rfl rfl rfl ?_
    rw [← hQ]
    refine ⟨?_, rfl, rfl⟩
    have hz1 : zB true = 1 := rfl
    have hz0 : zB false = 0 := rfl
    cases lk <;> first
    | (exfalso; omega)
    | (have e : u = 3 := (by omega); subst e; rfl)
    | (have e : u = 2 := (by omega); subst e; rfl)
    | (have e : u = 13 := (by omega); subst e; rfl)
    | (have e : u = 14 := (by omega); subst e; rfl)
    | (have e : u = 15 := (by omega); subst e; rfl)
    | (have e : u = 1 := (by omega); subst e; rfl)
    | (have e : u = 16 := (by omega); subst e; rfl)
    | (unfold askW; rw [if_neg (by omega), if_neg (by omega), if_neg (by omega), if_neg (by omega), if_neg (by omega), if_neg (fun q => by have := q.1; omega), if_neg (fun q => by have := q.1; omega)])
  refine ztabC (k := 1) (v := 3) 2 rfl rfl (by decide) rfl rfl (fun c4 => ?_) (fun c4 => ?_)
  · skip
    refine ziconst (k := 2) rfl (by decide) ?_
    refine zireturn (k := 3) rfl rfl rfl ?_
    rw [← hQ]
    refine ⟨?_, rfl, rfl⟩
    have hz1 : zB true = 1 := rfl
    have hz0 : zB false = 0 := rfl
    cases lk <;> first
    | (exfalso; omega)
    | (have e : u = 3 := (by omega); subst e; rfl)
    | (have e : u = 2 := (by omega); subst e; rfl)
    | (have e : u = 13 := (by omega); subst e; rfl)
    | (have e : u = 14 := (by omega); subst e; rfl)
    | (have e : u = 15 := (by omega); subst e; rfl)
    | (have e : u = 1 := (by omega); subst e; rfl)
    | (have e : u = 16 := (by omega); subst e; rfl)
    | (unfold askW; rw [if_neg (by omega), if_neg (by omega), if_neg (by omega), if_neg (by omega), if_neg (by omega), if_neg (fun q => by have := q.1; omega), if_neg (fun q => by have := q.1; omega)])
  refine ztabC (k := 1) (v := 4) 3 rfl rfl (by decide) rfl rfl (fun c5 => ?_) (fun c5 => ?_)
  · skip
    refine ziconst (k := 26) rfl (by decide) ?_
    refine zireturn (k := 27) rfl rfl rfl ?_
    rw [← hQ]
    refine ⟨?_, rfl, rfl⟩
    have hz1 : zB true = 1 := rfl
    have hz0 : zB false = 0 := rfl
    cases lk <;> first
    | (exfalso; omega)
    | (have e : u = 3 := (by omega); subst e; rfl)
    | (have e : u = 2 := (by omega); subst e; rfl)
    | (have e : u = 13 := (by omega); subst e; rfl)
    | (have e : u = 14 := (by omega); subst e; rfl)
    | (have e : u = 15 := (by omega); subst e; rfl)
    | (have e : u = 1 := (by omega); subst e; rfl)
    | (have e : u = 16 := (by omega); subst e; rfl)
    | (unfold askW; rw [if_neg (by omega), if_neg (by omega), if_neg (by omega), if_neg (by omega), if_neg (by omega), if_neg (fun q => by have := q.1; omega), if_neg (fun q => by have := q.1; omega)])
  refine ztabC (k := 1) (v := 5) 4 rfl rfl (by decide) rfl rfl (fun c6 => ?_) (fun c6 => ?_)
  · skip
    refine ziconst (k := 26) rfl (by decide) ?_
    refine zireturn (k := 27) rfl rfl rfl ?_
    rw [← hQ]
    refine ⟨?_, rfl, rfl⟩
    have hz1 : zB true = 1 := rfl
    have hz0 : zB false = 0 := rfl
    cases lk <;> first
    | (exfalso; omega)
    | (have e : u = 3 := (by omega); subst e; rfl)
    | (have e : u = 2 := (by omega); subst e; rfl)
    | (have e : u = 13 := (by omega); subst e; rfl)
    | (have e : u = 14 := (by omega); subst e; rfl)
    | (have e : u = 15 := (by omega); subst e; rfl)
    | (have e : u = 1 := (by omega); subst e; rfl)
    | (have e : u = 16 := (by omega); subst e; rfl)
    | (unfold askW; rw [if_neg (by omega), if_neg (by omega), if_neg (by omega), if_neg (by omega), if_neg (by omega), if_neg (fun q => by have := q.1; omega), if_neg (fun q => by have := q.1; omega)])
  refine ztabC (k := 1) (v := 6) 5 rfl rfl (by decide) rfl rfl (fun c7 => ?_) (fun c7 => ?_)
  · skip
    refine ziconst (k := 26) rfl (by decide) ?_
    refine zireturn (k := 27) rfl rfl rfl ?_
    rw [← hQ]
    refine ⟨?_, rfl, rfl⟩
    have hz1 : zB true = 1 := rfl
    have hz0 : zB false = 0 := rfl
    cases lk <;> first
    | (exfalso; omega)
    | (have e : u = 3 := (by omega); subst e; rfl)
    | (have e : u = 2 := (by omega); subst e; rfl)
    | (have e : u = 13 := (by omega); subst e; rfl)
    | (have e : u = 14 := (by omega); subst e; rfl)
    | (have e : u = 15 := (by omega); subst e; rfl)
    | (have e : u = 1 := (by omega); subst e; rfl)
    | (have e : u = 16 := (by omega); subst e; rfl)
    | (unfold askW; rw [if_neg (by omega), if_neg (by omega), if_neg (by omega), if_neg (by omega), if_neg (by omega), if_neg (fun q => by have := q.1; omega), if_neg (fun q => by have := q.1; omega)])
  refine ztabC (k := 1) (v := 7) 6 rfl rfl (by decide) rfl rfl (fun c8 => ?_) (fun c8 => ?_)
  · skip
    refine ziconst (k := 26) rfl (by decide) ?_
    refine zireturn (k := 27) rfl rfl rfl ?_
    rw [← hQ]
    refine ⟨?_, rfl, rfl⟩
    have hz1 : zB true = 1 := rfl
    have hz0 : zB false = 0 := rfl
    cases lk <;> first
    | (exfalso; omega)
    | (have e : u = 3 := (by omega); subst e; rfl)
    | (have e : u = 2 := (by omega); subst e; rfl)
    | (have e : u = 13 := (by omega); subst e; rfl)
    | (have e : u = 14 := (by omega); subst e; rfl)
    | (have e : u = 15 := (by omega); subst e; rfl)
    | (have e : u = 1 := (by omega); subst e; rfl)
    | (have e : u = 16 := (by omega); subst e; rfl)
    | (unfold askW; rw [if_neg (by omega), if_neg (by omega), if_neg (by omega), if_neg (by omega), if_neg (by omega), if_neg (fun q => by have := q.1; omega), if_neg (fun q => by have := q.1; omega)])
  refine ztabC (k := 1) (v := 8) 7 rfl rfl (by decide) rfl rfl (fun c9 => ?_) (fun c9 => ?_)
  · skip
    refine ziconst (k := 26) rfl (by decide) ?_
    refine zireturn (k := 27) rfl rfl rfl ?_
    rw [← hQ]
    refine ⟨?_, rfl, rfl⟩
    have hz1 : zB true = 1 := rfl
    have hz0 : zB false = 0 := rfl
    cases lk <;> first
    | (exfalso; omega)
    | (have e : u = 3 := (by omega); subst e; rfl)
    | (have e : u = 2 := (by omega); subst e; rfl)
    | (have e : u = 13 := (by omega); subst e; rfl)
    | (have e : u = 14 := (by omega); subst e; rfl)
    | (have e : u = 15 := (by omega); subst e; rfl)
    | (have e : u = 1 := (by omega); subst e; rfl)
    | (have e : u = 16 := (by omega); subst e; rfl)
    | (unfold askW; rw [if_neg (by omega), if_neg (by omega), if_neg (by omega), if_neg (by omega), if_neg (by omega), if_neg (fun q => by have := q.1; omega), if_neg (fun q => by have := q.1; omega)])
  refine ztabC (k := 1) (v := 9) 8 rfl rfl (by decide) rfl rfl (fun c10 => ?_) (fun c10 => ?_)
  · skip
    refine ziconst (k := 26) rfl (by decide) ?_
    refine zireturn (k := 27) rfl rfl rfl ?_
    rw [← hQ]
    refine ⟨?_, rfl, rfl⟩
    have hz1 : zB true = 1 := rfl
    have hz0 : zB false = 0 := rfl
    cases lk <;> first
    | (exfalso; omega)
    | (have e : u = 3 := (by omega); subst e; rfl)
    | (have e : u = 2 := (by omega); subst e; rfl)
    | (have e : u = 13 := (by omega); subst e; rfl)
    | (have e : u = 14 := (by omega); subst e; rfl)
    | (have e : u = 15 := (by omega); subst e; rfl)
    | (have e : u = 1 := (by omega); subst e; rfl)
    | (have e : u = 16 := (by omega); subst e; rfl)
    | (unfold askW; rw [if_neg (by omega), if_neg (by omega), if_neg (by omega), if_neg (by omega), if_neg (by omega), if_neg (fun q => by have := q.1; omega), if_neg (fun q => by have := q.1; omega)])
  refine ztabC (k := 1) (v := 10) 9 rfl rfl (by decide) rfl rfl (fun c11 => ?_) (fun c11 => ?_)
  · skip
    refine ziconst (k := 26) rfl (by decide) ?_
    refine zireturn (k := 27) rfl rfl rfl ?_
    rw [← hQ]
    refine ⟨?_, rfl, rfl⟩
    have hz1 : zB true = 1 := rfl
    have hz0 : zB false = 0 := rfl
    cases lk <;> first
    | (exfalso; omega)
    | (have e : u = 3 := (by omega); subst e; rfl)
    | (have e : u = 2 := (by omega); subst e; rfl)
    | (have e : u = 13 := (by omega); subst e; rfl)
    | (have e : u = 14 := (by omega); subst e; rfl)
    | (have e : u = 15 := (by omega); subst e; rfl)
    | (have e : u = 1 := (by omega); subst e; rfl)
    | (have e : u = 16 := (by omega); subst e; rfl)
    | (unfold askW; rw [if_neg (by omega), if_neg (by omega), if_neg (by omega), if_neg (by omega), if_neg (by omega), if_neg (fun q => by have := q.1; omega), if_neg (fun q => by have := q.1; omega)])
  refine ztabC (k := 1) (v := 11) 10 rfl rfl (by decide) rfl rfl (fun c12 => ?_) (fun c12 => ?_)
  · skip
    refine ziconst (k := 26) rfl (by decide) ?_
    refine zireturn (k := 27) rfl rfl rfl ?_
    rw [← hQ]
    refine ⟨?_, rfl, rfl⟩
    have hz1 : zB true = 1 := rfl
    have hz0 : zB false = 0 := rfl
    cases lk <;> first
    | (exfalso; omega)
    | (have e : u = 3 := (by omega); subst e; rfl)
    | (have e : u = 2 := (by omega); subst e; rfl)
    | (have e : u = 13 := (by omega); subst e; rfl)
    | (have e : u = 14 := (by omega); subst e; rfl)
    | (have e : u = 15 := (by omega); subst e; rfl)
    | (have e : u = 1 := (by omega); subst e; rfl)
    | (have e : u = 16 := (by omega); subst e; rfl)
    | (unfold askW; rw [if_neg (by omega), if_neg (by omega), if_neg (by omega), if_neg (by omega), if_neg (by omega), if_neg (fun q => by have := q.1; omega), if_neg (fun q => by have := q.1; omega)])
  refine ztabC (k := 1) (v := 12) 11 rfl rfl (by decide) rfl rfl (fun c13 => ?_) (fun c13 => ?_)
  · skip
    refine ziconst (k := 26) rfl (by decide) ?_
    refine zireturn (k := 27) rfl rfl rfl ?_
    rw [← hQ]
    refine ⟨?_, rfl, rfl⟩
    have hz1 : zB true = 1 := rfl
    have hz0 : zB false = 0 := rfl
    cases lk <;> first
    | (exfalso; omega)
    | (have e : u = 3 := (by omega); subst e; rfl)
    | (have e : u = 2 := (by omega); subst e; rfl)
    | (have e : u = 13 := (by omega); subst e; rfl)
    | (have e : u = 14 := (by omega); subst e; rfl)
    | (have e : u = 15 := (by omega); subst e; rfl)
    | (have e : u = 1 := (by omega); subst e; rfl)
    | (have e : u = 16 := (by omega); subst e; rfl)
    | (unfold askW; rw [if_neg (by omega), if_neg (by omega), if_neg (by omega), if_neg (by omega), if_neg (by omega), if_neg (fun q => by have := q.1; omega), if_neg (fun q => by have := q.1; omega)])
  refine ztabC (k := 1) (v := 13) 12 rfl rfl (by decide) rfl rfl (fun c14 => ?_) (fun c14 => ?_)
  · skip
    refine zbipush (k := 6) rfl rfl ?_
    refine zireturn (k := 7) rfl rfl rfl ?_
    rw [← hQ]
    refine ⟨?_, rfl, rfl⟩
    have hz1 : zB true = 1 := rfl
    have hz0 : zB false = 0 := rfl
    cases lk <;> first
    | (exfalso; omega)
    | (have e : u = 3 := (by omega); subst e; rfl)
    | (have e : u = 2 := (by omega); subst e; rfl)
    | (have e : u = 13 := (by omega); subst e; rfl)
    | (have e : u = 14 := (by omega); subst e; rfl)
    | (have e : u = 15 := (by omega); subst e; rfl)
    | (have e : u = 1 := (by omega); subst e; rfl)
    | (have e : u = 16 := (by omega); subst e; rfl)
    | (unfold askW; rw [if_neg (by omega), if_neg (by omega), if_neg (by omega), if_neg (by omega), if_neg (by omega), if_neg (fun q => by have := q.1; omega), if_neg (fun q => by have := q.1; omega)])
  refine ztabC (k := 1) (v := 14) 13 rfl rfl (by decide) rfl rfl (fun c15 => ?_) (fun c15 => ?_)
  · skip
    refine zbipush (k := 8) rfl rfl ?_
    refine zireturn (k := 9) rfl rfl rfl ?_
    rw [← hQ]
    refine ⟨?_, rfl, rfl⟩
    have hz1 : zB true = 1 := rfl
    have hz0 : zB false = 0 := rfl
    cases lk <;> first
    | (exfalso; omega)
    | (have e : u = 3 := (by omega); subst e; rfl)
    | (have e : u = 2 := (by omega); subst e; rfl)
    | (have e : u = 13 := (by omega); subst e; rfl)
    | (have e : u = 14 := (by omega); subst e; rfl)
    | (have e : u = 15 := (by omega); subst e; rfl)
    | (have e : u = 1 := (by omega); subst e; rfl)
    | (have e : u = 16 := (by omega); subst e; rfl)
    | (unfold askW; rw [if_neg (by omega), if_neg (by omega), if_neg (by omega), if_neg (by omega), if_neg (by omega), if_neg (fun q => by have := q.1; omega), if_neg (fun q => by have := q.1; omega)])
  refine ztabC (k := 1) (v := 15) 14 rfl rfl (by decide) rfl rfl (fun c16 => ?_) (fun c16 => ?_)
  · skip
    refine zbipush (k := 10) rfl rfl ?_
    refine zireturn (k := 11) rfl rfl rfl ?_
    rw [← hQ]
    refine ⟨?_, rfl, rfl⟩
    have hz1 : zB true = 1 := rfl
    have hz0 : zB false = 0 := rfl
    cases lk <;> first
    | (exfalso; omega)
    | (have e : u = 3 := (by omega); subst e; rfl)
    | (have e : u = 2 := (by omega); subst e; rfl)
    | (have e : u = 13 := (by omega); subst e; rfl)
    | (have e : u = 14 := (by omega); subst e; rfl)
    | (have e : u = 15 := (by omega); subst e; rfl)
    | (have e : u = 1 := (by omega); subst e; rfl)
    | (have e : u = 16 := (by omega); subst e; rfl)
    | (unfold askW; rw [if_neg (by omega), if_neg (by omega), if_neg (by omega), if_neg (by omega), if_neg (by omega), if_neg (fun q => by have := q.1; omega), if_neg (fun q => by have := q.1; omega)])
  refine ztabC (k := 1) (v := 16) 15 rfl rfl (by decide) rfl rfl (fun c17 => ?_) (fun c17 => ?_)
  · skip
    refine zaload_n (k := 19) rfl rfl ?_
    refine zgI 3 (k := 20) rfl ob_52 fl_4_88 rfl fx_52_3 ?_
    rw [hl]
    refine zif_eq (k := 21) rfl rfl (fun c18 => ?_) (fun c18 => ?_)
    · skip
      refine ziconst (k := 24) rfl (by decide) ?_
      refine zireturn (k := 25) rfl rfl rfl ?_
      rw [← hQ]
      refine ⟨?_, rfl, rfl⟩
      have hz1 : zB true = 1 := rfl
      have hz0 : zB false = 0 := rfl
      cases lk <;> first
      | (exfalso; omega)
      | (have e : u = 3 := (by omega); subst e; rfl)
      | (have e : u = 2 := (by omega); subst e; rfl)
      | (have e : u = 13 := (by omega); subst e; rfl)
      | (have e : u = 14 := (by omega); subst e; rfl)
      | (have e : u = 15 := (by omega); subst e; rfl)
      | (have e : u = 1 := (by omega); subst e; rfl)
      | (have e : u = 16 := (by omega); subst e; rfl)
      | (unfold askW; rw [if_neg (by omega), if_neg (by omega), if_neg (by omega), if_neg (by omega), if_neg (by omega), if_neg (fun q => by have := q.1; omega), if_neg (fun q => by have := q.1; omega)])
    · skip
      refine zbipush (k := 22) rfl rfl ?_
      refine zgoto (k := 23) rfl rfl ?_
      refine zireturn (k := 25) rfl rfl rfl ?_
      rw [← hQ]
      refine ⟨?_, rfl, rfl⟩
      have hz1 : zB true = 1 := rfl
      have hz0 : zB false = 0 := rfl
      cases lk <;> first
      | (exfalso; omega)
      | (have e : u = 3 := (by omega); subst e; rfl)
      | (have e : u = 2 := (by omega); subst e; rfl)
      | (have e : u = 13 := (by omega); subst e; rfl)
      | (have e : u = 14 := (by omega); subst e; rfl)
      | (have e : u = 15 := (by omega); subst e; rfl)
      | (have e : u = 1 := (by omega); subst e; rfl)
      | (have e : u = 16 := (by omega); subst e; rfl)
      | (unfold askW; rw [if_neg (by omega), if_neg (by omega), if_neg (by omega), if_neg (by omega), if_neg (by omega), if_neg (fun q => by have := q.1; omega), if_neg (fun q => by have := q.1; omega)])
  refine ztabOut (k := 1) rfl (by omega) rfl ?_
  refine ziconst (k := 26) rfl (by decide) ?_
  refine zireturn (k := 27) rfl rfl rfl ?_
  rw [← hQ]
  refine ⟨?_, rfl, rfl⟩
  have hz1 : zB true = 1 := rfl
  have hz0 : zB false = 0 := rfl
  cases lk <;> first
  | (exfalso; omega)
  | (have e : u = 3 := (by omega); subst e; rfl)
  | (have e : u = 2 := (by omega); subst e; rfl)
  | (have e : u = 13 := (by omega); subst e; rfl)
  | (have e : u = 14 := (by omega); subst e; rfl)
  | (have e : u = 15 := (by omega); subst e; rfl)
  | (have e : u = 1 := (by omega); subst e; rfl)
  | (have e : u = 16 := (by omega); subst e; rfl)
  | (unfold askW; rw [if_neg (by omega), if_neg (by omega), if_neg (by omega), if_neg (by omega), if_neg (by omega), if_neg (fun q => by have := q.1; omega), if_neg (fun q => by have := q.1; omega)])
theorem tN_c {T : Int → Int} {n : Int} (hn : TT T n) {p : Int} (hp : 0 ≤ p ∧ p ≤ n) (h : tK T p = 1 ∨ tK T p = 2 ∨ tK T p = 3) : p < tN T p ∧ tQ T p < tN T p ∧ tN T p ≤ n := ⟨(tN_b hn hp h).1, (tN_b hn hp h).2.1, (tN_b hn hp h).2.2.1⟩
set_option maxHeartbeats 4000000 in
set_option maxRecDepth 20000 in
theorem c_Reader_readAsked {Γ : zv_M} {L : Int} {σ0 σ : zv_H} {T : Int → Int} {n f p : Int} {lk : Bool} {cs0 : List (Int × Int)} (hE : RE σ0 T n f lk) (h0 : prs σ0 σ T p f cs0) (hp : 0 ≤ p ∧ p ≤ n) {o : Int} (hc : (cs0.length : Int) ≤ p) (hk : tK T p = 1) (hno : ¬ (isOw T p 22 ∨ isOw T p 23 ∨ isOw T p 17)) : zC Γ m_Reader_readAsked 3 0 0 (GM L) [zR 52] σ (zPI (GM L) (pst σ0 T n f p cs0 (OkA T lk o p) (PrtBd T lk o p))) := by
  refine zC_of (ls0 := [_, _]) zm_Reader_readAsked (by decide) rfl (Nat.le_of_ble_eq_true rfl) ?_
  generalize hQ : (zPI (GM L) (pst σ0 T n f p cs0 (OkA T lk o p) (PrtBd T lk o p))) = Q
  have tb := tN_c hE.2.2.1 hp (by omega)
  have hn16 := hE.2.2.1.1
  have aw := ask_w (lk := lk) hk
  have hs40 : ¬ isSg T p 40 := fun q => by have := q.1; omega
  refine zaload_n (k := 0) rfl rfl ?_
  refine zaload_n (k := 1) rfl rfl ?_
  refine zgF 0 (k := 2) rfl ob_52 fl_4_14 rfl fx_52_0 ?_
  refine zgI 6 (k := 3) rfl ob_53 fl_4_73 rfl fx_53_6 ?_
  rw [h0.1.2.2.2.2.1]
  refine zfV1 (k := 4) rfl (c_Reader_askedStep (RE_o hE (rfs_o h0.2.2.2)).2.2.2.2.2.2) fm_Reader_askedStep lk_4_243 rfl rfl ob_52 ⟨_, rfl, rfl⟩ (Nat.le_of_ble_eq_true rfl) (by omega) ⟨by decide, by decide⟩ ?_
  refine zistore_n (k := 5) (ls' := [_, _]) rfl (Nat.le_of_ble_eq_true rfl) rfl ?_
  refine ziload_n (k := 6) rfl rfl ?_
  refine zif_ne (k := 7) rfl rfl (fun c1 => ?_) (fun c1 => ?_)
  · skip
    refine zaload_n (k := 12) rfl rfl ?_
    refine zgR 2 (k := 13) rfl ob_52 fl_4_30 rfl fx_52_2 ?_
    rw [(RE_o hE (rfs_o h0.2.2.2)).2.2.2.2.2.1]
    refine ziload_n (k := 14) rfl rfl ?_
    refine zpV0 (k := 15) rfl (k_add (askS T p lk, askV T p) hE.2.2.2.2.1 h0 (by rcases aw with q | q; omega; exact q.2.2.1.symm) (by omega)) fm_Formula_add lk_4_207 rfl rfl (fm_ob hE.2.2.2.2.1) ⟨_, rfl, rfl⟩ (Nat.le_of_ble_eq_true rfl) (by omega) ⟨by decide, by decide⟩ (fun σ3 hh => ?_)
    clear h0
    have h0 := hh
    clear hh
    refine zaload_n (k := 16) rfl rfl ?_
    refine zgF 0 (k := 17) rfl ob_52 fl_4_14 rfl fx_52_0 ?_
    refine zpV0 (k := 18) rfl (k_adv2 hE h0 hp (by omega)) fm_Scanner_advance lk_4_85 rfl rfl ob_53 ⟨_, rfl, rfl⟩ (Nat.le_of_ble_eq_true rfl) (by omega) ⟨by decide, by decide⟩ (fun σ3 hh => ?_)
    clear h0
    have h0 := hh
    clear hh
    refine ziconst (k := 19) rfl (by decide) ?_
    refine zzreturn (k := 20) rfl rfl (by first | exact Or.inl rfl | exact Or.inr rfl | omega) rfl ?_
    rw [← hQ]
    refine ⟨rfl, _, rfl, Or.inl ⟨rfl, _, _, h0, ⟨tb.1, tb.2.2⟩, by show (1 : Int) ≤ _; omega, prt_ask hs40 hno (by omega) (by rcases aw with q | q; omega; omega), ?_⟩⟩
    refine wl_le (wl_q ?_) (by unfold Bp; omega)
    rcases aw with q | q
    · omega
    · exact q.2.2.2
  · skip
    refine zaload_n (k := 8) rfl rfl ?_
    refine ziconst (k := 9) rfl (by decide) ?_
    refine zpVI (k := 10) rfl (k_wrong h0) fm_Reader_wrong lk_4_79 rfl rfl ob_52 ⟨_, rfl, rfl⟩ (Nat.le_of_ble_eq_true rfl) (by omega) ⟨by decide, by decide⟩ (fun z σ2 h2 => ?_)
    rw [h2.1]
    refine zzreturn (k := 11) rfl rfl (by first | exact Or.inl rfl | exact Or.inr rfl | omega) rfl ?_
    rw [← hQ]
    exact ⟨rfl, _, rfl, Or.inr ⟨rfl, _, _, h2.2, prb_ask hs40 hno (Or.inr (by rcases aw with q | q; exact q.2; omega))⟩⟩
