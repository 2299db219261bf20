/-! NineTimes' small static methods -/
def zat (σ : zv_H) (a n k : Int) : Int := if 0 ≤ k ∧ k < n then σ a k else 0
def zpt (σ : zv_H) (a n k v : Int) : zv_H := if 0 ≤ k ∧ k < n then zup σ a k v else σ
theorem zat_in {σ : zv_H} {a n k : Int} (h : 0 ≤ k ∧ k < n) : zat σ a n k = σ a k := if_pos h
theorem zpt_in {σ : zv_H} {a n k v : Int} (h : 0 ≤ k ∧ k < n) : zpt σ a n k v = zup σ a k v := if_pos h
def ztot (σ : zv_H) (a : Int) : Nat → Int
  | 0 => 0
  | j + 1 => w32 (ztot σ a j + σ a j)
def zhow (σ : zv_H) (a v : Int) : Nat → Int
  | 0 => 0
  | j + 1 => zhow σ a v j + (if σ a j = v then 1 else 0)
theorem zhow_r (σ : zv_H) (a v : Int) : ∀ j : Nat, 0 ≤ zhow σ a v j ∧ zhow σ a v j ≤ j
  | 0 => ⟨Int.le_refl _, Int.le_refl _⟩
  | j + 1 => by
    have h := zhow_r σ a v j
    unfold zhow
    split <;> omega
def zidx (σ : zv_H) (a v : Int) : Nat → Int → Int
  | 0, _ => -1
  | g + 1, k => if σ a k = v then k else zidx σ a v g (k + 1)
theorem zhow_s (σ : zv_H) (a v : Int) (j : Nat) : zhow σ a v (j + 1) = zhow σ a v j + (if σ a j = v then 1 else 0) := rfl
theorem zidx_s (σ : zv_H) (a v : Int) (g : Nat) (k : Int) : zidx σ a v (g + 1) k = if σ a k = v then k else zidx σ a v g (k + 1) := rfl
def zcpy (σ : zv_H) (a na b nb : Int) : zv_H := fun x k => if x = b ∧ 0 ≤ k ∧ k < na ∧ k < nb then σ a k else σ x k
def zfil (σ : zv_H) (a n v : Int) : zv_H := fun x k => if x = a ∧ 0 ≤ k ∧ k < n then v else σ x k
def zlet (name : Int) : Nat → Int
  | 0 => name
  | j + 1 => zlet name j / 27
theorem zlet_r {name : Int} (h : 0 ≤ name ∧ name ≤ 2147483647) : ∀ j : Nat, 0 ≤ zlet name j ∧ zlet name j ≤ 2147483647
  | 0 => h
  | j + 1 => by
    have := zlet_r h j
    unfold zlet
    omega
def zmn (m n : Int) : Nat := if m < n then m.toNat else n.toNat
set_option maxHeartbeats 4000000 in
set_option maxRecDepth 20000 in
theorem c_NT_at {Γ : zv_M} {L : Int} {a n k : Int} {σ : zv_H} (ha : zv_ar (GM L) a .int n) : zC Γ m_NT_at 0 0 0 (GM L) [zR a, zI k] σ (zFn (some (zI (zat σ a n k))) (GM L) σ) := by
  refine zC_of zm_NT_at (by decide) rfl (Nat.le_of_ble_eq_true rfl) ?_
  generalize hQ : (zFn (some (zI (zat σ a n k))) (GM L) σ) = Q
  refine ziload_n (k := 0) rfl rfl ?_
  refine zif_lt (k := 1) rfl rfl (fun c1 => ?_) (fun c1 => ?_)
  · skip
    refine ziconst (k := 10) rfl (by decide) ?_
    refine zireturn (k := 11) rfl rfl rfl ?_
    rw [← hQ]
    exact ⟨by unfold zat; first | rw [if_pos (by omega)] | rw [if_neg (by omega)], rfl, rfl⟩
  · skip
    refine ziload_n (k := 2) rfl rfl ?_
    refine zaload_n (k := 3) rfl rfl ?_
    refine zarraylength (k := 4) rfl (ha).1 ?_
    refine zicmp_ge (k := 5) rfl rfl (fun c2 => ?_) (fun c2 => ?_)
    · skip
      refine ziconst (k := 10) rfl (by decide) ?_
      refine zireturn (k := 11) rfl rfl rfl ?_
      rw [← hQ]
      exact ⟨by unfold zat; first | rw [if_pos (by omega)] | rw [if_neg (by omega)], rfl, rfl⟩
    · skip
      refine zaload_n (k := 6) rfl rfl ?_
      refine ziload_n (k := 7) rfl rfl ?_
      refine ziaload (k := 8) rfl ha ⟨by omega, by omega⟩ ?_
      refine zgoto (k := 9) rfl rfl ?_
      refine zireturn (k := 11) rfl rfl rfl ?_
      rw [← hQ]
      exact ⟨by unfold zat; first | rw [if_pos (by omega)] | rw [if_neg (by omega)], rfl, rfl⟩
set_option maxHeartbeats 4000000 in
set_option maxRecDepth 20000 in
theorem c_NT_put {Γ : zv_M} {L : Int} {a n k v : Int} {σ : zv_H} (ha : zv_ar (GM L) a .int n) (h0 : 0 < a) : zC Γ m_NT_put 0 0 0 (GM L) [zR a, zI k, zI v] σ (zFn none (GM L) (zpt σ a n k v)) := by
  refine zC_of zm_NT_put (by decide) rfl (Nat.le_of_ble_eq_true rfl) ?_
  generalize hQ : (zFn none (GM L) (zpt σ a n k v)) = Q
  refine ziload_n (k := 0) rfl rfl ?_
  refine zif_lt (k := 1) rfl rfl (fun c1 => ?_) (fun c1 => ?_)
  · skip
    refine zreturn (k := 10) rfl rfl rfl ?_
    rw [← hQ]
    exact ⟨rfl, rfl, by unfold zpt; first | rw [if_pos (by omega)] | rw [if_neg (by omega)]⟩
  · skip
    refine ziload_n (k := 2) rfl rfl ?_
    refine zaload_n (k := 3) rfl rfl ?_
    refine zarraylength (k := 4) rfl (ha).1 ?_
    refine zicmp_ge (k := 5) rfl rfl (fun c2 => ?_) (fun c2 => ?_)
    · skip
      refine zreturn (k := 10) rfl rfl rfl ?_
      rw [← hQ]
      exact ⟨rfl, rfl, by unfold zpt; first | rw [if_pos (by omega)] | rw [if_neg (by omega)]⟩
    · skip
      refine zaload_n (k := 6) rfl rfl ?_
      refine ziload_n (k := 7) rfl rfl ?_
      refine ziload_n (k := 8) rfl rfl ?_
      refine ziastore (k := 9) rfl ha ⟨by omega, by omega⟩ h0 ?_
      refine zreturn (k := 10) rfl rfl rfl ?_
      rw [← hQ]
      exact ⟨rfl, rfl, by unfold zpt; first | rw [if_pos (by omega)] | rw [if_neg (by omega)]⟩
set_option maxHeartbeats 4000000 in
set_option maxRecDepth 20000 in
theorem c_NT_total {Γ : zv_M} {L : Int} {a n m : Int} {σ : zv_H} (ha : zv_ar (GM L) a .int n) (h0 : 0 ≤ n) (hn : n < 2147483648) : zC Γ m_NT_total 0 0 0 (GM L) [zR a, zI m] σ (zFn (some (zI (ztot σ a (zmn m n)))) (GM L) σ) := by
  refine zC_of zm_NT_total (by decide) rfl (Nat.le_of_ble_eq_true rfl) ?_
  generalize hQ : (zFn (some (zI (ztot σ a (zmn m n)))) (GM L) σ) = Q
  refine ziconst (k := 0) rfl (by decide) ?_
  refine zistore_n (k := 1) rfl (Nat.le_of_ble_eq_true rfl) rfl ?_
  refine ziconst (k := 2) rfl (by decide) ?_
  refine zistore_n (k := 3) rfl (Nat.le_of_ble_eq_true rfl) rfl ?_
  have lp4 : ∀ (g : Nat) (j : Nat), ((min m n).toNat - j) < g → ((j : Int) ≤ n) → ((j : Int) ≤ m ∨ j = 0) → zV Γ m_NT_total 0 0 0 Q (GM L) (0, 0) 4 [some (zR a), some (zI m), some (zI (ztot σ a j)), some (zI j)] [] σ := by
    intro g
    induction g with
    | zero => intro j hg; exact absurd hg (Nat.not_lt_zero _)
    | succ g ih =>
      intro j hg h1 h2
      refine ziload_n (k := 4) rfl rfl ?_
      refine ziload_n (k := 5) rfl rfl ?_
      refine zicmp_ge (k := 6) rfl rfl (fun c1 => ?_) (fun c1 => ?_)
      · skip
        refine ziload_n (k := 19) rfl rfl ?_
        refine zireturn (k := 20) rfl rfl rfl ?_
        rw [← hQ]
        have e : j = zmn m n := by unfold zmn; split <;> omega
        exact ⟨by rw [e], rfl, rfl⟩
      · skip
        refine ziload_n (k := 7) rfl rfl ?_
        refine zaload_n (k := 8) rfl rfl ?_
        refine zarraylength (k := 9) rfl (ha).1 ?_
        refine zicmp_ge (k := 10) rfl rfl (fun c2 => ?_) (fun c2 => ?_)
        · skip
          refine ziload_n (k := 19) rfl rfl ?_
          refine zireturn (k := 20) rfl rfl rfl ?_
          rw [← hQ]
          have e : j = zmn m n := by unfold zmn; split <;> omega
          exact ⟨by rw [e], rfl, rfl⟩
        · skip
          refine ziload_n (k := 11) rfl rfl ?_
          refine zaload_n (k := 12) rfl rfl ?_
          refine ziload_n (k := 13) rfl rfl ?_
          refine ziaload (k := 14) rfl ha ⟨by omega, by omega⟩ ?_
          refine ziadd (k := 15) rfl ?_
          refine zistore_n (k := 16) rfl (Nat.le_of_ble_eq_true rfl) rfl ?_
          refine ziincB (k := 17) rfl rfl (by decide) (by omega) rfl ?_
          refine zgoto (k := 18) rfl rfl ?_
          exact ih (j + 1) (by omega) (by omega) (by omega)
  exact lp4 _ 0 (Nat.lt_succ_self _) (by omega) (by omega)
set_option maxHeartbeats 4000000 in
set_option maxRecDepth 20000 in
theorem c_NT_howMany {Γ : zv_M} {L : Int} {a n m v : Int} {σ : zv_H} (ha : zv_ar (GM L) a .int n) (h0 : 0 ≤ n) (hn : n < 2147483648) : zC Γ m_NT_howMany 0 0 0 (GM L) [zR a, zI m, zI v] σ (zFn (some (zI (zhow σ a v (zmn m n)))) (GM L) σ) := by
  refine zC_of zm_NT_howMany (by decide) rfl (Nat.le_of_ble_eq_true rfl) ?_
  generalize hQ : (zFn (some (zI (zhow σ a v (zmn m n)))) (GM L) σ) = Q
  refine ziconst (k := 0) rfl (by decide) ?_
  refine zistore_n (k := 1) rfl (Nat.le_of_ble_eq_true rfl) rfl ?_
  refine ziconst (k := 2) rfl (by decide) ?_
  refine zistore (k := 3) rfl (Nat.le_of_ble_eq_true rfl) rfl ?_
  have lp5 : ∀ (g : Nat) (j : Nat), ((min m n).toNat - j) < g → ((j : Int) ≤ n) → ((j : Int) ≤ m ∨ j = 0) → zV Γ m_NT_howMany 0 0 0 Q (GM L) (0, 0) 5 [some (zR a), some (zI m), some (zI v), some (zI (zhow σ a v j)), some (zI j)] [] σ := by
    intro g
    induction g with
    | zero => intro j hg; exact absurd hg (Nat.not_lt_zero _)
    | succ g ih =>
      intro j hg h1 h2
      have hr := zhow_r σ a v j
      refine ziload (k := 4) rfl rfl ?_
      refine ziload_n (k := 5) rfl rfl ?_
      refine zicmp_ge (k := 6) rfl rfl (fun c1 => ?_) (fun c1 => ?_)
      · skip
        refine ziload_n (k := 19) rfl rfl ?_
        refine zireturn (k := 20) rfl rfl rfl ?_
        rw [← hQ]
        have e : j = zmn m n := by unfold zmn; split <;> omega
        exact ⟨by rw [e], rfl, rfl⟩
      · skip
        refine ziload (k := 7) rfl rfl ?_
        refine zaload_n (k := 8) rfl rfl ?_
        refine zarraylength (k := 9) rfl (ha).1 ?_
        refine zicmp_ge (k := 10) rfl rfl (fun c2 => ?_) (fun c2 => ?_)
        · skip
          refine ziload_n (k := 19) rfl rfl ?_
          refine zireturn (k := 20) rfl rfl rfl ?_
          rw [← hQ]
          have e : j = zmn m n := by unfold zmn; split <;> omega
          exact ⟨by rw [e], rfl, rfl⟩
        · skip
          refine zaload_n (k := 11) rfl rfl ?_
          refine ziload (k := 12) rfl rfl ?_
          refine ziaload (k := 13) rfl ha ⟨by omega, by omega⟩ ?_
          refine ziload_n (k := 14) rfl rfl ?_
          refine zicmp_ne (k := 15) rfl rfl (fun c3 => ?_) (fun c3 => ?_)
          · skip
            refine ziincB (k := 17) rfl rfl (by decide) (by omega) rfl ?_
            refine zgoto (k := 18) rfl rfl ?_
            first
            | exact (show zhow σ a v (j + 1) = zhow σ a v j + 1 by rw [zhow_s, if_pos (by assumption)]) ▸ ih (j + 1) (by omega) (by omega) (by omega)
            | exact (show zhow σ a v (j + 1) = zhow σ a v j by rw [zhow_s, if_neg (by assumption), Int.add_zero]) ▸ ih (j + 1) (by omega) (by omega) (by omega)
          · skip
            refine ziincB (k := 16) rfl rfl (by decide) (by omega) rfl ?_
            refine ziincB (k := 17) rfl rfl (by decide) (by omega) rfl ?_
            refine zgoto (k := 18) rfl rfl ?_
            first
            | exact (show zhow σ a v (j + 1) = zhow σ a v j + 1 by rw [zhow_s, if_pos (by assumption)]) ▸ ih (j + 1) (by omega) (by omega) (by omega)
            | exact (show zhow σ a v (j + 1) = zhow σ a v j by rw [zhow_s, if_neg (by assumption), Int.add_zero]) ▸ ih (j + 1) (by omega) (by omega) (by omega)
  exact lp5 _ 0 (Nat.lt_succ_self _) (by omega) (by omega)
set_option maxHeartbeats 4000000 in
set_option maxRecDepth 20000 in
theorem c_NT_indexOf {Γ : zv_M} {L : Int} {a n m v : Int} {σ : zv_H} (ha : zv_ar (GM L) a .int n) (h0 : 0 ≤ n) (hn : n < 2147483648) : zC Γ m_NT_indexOf 0 0 0 (GM L) [zR a, zI m, zI v] σ (zFn (some (zI (zidx σ a v (zmn m n) 0))) (GM L) σ) := by
  refine zC_of zm_NT_indexOf (by decide) rfl (Nat.le_of_ble_eq_true rfl) ?_
  generalize hQ : (zFn (some (zI (zidx σ a v (zmn m n) 0))) (GM L) σ) = Q
  refine ziconst (k := 0) rfl (by decide) ?_
  refine zistore_n (k := 1) rfl (Nat.le_of_ble_eq_true rfl) rfl ?_
  have lp2 : ∀ (g : Nat) (j : Nat), ((min m n).toNat - j) < g → ((j : Int) ≤ n) → ((j : Int) ≤ m ∨ j = 0) → (zidx σ a v (zmn m n) 0 = zidx σ a v (zmn m n - j) j) → zV Γ m_NT_indexOf 0 0 0 Q (GM L) (0, 0) 2 [some (zR a), some (zI m), some (zI v), some (zI j)] [] σ := by
    intro g
    induction g with
    | zero => intro j hg; exact absurd hg (Nat.not_lt_zero _)
    | succ g ih =>
      intro j hg h1 h2 h3
      refine ziload_n (k := 2) rfl rfl ?_
      refine ziload_n (k := 3) rfl rfl ?_
      refine zicmp_ge (k := 4) rfl rfl (fun c1 => ?_) (fun c1 => ?_)
      · skip
        refine ziconst (k := 18) rfl (by decide) ?_
        refine zireturn (k := 19) rfl rfl rfl ?_
        rw [← hQ]
        first
        | (have e : zmn m n - j = 0 := by unfold zmn; split <;> omega
           exact ⟨by rw [h3, e]; rfl, rfl, rfl⟩)
        | (have e : zmn m n - j = (zmn m n - (j + 1)) + 1 := by unfold zmn; split <;> omega
           exact ⟨by rw [h3, e]; rw [zidx_s, if_pos (by assumption)], rfl, rfl⟩)
      · skip
        refine ziload_n (k := 5) rfl rfl ?_
        refine zaload_n (k := 6) rfl rfl ?_
        refine zarraylength (k := 7) rfl (ha).1 ?_
        refine zicmp_ge (k := 8) rfl rfl (fun c2 => ?_) (fun c2 => ?_)
        · skip
          refine ziconst (k := 18) rfl (by decide) ?_
          refine zireturn (k := 19) rfl rfl rfl ?_
          rw [← hQ]
          first
          | (have e : zmn m n - j = 0 := by unfold zmn; split <;> omega
             exact ⟨by rw [h3, e]; rfl, rfl, rfl⟩)
          | (have e : zmn m n - j = (zmn m n - (j + 1)) + 1 := by unfold zmn; split <;> omega
             exact ⟨by rw [h3, e]; rw [zidx_s, if_pos (by assumption)], rfl, rfl⟩)
        · skip
          refine zaload_n (k := 9) rfl rfl ?_
          refine ziload_n (k := 10) rfl rfl ?_
          refine ziaload (k := 11) rfl ha ⟨by omega, by omega⟩ ?_
          refine ziload_n (k := 12) rfl rfl ?_
          refine zicmp_ne (k := 13) rfl rfl (fun c3 => ?_) (fun c3 => ?_)
          · skip
            refine ziincB (k := 16) rfl rfl (by decide) (by omega) rfl ?_
            refine zgoto (k := 17) rfl rfl ?_
            refine ih (j + 1) (by omega) (by omega) (by omega) ?_
            rw [h3]
            have e : zmn m n - j = (zmn m n - (j + 1)) + 1 := by unfold zmn; split <;> omega
            rw [e, zidx_s, if_neg (by assumption)]
            rfl
          · skip
            refine ziload_n (k := 14) rfl rfl ?_
            refine zireturn (k := 15) rfl rfl rfl ?_
            rw [← hQ]
            first
            | (have e : zmn m n - j = 0 := by unfold zmn; split <;> omega
               exact ⟨by rw [h3, e]; rfl, rfl, rfl⟩)
            | (have e : zmn m n - j = (zmn m n - (j + 1)) + 1 := by unfold zmn; split <;> omega
               exact ⟨by rw [h3, e]; rw [zidx_s, if_pos (by assumption)], rfl, rfl⟩)
  exact lp2 _ 0 (Nat.lt_succ_self _) (by omega) (by omega) rfl
set_option maxHeartbeats 4000000 in
set_option maxRecDepth 20000 in
theorem c_NT_copyRow {Γ : zv_M} {L : Int} {a na b nb : Int} {σ : zv_H} (ha : zv_ar (GM L) a .int na) (hb : zv_ar (GM L) b .int nb) (h0 : 0 < b) (hna : na < 2147483648) (hnb : nb < 2147483648) : zC Γ m_NT_copyRow 0 0 0 (GM L) [zR a, zR b] σ (zFn none (GM L) (zcpy σ a na b nb)) := by
  refine zC_of zm_NT_copyRow (by decide) rfl (Nat.le_of_ble_eq_true rfl) ?_
  generalize hQ : (zFn none (GM L) (zcpy σ a na b nb)) = Q
  refine ziconst (k := 0) rfl (by decide) ?_
  refine zistore_n (k := 1) rfl (Nat.le_of_ble_eq_true rfl) rfl ?_
  have lp2 : ∀ (g : Nat) (j : Nat), ((min na nb).toNat - j) < g → ((j : Int) ≤ na ∨ j = 0) → ((j : Int) ≤ nb ∨ j = 0) → zV Γ m_NT_copyRow 0 0 0 Q (GM L) (0, 0) 2 [some (zR a), some (zR b), some (zI j)] [] (zcpy σ a j b j) := by
    intro g
    induction g with
    | zero => intro j hg; exact absurd hg (Nat.not_lt_zero _)
    | succ g ih =>
      intro j hg h1 h2
      refine ziload_n (k := 2) rfl rfl ?_
      refine zaload_n (k := 3) rfl rfl ?_
      refine zarraylength (k := 4) rfl (ha).1 ?_
      refine zicmp_ge (k := 5) rfl rfl (fun c1 => ?_) (fun c1 => ?_)
      · skip
        refine zreturn (k := 18) rfl rfl rfl ?_
        rw [← hQ]
        refine ⟨rfl, rfl, ?_⟩
        funext x k
        unfold zcpy
        by_cases hx : x = b ∧ 0 ≤ k ∧ k < na ∧ k < nb
        · rw [if_pos hx, if_pos (by omega)]
        · rw [if_neg hx, if_neg (by omega)]
      · skip
        refine ziload_n (k := 6) rfl rfl ?_
        refine zaload_n (k := 7) rfl rfl ?_
        refine zarraylength (k := 8) rfl (hb).1 ?_
        refine zicmp_ge (k := 9) rfl rfl (fun c2 => ?_) (fun c2 => ?_)
        · skip
          refine zreturn (k := 18) rfl rfl rfl ?_
          rw [← hQ]
          refine ⟨rfl, rfl, ?_⟩
          funext x k
          unfold zcpy
          by_cases hx : x = b ∧ 0 ≤ k ∧ k < na ∧ k < nb
          · rw [if_pos hx, if_pos (by omega)]
          · rw [if_neg hx, if_neg (by omega)]
        · skip
          refine zaload_n (k := 10) rfl rfl ?_
          refine ziload_n (k := 11) rfl rfl ?_
          refine zaload_n (k := 12) rfl rfl ?_
          refine ziload_n (k := 13) rfl rfl ?_
          refine ziaload (k := 14) rfl ha ⟨by omega, by omega⟩ ?_
          refine ziastore (k := 15) rfl hb ⟨by omega, by omega⟩ h0 ?_
          refine ziincB (k := 16) rfl rfl (by decide) (by omega) rfl ?_
          refine zgoto (k := 17) rfl rfl ?_
          rw [show zup (zcpy σ a j b j) b j (zcpy σ a j b j a j) = zcpy σ a ((j + 1 : Nat) : Int) b ((j + 1 : Nat) : Int) by
            have e1 : zcpy σ a j b j a j = σ a j := by unfold zcpy; rw [if_neg (by omega)]
            rw [e1]
            funext x k
            unfold zup zcpy
            by_cases hx : x = b
            · subst hx
              by_cases hk : k = j
              · subst hk
                rw [if_pos ⟨rfl, rfl⟩, if_pos (by omega)]
              · rw [if_neg (by omega)]
                by_cases hk2 : 0 ≤ k ∧ k < j
                · rw [if_pos (by omega), if_pos (by omega)]
                · rw [if_neg (by omega), if_neg (by omega)]
            · rw [if_neg (fun q => hx q.1), if_neg (fun q => hx q.1), if_neg (fun q => hx q.1)]]
          exact ih (j + 1) (by omega) (by omega) (by omega)
  rw [show σ = zcpy σ a (0 : Nat) b (0 : Nat) by funext x k; unfold zcpy; rw [if_neg (by omega)]]
  exact lp2 _ 0 (Nat.lt_succ_self _) (by omega) (by omega)
set_option maxHeartbeats 4000000 in
set_option maxRecDepth 20000 in
theorem c_NT_fillRow {Γ : zv_M} {L : Int} {a n v : Int} {σ : zv_H} (ha : zv_ar (GM L) a .int n) (h0 : 0 < a) (hn : n < 2147483648) : zC Γ m_NT_fillRow 0 0 0 (GM L) [zR a, zI v] σ (zFn none (GM L) (zfil σ a n v)) := by
  refine zC_of zm_NT_fillRow (by decide) rfl (Nat.le_of_ble_eq_true rfl) ?_
  generalize hQ : (zFn none (GM L) (zfil σ a n v)) = Q
  refine ziconst (k := 0) rfl (by decide) ?_
  refine zistore_n (k := 1) rfl (Nat.le_of_ble_eq_true rfl) rfl ?_
  have lp2 : ∀ (g : Nat) (j : Nat), (n.toNat - j) < g → ((j : Int) ≤ n ∨ j = 0) → zV Γ m_NT_fillRow 0 0 0 Q (GM L) (0, 0) 2 [some (zR a), some (zI v), some (zI j)] [] (zfil σ a j v) := by
    intro g
    induction g with
    | zero => intro j hg; exact absurd hg (Nat.not_lt_zero _)
    | succ g ih =>
      intro j hg h1
      refine ziload_n (k := 2) rfl rfl ?_
      refine zaload_n (k := 3) rfl rfl ?_
      refine zarraylength (k := 4) rfl (ha).1 ?_
      refine zicmp_ge (k := 5) rfl rfl (fun c1 => ?_) (fun c1 => ?_)
      · skip
        refine zreturn (k := 12) rfl rfl rfl ?_
        rw [← hQ]
        refine ⟨rfl, rfl, ?_⟩
        funext x k
        unfold zfil
        by_cases hx : x = a ∧ 0 ≤ k ∧ k < n
        · rw [if_pos hx, if_pos (by omega)]
        · rw [if_neg hx, if_neg (by omega)]
      · skip
        refine zaload_n (k := 6) rfl rfl ?_
        refine ziload_n (k := 7) rfl rfl ?_
        refine ziload_n (k := 8) rfl rfl ?_
        refine ziastore (k := 9) rfl ha ⟨by omega, by omega⟩ h0 ?_
        refine ziincB (k := 10) rfl rfl (by decide) (by omega) rfl ?_
        refine zgoto (k := 11) rfl rfl ?_
        rw [show zup (zfil σ a j v) a j v = zfil σ a ((j + 1 : Nat) : Int) v by
          funext x k
          unfold zup zfil
          by_cases hx : x = a
          · subst hx
            by_cases hk : k = j
            · subst hk
              rw [if_pos ⟨rfl, rfl⟩, if_pos (by omega)]
            · rw [if_neg (by omega)]
              by_cases hk2 : 0 ≤ k ∧ k < j
              · rw [if_pos (by omega), if_pos (by omega)]
              · rw [if_neg (by omega), if_neg (by omega)]
          · rw [if_neg (fun q => hx q.1), if_neg (fun q => hx q.1), if_neg (fun q => hx q.1)]]
        exact ih (j + 1) (by omega) (by omega)
  rw [show σ = zfil σ a (0 : Nat) v by funext x k; unfold zfil; rw [if_neg (by omega)]]
  exact lp2 _ 0 (Nat.lt_succ_self _) (by omega)
set_option maxHeartbeats 4000000 in
set_option maxRecDepth 20000 in
theorem c_NT_letterOf {Γ : zv_M} {L : Int} {name k : Int} {σ : zv_H} (hk : 0 ≤ k ∧ k < 6) (hn : 0 ≤ name ∧ name ≤ 2147483647) : zC Γ m_NT_letterOf 0 0 0 (GM L) [zI name, zI k] σ (zFn (some (zI (zlet name (5 - k.toNat) % 27))) (GM L) σ) := by
  refine zC_of zm_NT_letterOf (by decide) rfl (Nat.le_of_ble_eq_true rfl) ?_
  generalize hQ : (zFn (some (zI (zlet name (5 - k.toNat) % 27))) (GM L) σ) = Q
  refine ziload_n (k := 0) rfl rfl ?_
  refine zistore_n (k := 1) rfl (Nat.le_of_ble_eq_true rfl) rfl ?_
  refine ziload_n (k := 2) rfl rfl ?_
  refine ziconst (k := 3) rfl (by decide) ?_
  refine ziaddB (k := 4) rfl (by omega) ?_
  refine zistore_n (k := 5) rfl (Nat.le_of_ble_eq_true rfl) rfl ?_
  have lp6 : ∀ (g : Nat) (j : Nat), (6 - j) < g → (k + 1 + (j : Int) ≤ 6) → zV Γ m_NT_letterOf 0 0 0 Q (GM L) (0, 0) 6 [some (zI name), some (zI k), some (zI (zlet name j)), some (zI (k + 1 + j))] [] σ := by
    intro g
    induction g with
    | zero => intro j hg; exact absurd hg (Nat.not_lt_zero _)
    | succ g ih =>
      intro j hg h1
      have hr := zlet_r hn j
      refine ziload_n (k := 6) rfl rfl ?_
      refine zbipush (k := 7) rfl rfl ?_
      refine zicmp_ge (k := 8) rfl rfl (fun c1 => ?_) (fun c1 => ?_)
      · skip
        refine ziload_n (k := 15) rfl rfl ?_
        refine zbipush (k := 16) rfl rfl ?_
        refine ziremP (k := 17) rfl (by omega) ?_
        refine zireturn (k := 18) rfl rfl rfl ?_
        rw [← hQ]
        exact ⟨by rw [show j = 5 - k.toNat by omega], rfl, rfl⟩
      · skip
        refine ziload_n (k := 9) rfl rfl ?_
        refine zbipush (k := 10) rfl rfl ?_
        refine zidivP (k := 11) rfl (by omega) ?_
        refine zistore_n (k := 12) rfl (Nat.le_of_ble_eq_true rfl) rfl ?_
        refine ziincB (k := 13) rfl rfl (by decide) (by omega) rfl ?_
        refine zgoto (k := 14) rfl rfl ?_
        rw [show k + 1 + (j : Int) + 1 = k + 1 + ((j + 1 : Nat) : Int) by omega]
        exact ih (j + 1) (by omega) (by omega)
  rw [show k + 1 = k + 1 + ((0 : Nat) : Int) by omega]
  exact lp6 _ 0 (Nat.lt_succ_self _) (by omega)
