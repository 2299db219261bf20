/-! THE MACHINE THAT READS FORMULAS: how the model keeps it -/
def opM (σ : zv_H) : List Int → Int → Prop
  | [], _ => True
  | x :: r, m => σ 313 (m - 1) = x ∧ opM σ r (m - 1)
def frM (σ : zv_H) : List zFr → Int → Prop
  | [], m => m = 0
  | (kd, ph, bg, pr, ops) :: R, m => (σ 308 (R.length : Int) = kd ∧ σ 309 (R.length : Int) = ph ∧ σ 310 (R.length : Int) = zB bg ∧ ((kd = 3 ∨ kd = 4 ∨ kd = 6) → σ 311 (R.length : Int) = pr) ∧ σ 312 (R.length : Int) = m - (ops.length : Int)) ∧ opM σ ops m ∧ frM σ R (m - (ops.length : Int))
def ouM (σ : zv_H) (i : Int) : List (Int × Int) → Prop
  | [] => True
  | c :: r => (σ 304 (1600 * i + (r.length : Int)) = c.1 ∧ σ 305 (1600 * i + (r.length : Int)) = c.2) ∧ ouM σ i r
theorem opM_x {σ σ' : zv_H} : ∀ {l : List Int} {m : Int}, opM σ l m → (∀ k, m - (l.length : Int) ≤ k → k < m → σ' 313 k = σ 313 k) → opM σ' l m
  | [], _, _, _ => trivial
  | x :: r, m, ⟨a, b⟩, h => ⟨by rw [h (m - 1) (by rw [List.length_cons]; omega) (by omega)]; exact a, opM_x b (fun k k1_q k2_q => h k (by rw [List.length_cons]; omega) (by omega))⟩
theorem ouM_x {σ σ' : zv_H} {i : Int} : ∀ {l : List (Int × Int)}, ouM σ i l → (∀ x k, x = 304 ∨ x = 305 → 1600 * i ≤ k → k < 1600 * i + (l.length : Int) → σ' x k = σ x k) → ouM σ' i l
  | [], _, _ => trivial
  | c :: r, ⟨a, b⟩, h => ⟨by
      rw [h 304 _ (Or.inl rfl) (by omega) (by rw [List.length_cons]; omega), h 305 _ (Or.inr rfl) (by omega) (by rw [List.length_cons]; omega)]
      exact a, ouM_x b (fun x k q k1_q k2_q => h x k q k1_q (by rw [List.length_cons]; omega))⟩
theorem frM_x {σ σ' : zv_H} : ∀ {F : List zFr} {m : Int}, frM σ F m → (∀ x k, (308 ≤ x ∧ x ≤ 312) → 0 ≤ k → k < (F.length : Int) → σ' x k = σ x k) → (∀ k, 0 ≤ k → k < m → σ' 313 k = σ 313 k) → frM σ' F m
  | [], _, h, _, _ => h
  | (kd, ph, bg, pr, ops) :: R, m, ⟨⟨a1_q, a2_q, a3_q, a4_q, a5_q⟩, b, c⟩, h, g => by
    have hm : 0 ≤ m - (ops.length : Int) := frM_0 c
    have hl : ∀ x, (308 ≤ x ∧ x ≤ 312) → σ' x (R.length : Int) = σ x (R.length : Int) := fun x hx => h x _ hx (by omega) (by rw [List.length_cons]; omega)
    refine ⟨⟨by rw [hl 308 (by omega)]; exact a1_q, by rw [hl 309 (by omega)]; exact a2_q, by rw [hl 310 (by omega)]; exact a3_q, fun q => by rw [hl 311 (by omega)]; exact a4_q q, by rw [hl 312 (by omega)]; exact a5_q⟩, opM_x b (fun k k1_q k2_q => g k (by omega) k2_q), frM_x c (fun x k hx k1_q k2_q => h x k hx k1_q (by rw [List.length_cons]; omega)) (fun k k1_q k2_q => g k k1_q (by omega))⟩
where
  frM_0 {σ : zv_H} : ∀ {F : List zFr} {m : Int}, frM σ F m → 0 ≤ m
    | [], m, h => by rw [show m = 0 from h]; exact Int.le_refl 0
    | (_, _, _, _, ops) :: R, m, ⟨_, _, c⟩ => by have := frM_0 c; omega
def opsL : List zFr → Int
  | [] => 0
  | (_, _, _, _, ops) :: R => (ops.length : Int) + opsL R
theorem opsL_0 : ∀ F : List zFr, 0 ≤ opsL F
  | [] => Int.le_refl 0
  | (_, _, _, _, ops) :: R => by have := opsL_0 R; show 0 ≤ (ops.length : Int) + opsL R; omega
theorem frM_l {σ : zv_H} : ∀ {F : List zFr} {m : Int}, frM σ F m → m = opsL F
  | [], m, h => h
  | (_, _, _, _, ops) :: R, m, ⟨_, _, c⟩ => by have := frM_l c; show m = (ops.length : Int) + opsL R; omega
/-- a cell of what is written -/
theorem ouM_c {σ : zv_H} {i a v : Int} {l : List (Int × Int)} (h : ouM σ i l) : ouM (zup (zup (zup σ 304 (1600 * i + (l.length : Int)) a) 305 (1600 * i + (l.length : Int)) v) 289 31 ((l.length : Int) + 1)) i ((a, v) :: l) := by
  refine ⟨⟨by rw [zup_n (by omega), zup_n (by omega), zup_s], by rw [zup_n (by omega), zup_s]⟩, ouM_x h (fun x k q k1_q k2_q => ?_)⟩
  rw [zup_n (by omega), zup_n (by omega), zup_n (by omega)]
set_option maxHeartbeats 4000000 in
set_option maxRecDepth 20000 in
theorem c_M_isTest {Γ : zv_M} {L : Int} {σ : zv_H} {x : Int}  : zC Γ m_M_isTest 0 0 0 (GM L) [zI x] σ (zFn (some (zI (if isT x then 1 else 0))) (GM L) σ) := by
  refine zC_of (ls0 := [_]) zm_M_isTest (by decide) rfl (Nat.le_of_ble_eq_true rfl) ?_
  generalize hQ : (zFn (some (zI (if isT x then 1 else 0))) (GM L) σ) = Q
  refine ziload_n (k := 0) rfl rfl ?_
  refine ziconst (k := 1) rfl (by decide) ?_
  refine zicmp_eq (k := 2) rfl rfl (fun c1_q => ?_) (fun c1_q => ?_)
  · skip
    refine ziconst (k := 9) rfl (by decide) ?_
    refine zgoto (k := 10) rfl rfl ?_
    refine zzreturn (k := 12) rfl rfl (by first | exact Or.inl rfl | exact Or.inr rfl | omega) rfl ?_
    rw [← hQ]
    exact ⟨by first | (rw [if_pos (by omega)]; done) | (rw [if_neg (by omega)]; done) | (exfalso; omega), rfl, rfl⟩
  · skip
    refine ziload_n (k := 3) rfl rfl ?_
    refine ziconst (k := 4) rfl (by decide) ?_
    refine zicmp_eq (k := 5) rfl rfl (fun c2_q => ?_) (fun c2_q => ?_)
    · skip
      refine ziconst (k := 9) rfl (by decide) ?_
      refine zgoto (k := 10) rfl rfl ?_
      refine zzreturn (k := 12) rfl rfl (by first | exact Or.inl rfl | exact Or.inr rfl | omega) rfl ?_
      rw [← hQ]
      exact ⟨by first | (rw [if_pos (by omega)]; done) | (rw [if_neg (by omega)]; done) | (exfalso; omega), rfl, rfl⟩
    · skip
      refine ziload_n (k := 6) rfl rfl ?_
      refine zbipush (k := 7) rfl rfl ?_
      refine zicmp_ne (k := 8) rfl rfl (fun c3_q => ?_) (fun c3_q => ?_)
      · skip
        refine ziconst (k := 11) rfl (by decide) ?_
        refine zzreturn (k := 12) rfl rfl (by first | exact Or.inl rfl | exact Or.inr rfl | omega) rfl ?_
        rw [← hQ]
        exact ⟨by first | (rw [if_pos (by omega)]; done) | (rw [if_neg (by omega)]; done) | (exfalso; omega), rfl, rfl⟩
      · skip
        refine ziconst (k := 9) rfl (by decide) ?_
        refine zgoto (k := 10) rfl rfl ?_
        refine zzreturn (k := 12) rfl rfl (by first | exact Or.inl rfl | exact Or.inr rfl | omega) rfl ?_
        rw [← hQ]
        exact ⟨by first | (rw [if_pos (by omega)]; done) | (rw [if_neg (by omega)]; done) | (exfalso; omega), rfl, rfl⟩
set_option maxHeartbeats 4000000 in
set_option maxRecDepth 20000 in
theorem c_M_rank {Γ : zv_M} {L : Int} {σ : zv_H} {x : Int}  : zC Γ m_M_rank 0 0 0 (GM L) [zI x] σ (zFn (some (zI (rnk x))) (GM L) σ) := by
  refine zC_of (ls0 := [_]) zm_M_rank (by decide) rfl (Nat.le_of_ble_eq_true rfl) ?_
  generalize hQ : (zFn (some (zI (rnk x))) (GM L) σ) = Q
  refine ziload_n (k := 0) rfl rfl ?_
  refine zbipush (k := 1) rfl rfl ?_
  refine zicmp_ne (k := 2) rfl rfl (fun c1_q => ?_) (fun c1_q => ?_)
  · skip
    refine ziload_n (k := 5) rfl rfl ?_
    refine zbipush (k := 6) rfl rfl ?_
    refine zicmp_ne (k := 7) rfl rfl (fun c2_q => ?_) (fun c2_q => ?_)
    · skip
      refine ziload_n (k := 10) rfl rfl ?_
      refine zbipush (k := 11) rfl rfl ?_
      refine zicmp_ne (k := 12) rfl rfl (fun c3_q => ?_) (fun c3_q => ?_)
      · skip
        refine ziload_n (k := 15) rfl rfl ?_
        refine zbipush (k := 16) rfl rfl ?_
        refine zicmp_eq (k := 17) rfl rfl (fun c4_q => ?_) (fun c4_q => ?_)
        · skip
          refine ziconst (k := 24) rfl (by decide) ?_
          refine zgoto (k := 25) rfl rfl ?_
          refine zireturn (k := 35) rfl rfl rfl ?_
          rw [← hQ]
          unfold rnk
          exact ⟨szI (by omega), rfl, rfl⟩
        · skip
          refine ziload_n (k := 18) rfl rfl ?_
          refine zbipush (k := 19) rfl rfl ?_
          refine zicmp_eq (k := 20) rfl rfl (fun c5_q => ?_) (fun c5_q => ?_)
          · skip
            refine ziconst (k := 24) rfl (by decide) ?_
            refine zgoto (k := 25) rfl rfl ?_
            refine zireturn (k := 35) rfl rfl rfl ?_
            rw [← hQ]
            unfold rnk
            exact ⟨szI (by omega), rfl, rfl⟩
          · skip
            refine ziload_n (k := 21) rfl rfl ?_
            refine zbipush (k := 22) rfl rfl ?_
            refine zicmp_ne (k := 23) rfl rfl (fun c6_q => ?_) (fun c6_q => ?_)
            · skip
              refine ziload_n (k := 26) rfl rfl ?_
              refine zbipush (k := 27) rfl rfl ?_
              refine zicmp_eq (k := 28) rfl rfl (fun c7_q => ?_) (fun c7_q => ?_)
              · skip
                refine ziconst (k := 32) rfl (by decide) ?_
                refine zgoto (k := 33) rfl rfl ?_
                refine zireturn (k := 35) rfl rfl rfl ?_
                rw [← hQ]
                unfold rnk
                exact ⟨szI (by omega), rfl, rfl⟩
              · skip
                refine ziload_n (k := 29) rfl rfl ?_
                refine zbipush (k := 30) rfl rfl ?_
                refine zicmp_ne (k := 31) rfl rfl (fun c8_q => ?_) (fun c8_q => ?_)
                · skip
                  refine zbipush (k := 34) rfl rfl ?_
                  refine zireturn (k := 35) rfl rfl rfl ?_
                  rw [← hQ]
                  unfold rnk
                  exact ⟨szI (by omega), rfl, rfl⟩
                · skip
                  refine ziconst (k := 32) rfl (by decide) ?_
                  refine zgoto (k := 33) rfl rfl ?_
                  refine zireturn (k := 35) rfl rfl rfl ?_
                  rw [← hQ]
                  unfold rnk
                  exact ⟨szI (by omega), rfl, rfl⟩
            · skip
              refine ziconst (k := 24) rfl (by decide) ?_
              refine zgoto (k := 25) rfl rfl ?_
              refine zireturn (k := 35) rfl rfl rfl ?_
              rw [← hQ]
              unfold rnk
              exact ⟨szI (by omega), rfl, rfl⟩
      · skip
        refine ziconst (k := 13) rfl (by decide) ?_
        refine zgoto (k := 14) rfl rfl ?_
        refine zireturn (k := 35) rfl rfl rfl ?_
        rw [← hQ]
        unfold rnk
        exact ⟨szI (by omega), rfl, rfl⟩
    · skip
      refine ziconst (k := 8) rfl (by decide) ?_
      refine zgoto (k := 9) rfl rfl ?_
      refine zireturn (k := 35) rfl rfl rfl ?_
      rw [← hQ]
      unfold rnk
      exact ⟨szI (by omega), rfl, rfl⟩
  · skip
    refine ziconst (k := 3) rfl (by decide) ?_
    refine zgoto (k := 4) rfl rfl ?_
    refine zireturn (k := 35) rfl rfl rfl ?_
    rw [← hQ]
    unfold rnk
    exact ⟨szI (by omega), rfl, rfl⟩
set_option maxHeartbeats 4000000 in
set_option maxRecDepth 20000 in
theorem c_M_add {Γ : zv_M} {L : Int} {σ : zv_H} {i k a v : Int} (hi1_q : i = 0 ∨ i = 1) (hin : σ 289 32 = i) (hk : σ 289 31 = k) (hb : 0 ≤ k ∧ k < 1600)  : zC Γ m_M_add 0 0 0 (GM L) [zR 289, zI a, zI v] σ (zFn none (GM L) (zup (zup (zup σ 304 (1600 * i + k) a) 305 (1600 * i + k) v) 289 31 (k + 1))) := by
  refine zC_of (ls0 := [_, _, _]) zm_M_add (by decide) rfl (Nat.le_of_ble_eq_true rfl) ?_
  generalize hQ : (zFn none (GM L) (zup (zup (zup σ 304 (1600 * i + k) a) 305 (1600 * i + k) v) 289 31 (k + 1))) = Q
  refine zaload_n (k := 0) rfl rfl ?_
  refine zgF 27 (k := 1) rfl ob_289 fl_12_93 rfl fx_289_27 ?_
  refine zsipush (k := 2) rfl rfl ?_
  refine zaload_n (k := 3) rfl rfl ?_
  refine zgI 32 (k := 4) rfl ob_289 fl_12_109 rfl fx_289_32 ?_
  refine zimulB (k := 5) rfl (by omega) ?_
  rw [hin]
  refine zaload_n (k := 6) rfl rfl ?_
  refine zgI 31 (k := 7) rfl ob_289 fl_12_106 rfl fx_289_31 ?_
  rw [hk]
  refine ziaddB (k := 8) rfl (by omega) ?_
  refine ziload_n (k := 9) rfl rfl ?_
  refine ziastore (k := 10) rfl ar_304 ⟨by omega, by omega⟩ (by omega) ?_
  refine zaload_n (k := 11) rfl rfl ?_
  refine zgF 28 (k := 12) rfl ob_289 fl_12_96 rfl fx_289_28 ?_
  refine zsipush (k := 13) rfl rfl ?_
  refine zaload_n (k := 14) rfl rfl ?_
  refine zgI 32 (k := 15) rfl ob_289 fl_12_109 rfl fx_289_32 ?_
  rw [zup_n (by omega), hin]
  refine zimulB (k := 16) rfl (by omega) ?_
  refine zaload_n (k := 17) rfl rfl ?_
  refine zgI 31 (k := 18) rfl ob_289 fl_12_106 rfl fx_289_31 ?_
  rw [zup_n (by omega), hk]
  refine ziaddB (k := 19) rfl (by omega) ?_
  refine ziload_n (k := 20) rfl rfl ?_
  refine ziastore (k := 21) rfl ar_305 ⟨by omega, by omega⟩ (by omega) ?_
  refine zaload_n (k := 22) rfl rfl ?_
  refine zdup (k := 23) rfl rfl ?_
  refine zgI 31 (k := 24) rfl ob_289 fl_12_106 rfl fx_289_31 ?_
  rw [zup_n (by omega), zup_n (by omega), hk]
  refine ziconst (k := 25) rfl (by decide) ?_
  refine ziaddB (k := 26) rfl (by omega) ?_
  refine zpI 31 (k := 27) rfl ob_289 fl_12_106 ⟨_, rfl, rfl⟩ rfl (by omega) rfl fx_289_31 ?_
  refine zreturn (k := 28) rfl rfl rfl ?_
  rw [← hQ]
  exact ⟨rfl, rfl, rfl⟩
set_option maxHeartbeats 4000000 in
set_option maxRecDepth 20000 in
theorem c_M_holdsBack {Γ : zv_M} {L : Int} {σ : zv_H} {m x : Int} (hm : σ 289 42 = m) (hb : 0 ≤ m ∧ m < 500)  : zC Γ m_M_holdsBack 0 0 0 (GM L) [zR 289, zI x] σ (zFn none (GM L) (zup (zup σ 313 m x) 289 42 (m + 1))) := by
  refine zC_of (ls0 := [_, _]) zm_M_holdsBack (by decide) rfl (Nat.le_of_ble_eq_true rfl) ?_
  generalize hQ : (zFn none (GM L) (zup (zup σ 313 m x) 289 42 (m + 1))) = Q
  refine zaload_n (k := 0) rfl rfl ?_
  refine zgF 41 (k := 1) rfl ob_289 fl_12_138 rfl fx_289_41 ?_
  refine zaload_n (k := 2) rfl rfl ?_
  refine zgI 42 (k := 3) rfl ob_289 fl_12_141 rfl fx_289_42 ?_
  rw [hm]
  refine ziload_n (k := 4) rfl rfl ?_
  refine ziastore (k := 5) rfl ar_313 ⟨by omega, by omega⟩ (by omega) ?_
  refine zaload_n (k := 6) rfl rfl ?_
  refine zdup (k := 7) rfl rfl ?_
  refine zgI 42 (k := 8) rfl ob_289 fl_12_141 rfl fx_289_42 ?_
  rw [zup_n (by omega), hm]
  refine ziconst (k := 9) rfl (by decide) ?_
  refine ziaddB (k := 10) rfl (by omega) ?_
  refine zpI 42 (k := 11) rfl ob_289 fl_12_141 ⟨_, rfl, rfl⟩ rfl (by omega) rfl fx_289_42 ?_
  refine zreturn (k := 12) rfl rfl rfl ?_
  rw [← hQ]
  exact ⟨rfl, rfl, rfl⟩
set_option maxHeartbeats 4000000 in
set_option maxRecDepth 20000 in
theorem c_M_pushes {Γ : zv_M} {L : Int} {σ : zv_H} {d m x : Int} (hd : σ 289 39 = d) (hm : σ 289 42 = m) (hb : 0 ≤ d ∧ d < 20)  : zC Γ m_M_pushes 0 0 0 (GM L) [zR 289, zI x] σ (zFn none (GM L) (zup (zup (zup (zup (zup σ 308 d x) 309 d 0) 310 d 1) 312 d m) 289 39 (d + 1))) := by
  refine zC_of (ls0 := [_, _]) zm_M_pushes (by decide) rfl (Nat.le_of_ble_eq_true rfl) ?_
  generalize hQ : (zFn none (GM L) (zup (zup (zup (zup (zup σ 308 d x) 309 d 0) 310 d 1) 312 d m) 289 39 (d + 1))) = Q
  refine zaload_n (k := 0) rfl rfl ?_
  refine zgF 34 (k := 1) rfl ob_289 fl_12_116 rfl fx_289_34 ?_
  refine zaload_n (k := 2) rfl rfl ?_
  refine zgI 39 (k := 3) rfl ob_289 fl_12_132 rfl fx_289_39 ?_
  rw [hd]
  refine ziload_n (k := 4) rfl rfl ?_
  refine ziastore (k := 5) rfl ar_308 ⟨by omega, by omega⟩ (by omega) ?_
  refine zaload_n (k := 6) rfl rfl ?_
  refine zgF 35 (k := 7) rfl ob_289 fl_12_119 rfl fx_289_35 ?_
  refine zaload_n (k := 8) rfl rfl ?_
  refine zgI 39 (k := 9) rfl ob_289 fl_12_132 rfl fx_289_39 ?_
  rw [zup_n (by omega), hd]
  refine ziconst (k := 10) rfl (by decide) ?_
  refine ziastore (k := 11) rfl ar_309 ⟨by omega, by omega⟩ (by omega) ?_
  refine zaload_n (k := 12) rfl rfl ?_
  refine zgF 36 (k := 13) rfl ob_289 fl_12_122 rfl fx_289_36 ?_
  refine zaload_n (k := 14) rfl rfl ?_
  refine zgI 39 (k := 15) rfl ob_289 fl_12_132 rfl fx_289_39 ?_
  rw [zup_n (by omega), zup_n (by omega), hd]
  refine ziconst (k := 16) rfl (by decide) ?_
  refine zbastore (k := 17) rfl ar_310 ⟨by omega, by omega⟩ (by omega) (by first | exact Or.inl rfl | exact Or.inr rfl | omega) ?_
  refine zaload_n (k := 18) rfl rfl ?_
  refine zgF 38 (k := 19) rfl ob_289 fl_12_129 rfl fx_289_38 ?_
  refine zaload_n (k := 20) rfl rfl ?_
  refine zgI 39 (k := 21) rfl ob_289 fl_12_132 rfl fx_289_39 ?_
  rw [zup_n (by omega), zup_n (by omega), zup_n (by omega), hd]
  refine zaload_n (k := 22) rfl rfl ?_
  refine zgI 42 (k := 23) rfl ob_289 fl_12_141 rfl fx_289_42 ?_
  rw [zup_n (by omega), zup_n (by omega), zup_n (by omega), hm]
  refine ziastore (k := 24) rfl ar_312 ⟨by omega, by omega⟩ (by omega) ?_
  refine zaload_n (k := 25) rfl rfl ?_
  refine zdup (k := 26) rfl rfl ?_
  refine zgI 39 (k := 27) rfl ob_289 fl_12_132 rfl fx_289_39 ?_
  rw [zup_n (by omega), zup_n (by omega), zup_n (by omega), zup_n (by omega), hd]
  refine ziconst (k := 28) rfl (by decide) ?_
  refine ziaddB (k := 29) rfl (by omega) ?_
  refine zpI 39 (k := 30) rfl ob_289 fl_12_132 ⟨_, rfl, rfl⟩ rfl (by omega) rfl fx_289_39 ?_
  refine zreturn (k := 31) rfl rfl rfl ?_
  rw [← hQ]
  exact ⟨rfl, rfl, rfl⟩
