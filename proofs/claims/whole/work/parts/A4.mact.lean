/-! the model's acts -/
def rfM (σ : zv_H) (k : Int) : zv_H := zup σ 314 k (w32 (σ 314 k + 1))
/-- the acts that can be undone, the latest first -/
def acM (σ : zv_H) (nc nm : Int) (l : List zv_H) : Prop := (σ 289 58 = (l.length : Int) ∧ l.length ≤ 20) ∧ (0 ≤ σ 289 57 ∧ σ 289 57 < 20) ∧ ∀ (j : Nat) (T : zv_H), l[j]? = some T → rM σ nc nm (2 + (σ 289 57 + (l.length : Int) - 1 - j) % 20) T ∧ (0 ≤ T 0 12 ∧ T 0 12 ≤ 60)
def frA (σ σ' : zv_H) : Prop := ∀ x k, ¬ (315 ≤ x ∧ x ≤ 328) → ¬ (x = 289 ∧ (k = 57 ∨ k = 58 ∨ k = 62)) → σ' x k = σ x k
theorem frA_rf (σ : zv_H) : frA σ σ := fun _ _ _ _ => rfl
theorem frA_tr {σ σ1 σ2 : zv_H} (h1 : frA σ σ1) (h2 : frA σ1 σ2) : frA σ σ2 := fun x k a c => by rw [h2 x k a c]; exact h1 x k a c
def actP (σ σ' : zv_H) (b : Int) (Wm S : zv_H) (l : List zv_H) : Prop := stM σ' σ' b 0 Wm S ∧ acM σ' (Wm 0 1) (Wm 0 3) l ∧ frA σ σ'
theorem stM_self {σ0 σ Wm S : zv_H} {b v : Int} (h : stM σ0 σ b v Wm S) : stM σ σ b v Wm S := ⟨h.1, h.2.1, h.2.2.1, fun _ _ _ _ _ => rfl⟩
theorem acM_v {σ σ' : zv_H} {nc nm v : Int} {l : List zv_H} (h : acM σ nc nm l) (hnc : nc ≤ 7) (hnm : nm ≤ 6) (hv : v < 2 ∨ (22 ≤ v)) (he : ∀ x k, 315 ≤ x → x ≤ 326 → ¬ inV v x k → σ' x k = σ x k) (h57 : σ' 289 57 = σ 289 57) (h58 : σ' 289 58 = σ 289 58) : acM σ' nc nm l := by
  obtain ⟨h1, h2, h3⟩ := h
  refine ⟨by rw [h58]; exact h1, by rw [h57]; exact h2, fun j T hj => ?_⟩
  obtain ⟨r, r2⟩ := h3 j T hj
  rw [h57]
  exact ⟨rM_v r hnc hnm r2.2 (fun x k q => he x k (by unfold inV at q; omega) (by unfold inV at q; omega) (inV_d q (by omega))), r2⟩
theorem actP_st {σ σ1 σ2 Wm S S2 : zv_H} {b e : Int} {l : List zv_H} (hW : WI Wm) (h : actP σ σ1 b Wm S l) (h2 : stM (zup σ1 289 62 e) σ2 b 0 Wm S2) : actP σ σ2 b Wm S2 l := by
  have fr : ∀ x k, ¬ inV 0 x k → x ≠ 327 → x ≠ 328 → ¬ (x = 289 ∧ k = 62) → σ2 x k = σ1 x k := fun x k a c d q => by rw [h2.2.2.2 x k a c d, zup_n q]
  refine ⟨stM_self h2, acM_v (v := 0) h.2.1 hW.1.2 hW.2.2.1.2 (by omega) (fun x k q1 q2 q3 => fr x k q3 (by omega) (by omega) (by omega)) (fr 289 57 (by unfold inV; omega) (by omega) (by omega) (by omega)) (fr 289 58 (by unfold inV; omega) (by omega) (by omega) (by omega)), fun x k a c => ?_⟩
  rw [fr x k (by unfold inV; omega) (by omega) (by omega) (by omega)]
  exact h.2.2 x k a c
theorem actP_s0 {σ σ1 σ2 Wm S S2 : zv_H} {b : Int} {l : List zv_H} (hW : WI Wm) (h : actP σ σ1 b Wm S l) (h2 : stM σ1 σ2 b 0 Wm S2) : actP σ σ2 b Wm S2 l := actP_st (e := σ1 289 62) hW h (by rw [zup_id rfl]; exact h2)
theorem take_20 {α : Type} {l : List α} {a : α} (h : l.length < 20) : (a :: l).take 20 = a :: l := List.take_of_length_le (by show l.length + 1 ≤ 20; omega)
theorem take_19 {α : Type} {l : List α} {a : α} : (a :: l).take 20 = a :: l.take 19 := rfl
set_option maxHeartbeats 4000000 in
set_option maxRecDepth 20000 in
theorem c_M_refuses {Γ : zv_M} {L : Int} {σ : zv_H} {k : Int} (hk : 0 ≤ k ∧ k < 6) : zC Γ m_M_refuses 0 0 0 (GM L) [zR 289, zI k] σ (zFn (some (zI (-1))) (GM L) (rfM σ k)) := by
  refine zC_of (ls0 := [_, _]) zm_M_refuses (by decide) rfl (Nat.le_of_ble_eq_true rfl) ?_
  generalize hQ : (zFn (some (zI (-1))) (GM L) (rfM σ k)) = Q
  refine zaload_n (k := 0) rfl rfl ?_
  refine zgF 44 (k := 1) rfl ob_289 fl_12_147 rfl fx_289_44 ?_
  refine ziload_n (k := 2) rfl rfl ?_
  refine zdup2 (k := 3) rfl rfl rfl ?_
  refine ziaload (k := 4) rfl ar_314 ⟨by omega, by omega⟩ ?_
  refine ziconst (k := 5) rfl (by decide) ?_
  refine ziadd (k := 6) rfl ?_
  refine ziastore (k := 7) rfl ar_314 ⟨by omega, by omega⟩ (by omega) ?_
  refine ziconst (k := 8) rfl (by decide) ?_
  refine zireturn (k := 9) rfl rfl rfl ?_
  rw [← hQ]
  exact ⟨rfl, rfl, rfl⟩
set_option maxHeartbeats 4000000 in
set_option maxRecDepth 20000 in
theorem c_M_status {Γ : zv_M} {L : Int} {σ : zv_H} {k : Int} : zC Γ m_M_status 1 0 0 (GM L) [zR 289, zI k] σ (zFn (some (zI (if 0 ≤ k ∧ k < 6 then σ 314 k else -1))) (GM L) σ) := by
  refine zC_of (ls0 := [_, _]) zm_M_status (by decide) rfl (Nat.le_of_ble_eq_true rfl) ?_
  generalize hQ : (zFn (some (zI (if 0 ≤ k ∧ k < 6 then σ 314 k else -1))) (GM L) σ) = Q
  refine ziload_n (k := 0) rfl rfl ?_
  refine ziconst (k := 1) rfl (by decide) ?_
  refine ziconst (k := 2) rfl (by decide) ?_
  refine zfS1 (k := 3) rfl c_M_is fm_M_is lk_12_315 rfl rfl (Nat.le_of_ble_eq_true rfl) (by decide) ⟨by decide, by decide⟩ ?_
  refine zif_eq (k := 4) rfl rfl (fun c1 => ?_) (fun c1 => ?_)
  · skip
    refine ziconst (k := 10) rfl (by decide) ?_
    refine zireturn (k := 11) rfl rfl rfl ?_
    rw [← hQ]
    refine ⟨?_, rfl, rfl⟩
    first
    | (rw [if_pos (by omega)]; done)
    | (rw [if_neg (by omega)]; done)
  · skip
    have hkk : 0 ≤ k ∧ k ≤ 5 := by split at c1 <;> first | assumption | (exfalso; omega)
    refine zaload_n (k := 5) rfl rfl ?_
    refine zgF 44 (k := 6) rfl ob_289 fl_12_147 rfl fx_289_44 ?_
    refine ziload_n (k := 7) rfl rfl ?_
    refine ziaload (k := 8) rfl ar_314 ⟨by omega, by omega⟩ ?_
    refine zgoto (k := 9) rfl rfl ?_
    refine zireturn (k := 11) rfl rfl rfl ?_
    rw [← hQ]
    refine ⟨?_, rfl, rfl⟩
    first
    | (rw [if_pos (by omega)]; done)
    | (rw [if_neg (by omega)]; done)
set_option maxHeartbeats 4000000 in
set_option maxRecDepth 20000 in
theorem c_M_fault {Γ : zv_M} {L : Int} {σ : zv_H} {t : Int} : zC Γ m_M_fault 0 0 0 (GM L) [zR 289, zI t] σ (zFn (some (zI (if t = 0 then σ 289 10 else if t = 1 then σ 289 11 else -1))) (GM L) σ) := by
  refine zC_of (ls0 := [_, _]) zm_M_fault (by decide) rfl (Nat.le_of_ble_eq_true rfl) ?_
  generalize hQ : (zFn (some (zI (if t = 0 then σ 289 10 else if t = 1 then σ 289 11 else -1))) (GM L) σ) = Q
  refine ziload_n (k := 0) rfl rfl ?_
  refine zif_ne (k := 1) rfl rfl (fun c1 => ?_) (fun c1 => ?_)
  · skip
    refine ziload_n (k := 5) rfl rfl ?_
    refine ziconst (k := 6) rfl (by decide) ?_
    refine zicmp_ne (k := 7) rfl rfl (fun c2 => ?_) (fun c2 => ?_)
    · skip
      refine ziconst (k := 11) rfl (by decide) ?_
      refine zireturn (k := 12) rfl rfl rfl ?_
      rw [← hQ]
      first | exact ⟨by rw [if_pos (by omega)], rfl, rfl⟩ | exact ⟨by rw [if_neg (by omega), if_pos (by omega)], rfl, rfl⟩ | exact ⟨by rw [if_neg (by omega), if_neg (by omega)], rfl, rfl⟩
    · skip
      refine zaload_n (k := 8) rfl rfl ?_
      refine zgI 11 (k := 9) rfl ob_289 fl_12_45 rfl fx_289_11 ?_
      refine zgoto (k := 10) rfl rfl ?_
      refine zireturn (k := 12) rfl rfl rfl ?_
      rw [← hQ]
      first | exact ⟨by rw [if_pos (by omega)], rfl, rfl⟩ | exact ⟨by rw [if_neg (by omega), if_pos (by omega)], rfl, rfl⟩ | exact ⟨by rw [if_neg (by omega), if_neg (by omega)], rfl, rfl⟩
  · skip
    refine zaload_n (k := 2) rfl rfl ?_
    refine zgI 10 (k := 3) rfl ob_289 fl_12_42 rfl fx_289_10 ?_
    refine zgoto (k := 4) rfl rfl ?_
    refine zireturn (k := 12) rfl rfl rfl ?_
    rw [← hQ]
    first | exact ⟨by rw [if_pos (by omega)], rfl, rfl⟩ | exact ⟨by rw [if_neg (by omega), if_pos (by omega)], rfl, rfl⟩ | exact ⟨by rw [if_neg (by omega), if_neg (by omega)], rfl, rfl⟩
set_option maxHeartbeats 4000000 in
set_option maxRecDepth 20000 in
theorem c_M_octet {Γ : zv_M} {L : Int} {σ : zv_H} {k : Int} (h : 0 ≤ σ 289 71 ∧ σ 289 71 ≤ 120) : zC Γ m_M_octet 1 0 0 (GM L) [zR 289, zI k] σ (zFn (some (zI (if 0 ≤ k ∧ k < σ 289 71 then σ 334 k else -1))) (GM L) σ) := by
  refine zC_of (ls0 := [_, _]) zm_M_octet (by decide) rfl (Nat.le_of_ble_eq_true rfl) ?_
  generalize hQ : (zFn (some (zI (if 0 ≤ k ∧ k < σ 289 71 then σ 334 k else -1))) (GM L) σ) = Q
  refine ziload_n (k := 0) rfl rfl ?_
  refine ziconst (k := 1) rfl (by decide) ?_
  refine zaload_n (k := 2) rfl rfl ?_
  refine zgI 71 (k := 3) rfl ob_289 fl_12_228 rfl fx_289_71 ?_
  refine ziconst (k := 4) rfl (by decide) ?_
  refine zisubB (k := 5) rfl (by omega) ?_
  refine zfS1 (k := 6) rfl c_M_is fm_M_is lk_12_315 rfl rfl (Nat.le_of_ble_eq_true rfl) (by decide) ⟨by decide, by decide⟩ ?_
  refine zif_eq (k := 7) rfl rfl (fun c1 => ?_) (fun c1 => ?_)
  · skip
    refine ziconst (k := 13) rfl (by decide) ?_
    refine zireturn (k := 14) rfl rfl rfl ?_
    rw [← hQ]
    refine ⟨?_, rfl, rfl⟩
    first
    | (rw [if_pos (by omega)]; done)
    | (rw [if_neg (by omega)]; done)
  · skip
    have hkk : 0 ≤ k ∧ k ≤ σ 289 71 - 1 := by split at c1 <;> first | assumption | (exfalso; omega)
    refine zaload_n (k := 8) rfl rfl ?_
    refine zgF 70 (k := 9) rfl ob_289 fl_12_225 rfl fx_289_70 ?_
    refine ziload_n (k := 10) rfl rfl ?_
    refine ziaload (k := 11) rfl ar_334 ⟨by omega, by omega⟩ ?_
    refine zgoto (k := 12) rfl rfl ?_
    refine zireturn (k := 14) rfl rfl rfl ?_
    rw [← hQ]
    refine ⟨?_, rfl, rfl⟩
    first
    | (rw [if_pos (by omega)]; done)
    | (rw [if_neg (by omega)]; done)
set_option maxHeartbeats 4000000 in
set_option maxRecDepth 20000 in
theorem c_M_seed {Γ : zv_M} {L : Int} {σ : zv_H} {v : Int} : zC Γ m_M_seed 1 0 0 (GM L) [zR 289, zI v] σ (zFn (some (zI (if v < 0 then 0 else 1))) (GM L) (if v < 0 then rfM σ 5 else zup σ 289 59 v)) := by
  refine zC_of (ls0 := [_, _]) zm_M_seed (by decide) rfl (Nat.le_of_ble_eq_true rfl) ?_
  generalize hQ : (zFn (some (zI (if v < 0 then 0 else 1))) (GM L) (if v < 0 then rfM σ 5 else zup σ 289 59 v)) = Q
  refine ziload_n (k := 0) rfl rfl ?_
  refine zif_ge (k := 1) rfl rfl (fun c1 => ?_) (fun c1 => ?_)
  · skip
    refine zaload_n (k := 10) rfl rfl ?_
    refine ziload_n (k := 11) rfl rfl ?_
    refine zi2l (k := 12) rfl ?_
    refine zpL 59 (k := 13) rfl ob_289 fl_12_192 ⟨_, rfl, rfl⟩ rfl (by omega) rfl fx_289_59 ?_
    refine ziconst (k := 14) rfl (by decide) ?_
    refine zzreturn (k := 15) rfl rfl (by first | exact Or.inl rfl | exact Or.inr rfl | omega) rfl ?_
    rw [← hQ]
    first | (exfalso; omega) | exact ⟨by rw [if_pos (by omega)], rfl, by rw [if_pos (by omega)]⟩ | exact ⟨by rw [if_neg (by omega)], rfl, by rw [if_neg (by omega)]⟩
  · skip
    refine zaload_n (k := 2) rfl rfl ?_
    refine ziconst (k := 3) rfl (by decide) ?_
    refine zfV1 (k := 4) rfl (c_M_refuses (by omega)) fm_M_refuses lk_12_231 rfl rfl ob_289 ⟨_, rfl, rfl⟩ (Nat.le_of_ble_eq_true rfl) (by decide) ⟨by decide, by decide⟩ ?_
    refine zif_lt (k := 5) rfl rfl (fun c2 => ?_) (fun c2 => ?_)
    · skip
      refine ziconst (k := 8) rfl (by decide) ?_
      refine zzreturn (k := 9) rfl rfl (by first | exact Or.inl rfl | exact Or.inr rfl | omega) rfl ?_
      rw [← hQ]
      first | (exfalso; omega) | exact ⟨by rw [if_pos (by omega)], rfl, by rw [if_pos (by omega)]⟩ | exact ⟨by rw [if_neg (by omega)], rfl, by rw [if_neg (by omega)]⟩
    · skip
      refine ziconst (k := 6) rfl (by decide) ?_
      refine zgoto (k := 7) rfl rfl ?_
      refine zzreturn (k := 9) rfl rfl (by first | exact Or.inl rfl | exact Or.inr rfl | omega) rfl ?_
      rw [← hQ]
      first | (exfalso; omega) | exact ⟨by rw [if_pos (by omega)], rfl, by rw [if_pos (by omega)]⟩ | exact ⟨by rw [if_neg (by omega)], rfl, by rw [if_neg (by omega)]⟩
set_option maxHeartbeats 4000000 in
set_option maxRecDepth 20000 in
theorem c_M_slot {Γ : zv_M} {L : Int} {σ : zv_H} {k : Int} (h : 0 ≤ σ 289 57 ∧ σ 289 57 < 20) (hk : 0 ≤ k ∧ k ≤ 20) : zC Γ m_M_slot 0 0 0 (GM L) [zR 289, zI k] σ (zFn (some (zI (2 + (σ 289 57 + k) % 20))) (GM L) σ) := by
  refine zC_of (ls0 := [_, _]) zm_M_slot (by decide) rfl (Nat.le_of_ble_eq_true rfl) ?_
  generalize hQ : (zFn (some (zI (2 + (σ 289 57 + k) % 20))) (GM L) σ) = Q
  refine ziconst (k := 0) rfl (by decide) ?_
  refine zaload_n (k := 1) rfl rfl ?_
  refine zgI 57 (k := 2) rfl ob_289 fl_12_186 rfl fx_289_57 ?_
  refine ziload_n (k := 3) rfl rfl ?_
  refine ziaddB (k := 4) rfl (by omega) ?_
  refine zbipush (k := 5) rfl rfl ?_
  refine ziremP (k := 6) rfl (by omega) ?_
  refine ziaddB (k := 7) rfl (by omega) ?_
  refine zireturn (k := 8) rfl rfl rfl ?_
  rw [← hQ]
  exact ⟨rfl, rfl, rfl⟩
