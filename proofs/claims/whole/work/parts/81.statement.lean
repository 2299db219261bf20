set_option maxHeartbeats 4000000 in
set_option maxRecDepth 20000 in
theorem c_Reader_isOneTooMany {Γ : zv_M} {L : Int} {σ0 σ : zv_H} {T : Int → Int} {n w p : Int} {A : zv_H} {J K : List (Int × Int)} (hw : w ∈ wrL) (h0 : stJ σ0 σ T n w A J K p) (hp : 0 ≤ p ∧ p ≤ n) (hA : AI T A) {u : Int} : zC Γ m_Reader_isOneTooMany 1 0 0 (GM L) [zR 52, zI u] σ (zFn (some (zI (if flS u A J K then 1 else 0))) (GM L) σ) := by
  refine zC_of (ls0 := [_, _]) zm_Reader_isOneTooMany (by decide) rfl (Nat.le_of_ble_eq_true rfl) ?_
  generalize hQ : (zFn (some (zI (if flS u A J K then 1 else 0))) (GM L) σ) = Q
  refine ziload_n (k := 0) rfl rfl ?_
  refine ztabC (k := 1) (v := 0) 0 rfl rfl (by decide) rfl rfl (fun c1 => ?_) (fun c1 => ?_)
  · skip
    refine zaload_n (k := 2) rfl rfl ?_
    refine zgR 1 (k := 3) rfl ob_52 fl_4_20 rfl fx_52_1 ?_
    rw [h0.1.2.2.2.2.2]
    refine zgI 1 (k := 4) rfl (wr_ob hw) fl_4_113 rfl (wr_fx_1 hw) ?_
    rw [h0.2.2.1.1 1 (by omega) (by omega)]
    refine zbipush (k := 5) rfl rfl ?_
    refine zicmp_lt (k := 6) rfl rfl (fun c2 => ?_) (fun c2 => ?_)
    · skip
      refine ziconst (k := 9) rfl (by decide) ?_
      refine zzreturn (k := 10) rfl rfl (by first | exact Or.inl rfl | exact Or.inr rfl | omega) rfl ?_
      rw [← hQ]
      refine ⟨?_, rfl, rfl⟩
      first | (rw [if_pos (by omega)]; done) | (rw [if_neg (by omega)]; done) | (by_cases hj : 0 < (J.length : Int); rw [if_pos hj, if_pos (by omega)]; rw [if_neg hj, if_neg (by omega)]) | (by_cases hj : 0 < (K.length : Int); rw [if_pos hj, if_pos (by omega)]; rw [if_neg hj, if_neg (by omega)])
    · skip
      refine ziconst (k := 7) rfl (by decide) ?_
      refine zgoto (k := 8) rfl rfl ?_
      refine zzreturn (k := 10) rfl rfl (by first | exact Or.inl rfl | exact Or.inr rfl | omega) rfl ?_
      rw [← hQ]
      refine ⟨?_, rfl, rfl⟩
      first | (rw [if_pos (by omega)]; done) | (rw [if_neg (by omega)]; done) | (by_cases hj : 0 < (J.length : Int); rw [if_pos hj, if_pos (by omega)]; rw [if_neg hj, if_neg (by omega)]) | (by_cases hj : 0 < (K.length : Int); rw [if_pos hj, if_pos (by omega)]; rw [if_neg hj, if_neg (by omega)])
  refine ztabC (k := 1) (v := 1) 1 rfl rfl (by decide) rfl rfl (fun c3 => ?_) (fun c3 => ?_)
  · skip
    refine ziconst (k := 39) rfl (by decide) ?_
    refine zzreturn (k := 40) rfl rfl (by first | exact Or.inl rfl | exact Or.inr rfl | omega) rfl ?_
    rw [← hQ]
    refine ⟨?_, rfl, rfl⟩
    first | (rw [if_pos (by omega)]; done) | (rw [if_neg (by omega)]; done) | (by_cases hj : 0 < (J.length : Int); rw [if_pos hj, if_pos (by omega)]; rw [if_neg hj, if_neg (by omega)]) | (by_cases hj : 0 < (K.length : Int); rw [if_pos hj, if_pos (by omega)]; rw [if_neg hj, if_neg (by omega)])
  refine ztabC (k := 1) (v := 2) 2 rfl rfl (by decide) rfl rfl (fun c4 => ?_) (fun c4 => ?_)
  · skip
    refine ziconst (k := 39) rfl (by decide) ?_
    refine zzreturn (k := 40) rfl rfl (by first | exact Or.inl rfl | exact Or.inr rfl | omega) rfl ?_
    rw [← hQ]
    refine ⟨?_, rfl, rfl⟩
    first | (rw [if_pos (by omega)]; done) | (rw [if_neg (by omega)]; done) | (by_cases hj : 0 < (J.length : Int); rw [if_pos hj, if_pos (by omega)]; rw [if_neg hj, if_neg (by omega)]) | (by_cases hj : 0 < (K.length : Int); rw [if_pos hj, if_pos (by omega)]; rw [if_neg hj, if_neg (by omega)])
  refine ztabC (k := 1) (v := 3) 3 rfl rfl (by decide) rfl rfl (fun c5 => ?_) (fun c5 => ?_)
  · skip
    refine ziconst (k := 39) rfl (by decide) ?_
    refine zzreturn (k := 40) rfl rfl (by first | exact Or.inl rfl | exact Or.inr rfl | omega) rfl ?_
    rw [← hQ]
    refine ⟨?_, rfl, rfl⟩
    first | (rw [if_pos (by omega)]; done) | (rw [if_neg (by omega)]; done) | (by_cases hj : 0 < (J.length : Int); rw [if_pos hj, if_pos (by omega)]; rw [if_neg hj, if_neg (by omega)]) | (by_cases hj : 0 < (K.length : Int); rw [if_pos hj, if_pos (by omega)]; rw [if_neg hj, if_neg (by omega)])
  refine ztabC (k := 1) (v := 4) 4 rfl rfl (by decide) rfl rfl (fun c6 => ?_) (fun c6 => ?_)
  · skip
    refine zaload_n (k := 11) rfl rfl ?_
    refine zgR 1 (k := 12) rfl ob_52 fl_4_20 rfl fx_52_1 ?_
    rw [h0.1.2.2.2.2.2]
    refine zgI 2 (k := 13) rfl (wr_ob hw) fl_4_116 rfl (wr_fx_2 hw) ?_
    rw [h0.2.2.1.1 2 (by omega) (by omega)]
    refine zbipush (k := 14) rfl rfl ?_
    refine zicmp_lt (k := 15) rfl rfl (fun c7 => ?_) (fun c7 => ?_)
    · skip
      refine ziconst (k := 18) rfl (by decide) ?_
      refine zzreturn (k := 19) rfl rfl (by first | exact Or.inl rfl | exact Or.inr rfl | omega) rfl ?_
      rw [← hQ]
      refine ⟨?_, rfl, rfl⟩
      first | (rw [if_pos (by omega)]; done) | (rw [if_neg (by omega)]; done) | (by_cases hj : 0 < (J.length : Int); rw [if_pos hj, if_pos (by omega)]; rw [if_neg hj, if_neg (by omega)]) | (by_cases hj : 0 < (K.length : Int); rw [if_pos hj, if_pos (by omega)]; rw [if_neg hj, if_neg (by omega)])
    · skip
      refine ziconst (k := 16) rfl (by decide) ?_
      refine zgoto (k := 17) rfl rfl ?_
      refine zzreturn (k := 19) rfl rfl (by first | exact Or.inl rfl | exact Or.inr rfl | omega) rfl ?_
      rw [← hQ]
      refine ⟨?_, rfl, rfl⟩
      first | (rw [if_pos (by omega)]; done) | (rw [if_neg (by omega)]; done) | (by_cases hj : 0 < (J.length : Int); rw [if_pos hj, if_pos (by omega)]; rw [if_neg hj, if_neg (by omega)]) | (by_cases hj : 0 < (K.length : Int); rw [if_pos hj, if_pos (by omega)]; rw [if_neg hj, if_neg (by omega)])
  refine ztabC (k := 1) (v := 5) 5 rfl rfl (by decide) rfl rfl (fun c8 => ?_) (fun c8 => ?_)
  · skip
    refine ziconst (k := 39) rfl (by decide) ?_
    refine zzreturn (k := 40) rfl rfl (by first | exact Or.inl rfl | exact Or.inr rfl | omega) rfl ?_
    rw [← hQ]
    refine ⟨?_, rfl, rfl⟩
    first | (rw [if_pos (by omega)]; done) | (rw [if_neg (by omega)]; done) | (by_cases hj : 0 < (J.length : Int); rw [if_pos hj, if_pos (by omega)]; rw [if_neg hj, if_neg (by omega)]) | (by_cases hj : 0 < (K.length : Int); rw [if_pos hj, if_pos (by omega)]; rw [if_neg hj, if_neg (by omega)])
  refine ztabC (k := 1) (v := 6) 6 rfl rfl (by decide) rfl rfl (fun c9 => ?_) (fun c9 => ?_)
  · skip
    refine ziconst (k := 39) rfl (by decide) ?_
    refine zzreturn (k := 40) rfl rfl (by first | exact Or.inl rfl | exact Or.inr rfl | omega) rfl ?_
    rw [← hQ]
    refine ⟨?_, rfl, rfl⟩
    first | (rw [if_pos (by omega)]; done) | (rw [if_neg (by omega)]; done) | (by_cases hj : 0 < (J.length : Int); rw [if_pos hj, if_pos (by omega)]; rw [if_neg hj, if_neg (by omega)]) | (by_cases hj : 0 < (K.length : Int); rw [if_pos hj, if_pos (by omega)]; rw [if_neg hj, if_neg (by omega)])
  refine ztabC (k := 1) (v := 7) 7 rfl rfl (by decide) rfl rfl (fun c10 => ?_) (fun c10 => ?_)
  · skip
    refine zaload_n (k := 20) rfl rfl ?_
    refine zgR 1 (k := 21) rfl ob_52 fl_4_20 rfl fx_52_1 ?_
    rw [h0.1.2.2.2.2.2]
    refine zgI 3 (k := 22) rfl (wr_ob hw) fl_4_119 rfl (wr_fx_3 hw) ?_
    rw [h0.2.2.1.1 3 (by omega) (by omega)]
    refine zbipush (k := 23) rfl rfl ?_
    refine zicmp_lt (k := 24) rfl rfl (fun c11 => ?_) (fun c11 => ?_)
    · skip
      refine ziconst (k := 27) rfl (by decide) ?_
      refine zzreturn (k := 28) rfl rfl (by first | exact Or.inl rfl | exact Or.inr rfl | omega) rfl ?_
      rw [← hQ]
      refine ⟨?_, rfl, rfl⟩
      first | (rw [if_pos (by omega)]; done) | (rw [if_neg (by omega)]; done) | (by_cases hj : 0 < (J.length : Int); rw [if_pos hj, if_pos (by omega)]; rw [if_neg hj, if_neg (by omega)]) | (by_cases hj : 0 < (K.length : Int); rw [if_pos hj, if_pos (by omega)]; rw [if_neg hj, if_neg (by omega)])
    · skip
      refine ziconst (k := 25) rfl (by decide) ?_
      refine zgoto (k := 26) rfl rfl ?_
      refine zzreturn (k := 28) rfl rfl (by first | exact Or.inl rfl | exact Or.inr rfl | omega) rfl ?_
      rw [← hQ]
      refine ⟨?_, rfl, rfl⟩
      first | (rw [if_pos (by omega)]; done) | (rw [if_neg (by omega)]; done) | (by_cases hj : 0 < (J.length : Int); rw [if_pos hj, if_pos (by omega)]; rw [if_neg hj, if_neg (by omega)]) | (by_cases hj : 0 < (K.length : Int); rw [if_pos hj, if_pos (by omega)]; rw [if_neg hj, if_neg (by omega)])
  refine ztabC (k := 1) (v := 8) 8 rfl rfl (by decide) rfl rfl (fun c12 => ?_) (fun c12 => ?_)
  · skip
    refine ziconst (k := 39) rfl (by decide) ?_
    refine zzreturn (k := 40) rfl rfl (by first | exact Or.inl rfl | exact Or.inr rfl | omega) rfl ?_
    rw [← hQ]
    refine ⟨?_, rfl, rfl⟩
    first | (rw [if_pos (by omega)]; done) | (rw [if_neg (by omega)]; done) | (by_cases hj : 0 < (J.length : Int); rw [if_pos hj, if_pos (by omega)]; rw [if_neg hj, if_neg (by omega)]) | (by_cases hj : 0 < (K.length : Int); rw [if_pos hj, if_pos (by omega)]; rw [if_neg hj, if_neg (by omega)])
  refine ztabC (k := 1) (v := 9) 9 rfl rfl (by decide) rfl rfl (fun c13 => ?_) (fun c13 => ?_)
  · skip
    refine ziconst (k := 39) rfl (by decide) ?_
    refine zzreturn (k := 40) rfl rfl (by first | exact Or.inl rfl | exact Or.inr rfl | omega) rfl ?_
    rw [← hQ]
    refine ⟨?_, rfl, rfl⟩
    first | (rw [if_pos (by omega)]; done) | (rw [if_neg (by omega)]; done) | (by_cases hj : 0 < (J.length : Int); rw [if_pos hj, if_pos (by omega)]; rw [if_neg hj, if_neg (by omega)]) | (by_cases hj : 0 < (K.length : Int); rw [if_pos hj, if_pos (by omega)]; rw [if_neg hj, if_neg (by omega)])
  refine ztabC (k := 1) (v := 10) 10 rfl rfl (by decide) rfl rfl (fun c14 => ?_) (fun c14 => ?_)
  · skip
    refine zaload_n (k := 29) rfl rfl ?_
    refine zgR 1 (k := 30) rfl ob_52 fl_4_20 rfl fx_52_1 ?_
    rw [h0.1.2.2.2.2.2]
    refine zgF 12 (k := 31) rfl (wr_ob hw) fl_4_24 rfl (wr_fx_12 hw) ?_
    refine zfV1 (k := 32) rfl (c_Formula_isTold (wr_fm8 hw)) fm_Formula_isTold lk_4_122 rfl rfl (wr_ob_8 hw) ⟨_, rfl, rfl⟩ (Nat.le_of_ble_eq_true rfl) (by decide) ⟨by decide, by decide⟩ ?_
    rw [h0.2.2.2.1.1]
    refine zzreturn (k := 33) rfl rfl (by split <;> first | exact Or.inl rfl | exact Or.inr rfl) rfl ?_
    rw [← hQ]
    refine ⟨?_, rfl, rfl⟩
    first | (rw [if_pos (by omega)]; done) | (rw [if_neg (by omega)]; done) | (by_cases hj : 0 < (J.length : Int); rw [if_pos hj, if_pos (by omega)]; rw [if_neg hj, if_neg (by omega)]) | (by_cases hj : 0 < (K.length : Int); rw [if_pos hj, if_pos (by omega)]; rw [if_neg hj, if_neg (by omega)])
  refine ztabC (k := 1) (v := 11) 11 rfl rfl (by decide) rfl rfl (fun c15 => ?_) (fun c15 => ?_)
  · skip
    refine zaload_n (k := 34) rfl rfl ?_
    refine zgR 1 (k := 35) rfl ob_52 fl_4_20 rfl fx_52_1 ?_
    rw [h0.1.2.2.2.2.2]
    refine zgF 13 (k := 36) rfl (wr_ob hw) fl_4_92 rfl (wr_fx_13 hw) ?_
    refine zfV1 (k := 37) rfl (c_Formula_isTold (wr_fm10 hw)) fm_Formula_isTold lk_4_122 rfl rfl (wr_ob_10 hw) ⟨_, rfl, rfl⟩ (Nat.le_of_ble_eq_true rfl) (by decide) ⟨by decide, by decide⟩ ?_
    rw [h0.2.2.2.2.1.1]
    refine zzreturn (k := 38) rfl rfl (by split <;> first | exact Or.inl rfl | exact Or.inr rfl) rfl ?_
    rw [← hQ]
    refine ⟨?_, rfl, rfl⟩
    first | (rw [if_pos (by omega)]; done) | (rw [if_neg (by omega)]; done) | (by_cases hj : 0 < (J.length : Int); rw [if_pos hj, if_pos (by omega)]; rw [if_neg hj, if_neg (by omega)]) | (by_cases hj : 0 < (K.length : Int); rw [if_pos hj, if_pos (by omega)]; rw [if_neg hj, if_neg (by omega)])
  refine ztabOut (k := 1) rfl (by omega) rfl ?_
  refine ziconst (k := 39) rfl (by decide) ?_
  refine zzreturn (k := 40) rfl rfl (by first | exact Or.inl rfl | exact Or.inr rfl | omega) rfl ?_
  rw [← hQ]
  refine ⟨?_, rfl, rfl⟩
  first | (rw [if_pos (by omega)]; done) | (rw [if_neg (by omega)]; done) | (by_cases hj : 0 < (J.length : Int); rw [if_pos hj, if_pos (by omega)]; rw [if_neg hj, if_neg (by omega)]) | (by_cases hj : 0 < (K.length : Int); rw [if_pos hj, if_pos (by omega)]; rw [if_neg hj, if_neg (by omega)])
theorem bnd_e {α β : Type} {x : zX α} {f : α → zX β} {b : β} (h : bnd x f = Sum.inl b) : ∃ a, x = Sum.inl a ∧ f a = Sum.inl b := by
  cases x with
  | inl a => exact ⟨a, rfl, h⟩
  | inr e => cases h
theorem ctyF_0 {T : Int → Int} {A : zv_H} {p : Int} {X : Int × zv_H} (h : ctyF T A p = Sum.inl X) : X.2 0 0 = A 0 0 := by
  unfold ctyF at h
  obtain ⟨a1, _, h⟩ := bnd_e h
  obtain ⟨a2, _, h⟩ := bnd_e h
  obtain ⟨a3, _, h⟩ := bnd_e h
  obtain ⟨a4, _, h⟩ := bnd_e h
  obtain ⟨a5, _, h⟩ := bnd_e h
  obtain ⟨a6, _, h⟩ := bnd_e h
  obtain ⟨a7, _, h⟩ := bnd_e h
  cases h
  dsimp only
  rw [zup_n (by omega), zup_n (by omega), zup_n (by omega), zup_n (by omega), zup_n (by omega)]
theorem ralF_0 {T : Int → Int} {A : zv_H} {p : Int} {X : Int × zv_H} (h : ralF T A p = Sum.inl X) : X.2 0 0 = A 0 0 := by
  unfold ralF at h
  obtain ⟨a1, _, h⟩ := bnd_e h
  obtain ⟨a2, _, h⟩ := bnd_e h
  obtain ⟨a3, _, h⟩ := bnd_e h
  obtain ⟨a4, _, h⟩ := bnd_e h
  obtain ⟨a5, _, h⟩ := bnd_e h
  cases h
  dsimp only
  rw [zup_n (by omega), zup_n (by omega), zup_n (by omega)]
theorem mnnF_0 {T : Int → Int} {A : zv_H} {p : Int} {X : Int × zv_H} (h : mnnF T A p = Sum.inl X) : X.2 0 0 = A 0 0 := by
  unfold mnnF at h
  obtain ⟨a1, _, h⟩ := bnd_e h
  obtain ⟨a2, _, h⟩ := bnd_e h
  obtain ⟨a3, _, h⟩ := bnd_e h
  obtain ⟨a4, _, h⟩ := bnd_e h
  obtain ⟨a5, _, h⟩ := bnd_e h
  cases h
  dsimp only
  rw [zup_n (by omega), zup_n (by omega), zup_n (by omega), zup_n (by omega)]
theorem pstF_0 {T : Int → Int} {A : zv_H} {p : Int} {X : Int × zv_H} (h : pstF T A p = Sum.inl X) : X.2 0 0 = A 0 0 := by
  unfold pstF at h
  obtain ⟨a1, _, h⟩ := bnd_e h
  cases h
  dsimp only
  rw [zup_n (by omega)]
theorem wfj_t {σ0 σ σ' : zv_H} {w : Int} (h : wfj σ0 σ w) (h2 : wfr σ σ' w) : wfj σ0 σ' w := fun x k a b c => by rw [h2 x k (by omega) (by omega) b c]; exact h x k a b c
set_option maxHeartbeats 4000000 in
set_option maxRecDepth 20000 in
theorem c_Reader_readStatement {Γ : zv_M} {L : Int} {σ0 σ : zv_H} {T : Int → Int} {n w p : Int} {A : zv_H} {J K : List (Int × Int)} (hw : w ∈ wrL) (h0 : stJ σ0 σ T n w A J K p) (hp : 0 ≤ p ∧ p ≤ n) (hA : AI T A)  : zC Γ m_Reader_readStatement 120 0 0 (GM L) [zR 52] σ (zPI (GM L) (fun z σ' => (z = 1 ∧ A 0 0 < 80 ∧ ∃ (p' : Int) (A' : zv_H) (J' K' : List (Int × Int)), stR T n p A J K (Sum.inl (p', A', J', K')) ∧ stJ σ0 σ' T n w A' J' K' p' ∧ AI T A' ∧ (p < p' ∧ p' ≤ n) ∧ A' 0 0 = A 0 0) ∨ (z = 0 ∧ ∃ k pl, ((80 ≤ A 0 0 ∧ k = 6 ∧ pl = tQ T p) ∨ (A 0 0 < 80 ∧ stR T n p A J K (Sum.inr (k, pl)))) ∧ flt σ' k pl ∧ wfj σ0 σ' w))) := by
  refine zC_of (ls0 := [_, _]) zm_Reader_readStatement (by decide) rfl (Nat.le_of_ble_eq_true rfl) ?_
  generalize hQ : (zPI (GM L) (fun z σ' => (z = 1 ∧ A 0 0 < 80 ∧ ∃ (p' : Int) (A' : zv_H) (J' K' : List (Int × Int)), stR T n p A J K (Sum.inl (p', A', J', K')) ∧ stJ σ0 σ' T n w A' J' K' p' ∧ AI T A' ∧ (p < p' ∧ p' ≤ n) ∧ A' 0 0 = A 0 0) ∨ (z = 0 ∧ ∃ k pl, ((80 ≤ A 0 0 ∧ k = 6 ∧ pl = tQ T p) ∨ (A 0 0 < 80 ∧ stR T n p A J K (Sum.inr (k, pl)))) ∧ flt σ' k pl ∧ wfj σ0 σ' w))) = Q
  have hwf := wr_far hw
  have hn3 := h0.1.2.2.1
  have hn16 := hn3.1
  have a1 := hA.2.1
  have a2 := hA.2.2.1
  have a3 := hA.2.2.2.1
  have cut219 : ∀ (σn : zv_H), (¬ flS (tO T p) A J K) → (A 0 0 < 80) → (p < tN T p ∧ tQ T p < tN T p ∧ tN T p ≤ n) → (stJ σ0 σn T n w A J K (tN T p)) → (tO T p = 12) → zV Γ m_Reader_readStatement 120 0 0 Q (GM L) (0, 0) 219 [some (zR 52), none] [] σn := by
    intro σn hnf ha8 tb g0 hu
    refine zaload_n (k := 80) rfl rfl ?_
    refine zpVI (k := 81) rfl (c_Reader_readPost hw (stJ_N g0) ⟨by omega, by omega⟩ hA) fm_Reader_readPost lk_4_110 rfl rfl ob_52 ⟨_, rfl, rfl⟩ (Nat.le_of_ble_eq_true rfl) (by decide) ⟨by decide, by decide⟩ (fun z5 σ5 h5 => ?_)
    refine zzreturn (k := 82) rfl rfl (by rcases h5 with q | q; exact Or.inr q.1; exact Or.inl q.1) rfl ?_
    rw [← hQ]
    rcases h5 with ⟨hz, X, e1, e2, e3, e4⟩ | ⟨hz, k, pl, e1, e2, e3⟩
    · have hX0 : X.2 0 0 = A 0 0 := pstF_0 e1
      exact ⟨rfl, _, rfl, Or.inl ⟨hz, ha8, X.1, X.2, J, K, Or.inr (Or.inr ⟨hnf, Or.inr (Or.inr (Or.inr (Or.inl ⟨hu, by unfold lftS; rw [e1]; rfl⟩)))⟩), N_stJ g0 e2, e3, ⟨by omega, e4.2⟩, hX0⟩⟩
    · exact ⟨rfl, _, rfl, Or.inr ⟨hz, k, pl, Or.inr ⟨ha8, Or.inr (Or.inr ⟨hnf, Or.inr (Or.inr (Or.inr (Or.inl ⟨hu, by unfold lftS; rw [e1]; rfl⟩)))⟩)⟩, e2, wfj_t g0.2.2.2.2.2 e3⟩⟩
  have cut213 : ∀ (σn : zv_H), (¬ flS (tO T p) A J K) → (A 0 0 < 80) → (p < tN T p ∧ tQ T p < tN T p ∧ tN T p ≤ n) → (stJ σ0 σn T n w A J K (tN T p)) → (tO T p = 11) → (σn 52 2 = w + 10) → (σn 52 3 = 1) → zV Γ m_Reader_readStatement 120 0 0 Q (GM L) (0, 0) 213 [some (zR 52), none] [] σn := by
    intro σn hnf ha8 tb g0 hu f2 f3
    have hK0 : K = [] := List.eq_nil_of_length_eq_zero (by omega)
    refine zaload_n (k := 76) rfl rfl ?_
    refine ziconst (k := 77) rfl (by decide) ?_
    refine zpVI (k := 78) rfl (k_sum0 (lk := true) (cs0 := []) (stJ_RE g0 (Or.inr rfl) f2 f3) ⟨g0.2.1, by rw [g0.2.2.2.2.1.1, hK0], fun i hi => absurd hi (Nat.not_lt_zero _), fun _ _ _ _ _ => rfl⟩ ⟨by omega, by omega⟩ (by show (0 : Int) ≤ _; omega)) fm_Reader_readSum lk_4_107 rfl rfl ob_52 ⟨_, rfl, rfl⟩ (Nat.le_of_ble_eq_true rfl) (by decide) ⟨by decide, by decide⟩ (fun z5 σ5 h5 => ?_)
    refine zzreturn (k := 79) rfl rfl (pst_b h5) rfl ?_
    rw [← hQ]
    rcases h5 with ⟨hz, p', cs, e1, e2, e3, e4⟩ | ⟨hz, k, pl, e1, e2⟩
    · have hs := stJ_F g0 (Or.inr ⟨rfl, rfl⟩) e1
      rw [if_neg (by decide), if_neg (by decide)] at hs
      exact ⟨rfl, _, rfl, Or.inl ⟨hz, ha8, p', A, J, cs, Or.inr (Or.inr ⟨hnf, Or.inr (Or.inr (Or.inr (Or.inr (Or.inr ⟨hu, Or.inl ⟨p', cs, e4, e2, e3, rfl⟩⟩))))⟩), hs, hA, ⟨by omega, e2.2⟩, rfl⟩⟩
    · exact ⟨rfl, _, rfl, Or.inr ⟨hz, k, pl, Or.inr ⟨ha8, Or.inr (Or.inr ⟨hnf, Or.inr (Or.inr (Or.inr (Or.inr (Or.inr ⟨hu, Or.inr ⟨k, pl, e2, rfl⟩⟩))))⟩)⟩, ⟨e1.1, e1.2.1⟩, rfo_wfj (Or.inr rfl) g0.2.2.2.2.2 e1.2.2⟩⟩
  have cut207 : ∀ (σn : zv_H), (¬ flS (tO T p) A J K) → (A 0 0 < 80) → (p < tN T p ∧ tQ T p < tN T p ∧ tN T p ≤ n) → (stJ σ0 σn T n w A J K (tN T p)) → (tO T p = 10) → (σn 52 2 = w + 8) → (σn 52 3 = 0) → zV Γ m_Reader_readStatement 120 0 0 Q (GM L) (0, 0) 207 [some (zR 52), none] [] σn := by
    intro σn hnf ha8 tb g0 hu f2 f3
    have hJ0 : J = [] := List.eq_nil_of_length_eq_zero (by omega)
    refine zaload_n (k := 72) rfl rfl ?_
    refine ziconst (k := 73) rfl (by decide) ?_
    refine zpVI (k := 74) rfl (k_test0 (lk := false) (cs0 := []) (stJ_RE g0 (Or.inl rfl) f2 f3) ⟨g0.2.1, by rw [g0.2.2.2.1.1, hJ0], fun i hi => absurd hi (Nat.not_lt_zero _), fun _ _ _ _ _ => rfl⟩ ⟨by omega, by omega⟩ (by show (0 : Int) ≤ _; omega)) fm_Reader_readTest lk_4_104 rfl rfl ob_52 ⟨_, rfl, rfl⟩ (Nat.le_of_ble_eq_true rfl) (by decide) ⟨by decide, by decide⟩ (fun z5 σ5 h5 => ?_)
    refine zzreturn (k := 75) rfl rfl (pst_b h5) rfl ?_
    rw [← hQ]
    rcases h5 with ⟨hz, p', cs, e1, e2, e3, e4⟩ | ⟨hz, k, pl, e1, e2⟩
    · have hs := stJ_F g0 (Or.inl ⟨rfl, rfl⟩) e1
      rw [if_pos rfl, if_pos rfl] at hs
      exact ⟨rfl, _, rfl, Or.inl ⟨hz, ha8, p', A, cs, K, Or.inr (Or.inr ⟨hnf, Or.inr (Or.inr (Or.inr (Or.inr (Or.inl ⟨hu, Or.inl ⟨p', cs, e4, e2, e3, rfl⟩⟩))))⟩), hs, hA, ⟨by omega, e2.2⟩, rfl⟩⟩
    · exact ⟨rfl, _, rfl, Or.inr ⟨hz, k, pl, Or.inr ⟨ha8, Or.inr (Or.inr ⟨hnf, Or.inr (Or.inr (Or.inr (Or.inr (Or.inl ⟨hu, Or.inr ⟨k, pl, e2, rfl⟩⟩))))⟩)⟩, ⟨e1.1, e1.2.1⟩, rfo_wfj (Or.inl rfl) g0.2.2.2.2.2 e1.2.2⟩⟩
  have cut202 : ∀ (σn : zv_H), (¬ flS (tO T p) A J K) → (A 0 0 < 80) → (p < tN T p ∧ tQ T p < tN T p ∧ tN T p ≤ n) → (stJ σ0 σn T n w A J K (tN T p)) → (tO T p = 7) → zV Γ m_Reader_readStatement 120 0 0 Q (GM L) (0, 0) 202 [some (zR 52), none] [] σn := by
    intro σn hnf ha8 tb g0 hu
    refine zaload_n (k := 69) rfl rfl ?_
    refine zpVI (k := 70) rfl (c_Reader_readMan hw (stJ_N g0) ⟨by omega, by omega⟩ hA (by omega)) fm_Reader_readMan lk_4_101 rfl rfl ob_52 ⟨_, rfl, rfl⟩ (Nat.le_of_ble_eq_true rfl) (by decide) ⟨by decide, by decide⟩ (fun z5 σ5 h5 => ?_)
    refine zzreturn (k := 71) rfl rfl (by rcases h5 with q | q; exact Or.inr q.1; exact Or.inl q.1) rfl ?_
    rw [← hQ]
    rcases h5 with ⟨hz, X, e1, e2, e3, e4⟩ | ⟨hz, k, pl, e1, e2, e3⟩
    · have hX0 : X.2 0 0 = A 0 0 := mnnF_0 e1
      exact ⟨rfl, _, rfl, Or.inl ⟨hz, ha8, X.1, X.2, J, K, Or.inr (Or.inr ⟨hnf, Or.inr (Or.inr (Or.inl ⟨hu, by unfold lftS; rw [e1]; rfl⟩))⟩), N_stJ g0 e2, e3, ⟨by omega, e4.2⟩, hX0⟩⟩
    · exact ⟨rfl, _, rfl, Or.inr ⟨hz, k, pl, Or.inr ⟨ha8, Or.inr (Or.inr ⟨hnf, Or.inr (Or.inr (Or.inl ⟨hu, by unfold lftS; rw [e1]; rfl⟩))⟩)⟩, e2, wfj_t g0.2.2.2.2.2 e3⟩⟩
  have cut197 : ∀ (σn : zv_H), (¬ flS (tO T p) A J K) → (A 0 0 < 80) → (p < tN T p ∧ tQ T p < tN T p ∧ tN T p ≤ n) → (stJ σ0 σn T n w A J K (tN T p)) → (tO T p = 4) → zV Γ m_Reader_readStatement 120 0 0 Q (GM L) (0, 0) 197 [some (zR 52), none] [] σn := by
    intro σn hnf ha8 tb g0 hu
    refine zaload_n (k := 66) rfl rfl ?_
    refine zpVI (k := 67) rfl (c_Reader_readRail hw (stJ_N g0) ⟨by omega, by omega⟩ hA (by omega)) fm_Reader_readRail lk_4_98 rfl rfl ob_52 ⟨_, rfl, rfl⟩ (Nat.le_of_ble_eq_true rfl) (by decide) ⟨by decide, by decide⟩ (fun z5 σ5 h5 => ?_)
    refine zzreturn (k := 68) rfl rfl (by rcases h5 with q | q; exact Or.inr q.1; exact Or.inl q.1) rfl ?_
    rw [← hQ]
    rcases h5 with ⟨hz, X, e1, e2, e3, e4⟩ | ⟨hz, k, pl, e1, e2, e3⟩
    · have hX0 : X.2 0 0 = A 0 0 := ralF_0 e1
      exact ⟨rfl, _, rfl, Or.inl ⟨hz, ha8, X.1, X.2, J, K, Or.inr (Or.inr ⟨hnf, Or.inr (Or.inl ⟨hu, by unfold lftS; rw [e1]; rfl⟩)⟩), N_stJ g0 e2, e3, ⟨by omega, e4.2⟩, hX0⟩⟩
    · exact ⟨rfl, _, rfl, Or.inr ⟨hz, k, pl, Or.inr ⟨ha8, Or.inr (Or.inr ⟨hnf, Or.inr (Or.inl ⟨hu, by unfold lftS; rw [e1]; rfl⟩)⟩)⟩, e2, wfj_t g0.2.2.2.2.2 e3⟩⟩
  have cut192 : ∀ (σn : zv_H), (¬ flS (tO T p) A J K) → (A 0 0 < 80) → (p < tN T p ∧ tQ T p < tN T p ∧ tN T p ≤ n) → (stJ σ0 σn T n w A J K (tN T p)) → (tO T p = 0) → zV Γ m_Reader_readStatement 120 0 0 Q (GM L) (0, 0) 192 [some (zR 52), none] [] σn := by
    intro σn hnf ha8 tb g0 hu
    refine zaload_n (k := 63) rfl rfl ?_
    refine zpVI (k := 64) rfl (c_Reader_readCounty hw (stJ_N g0) ⟨by omega, by omega⟩ hA (by omega)) fm_Reader_readCounty lk_4_95 rfl rfl ob_52 ⟨_, rfl, rfl⟩ (Nat.le_of_ble_eq_true rfl) (by decide) ⟨by decide, by decide⟩ (fun z5 σ5 h5 => ?_)
    refine zzreturn (k := 65) rfl rfl (by rcases h5 with q | q; exact Or.inr q.1; exact Or.inl q.1) rfl ?_
    rw [← hQ]
    rcases h5 with ⟨hz, X, e1, e2, e3, e4⟩ | ⟨hz, k, pl, e1, e2, e3⟩
    · have hX0 : X.2 0 0 = A 0 0 := ctyF_0 e1
      exact ⟨rfl, _, rfl, Or.inl ⟨hz, ha8, X.1, X.2, J, K, Or.inr (Or.inr ⟨hnf, Or.inl ⟨hu, by unfold lftS; rw [e1]; rfl⟩⟩), N_stJ g0 e2, e3, ⟨by omega, e4.2⟩, hX0⟩⟩
    · exact ⟨rfl, _, rfl, Or.inr ⟨hz, k, pl, Or.inr ⟨ha8, Or.inr (Or.inr ⟨hnf, Or.inl ⟨hu, by unfold lftS; rw [e1]; rfl⟩⟩)⟩, e2, wfj_t g0.2.2.2.2.2 e3⟩⟩
  have cut48 : (A 0 0 < 80) → zV Γ m_Reader_readStatement 120 0 0 Q (GM L) (0, 0) 48 [some (zR 52), none] [zI (tO T p)] σ := by
    intro  ha8
    refine zistore_n (k := 22) (ls' := [_, _]) rfl (Nat.le_of_ble_eq_true rfl) rfl ?_
    refine ziload_n (k := 23) rfl rfl ?_
    refine zfS1 (k := 24) rfl c_Reader_beginsStatement fm_Reader_beginsStatement lk_4_76 rfl rfl (Nat.le_of_ble_eq_true rfl) (by decide) ⟨by decide, by decide⟩ ?_
    refine zif_ne (k := 25) rfl rfl (fun c1 => ?_) (fun c1 => ?_)
    · skip
      have hbg : bgS (tO T p) := by omega
      have hk1 : tK T p = 1 := Classical.byContradiction (fun q => by have := tO_n (T := T) (p := p) q; omega)
      have tb := tN_c hn3 hp (Or.inl hk1)
      refine zaload_n (k := 30) rfl rfl ?_
      refine ziload_n (k := 31) rfl rfl ?_
      refine zfV1 (k := 32) rfl (c_Reader_isOneTooMany hw h0 hp hA) fm_Reader_isOneTooMany lk_4_82 rfl rfl ob_52 ⟨_, rfl, rfl⟩ (Nat.le_of_ble_eq_true rfl) (by decide) ⟨by decide, by decide⟩ ?_
      refine zif_eq (k := 33) rfl rfl (fun c2 => ?_) (fun c2 => ?_)
      · skip
        have hnf : ¬ flS (tO T p) A J K := by omega
        refine zaload_n (k := 38) rfl rfl ?_
        refine zgF 0 (k := 39) rfl ob_52 fl_4_14 rfl fx_52_0 ?_
        refine zpV0 (k := 40) rfl (k_adv3 h0.1 h0.2.1 hp (Or.inl hk1)) fm_Scanner_advance lk_4_85 rfl rfl ob_53 ⟨_, rfl, rfl⟩ (Nat.le_of_ble_eq_true rfl) (by decide) ⟨by decide, by decide⟩ (fun σ3 h3 => ?_)
        refine zaload_n (k := 41) rfl rfl ?_
        refine ziload_n (k := 42) rfl rfl ?_
        refine zbipush (k := 43) rfl rfl ?_
        refine zicmp_ne (k := 44) rfl rfl (fun c3 => ?_) (fun c3 => ?_)
        · skip
          refine ziconst (k := 47) rfl (by decide) ?_
          refine zpZ 3 (k := 48) rfl ob_52 fl_4_88 ⟨_, rfl, rfl⟩ rfl (by first | exact Or.inl rfl | exact Or.inr rfl | omega) (by omega) rfl fx_52_3 ?_
          refine zaload_n (k := 49) rfl rfl ?_
          refine zaload_n (k := 50) rfl rfl ?_
          refine zgI 3 (k := 51) rfl ob_52 fl_4_88 rfl fx_52_3 ?_
          rw [zup_s]
          refine zif_eq (k := 52) rfl rfl (fun c4 => ?_) (fun c4 => ?_)
          · skip
            refine zaload_n (k := 57) rfl rfl ?_
            refine zgR 1 (k := 58) rfl ob_52 fl_4_20 rfl fx_52_1 ?_
            skip
            rw [show zup σ3 52 3 0 52 1 = w by rw [zup_n (by omega), h3.2 52 1 (by omega)]; exact h0.1.2.2.2.2.2]
            refine zgF 12 (k := 59) rfl (wr_ob hw) fl_4_24 rfl (wr_fx_12 hw) ?_
            refine zpR 2 (k := 60) rfl ob_52 fl_4_30 ⟨_, rfl, rfl⟩ rfl (by omega) rfl fx_52_2 ?_
            have f3 : zup (zup σ3 52 3 0) 52 2 (w + 8) 52 3 = 0 := by rw [zup_n (by omega), zup_s]
            have f2 : zup (zup σ3 52 3 0) 52 2 (w + 8) 52 2 = w + 8 := zup_s _ _ _ _
            have h1 : stJ σ0 (zup (zup σ3 52 3 0) 52 2 (w + 8)) T n w A J K (tN T p) := stJ_x h0 (SC_x h3.1 (fun k => by rw [zup_n (by omega), zup_n (by omega)])) (fun x k a b => by rw [zup_n (by omega), zup_n (by omega)]; exact h3.2 x k a)
            generalize zup (zup σ3 52 3 0) 52 2 (w + 8) = σ5 at f2 f3 h1 ⊢
            refine ziload_n (k := 61) rfl rfl ?_
            refine ztabC (k := 62) (v := 0) 0 rfl rfl (by decide) rfl rfl (fun c5 => ?_) (fun c5 => ?_)
            · skip
              refine zforget (ls' := [_, _]) 1 rfl ?_
              first
              | exact cut192 _ hnf ha8 tb h1 (by omega)
              | (exfalso; omega)
            refine ztabC (k := 62) (v := 1) 1 rfl rfl (by decide) rfl rfl (fun c6 => ?_) (fun c6 => ?_)
            · skip
              refine zforget (ls' := [_, _]) 1 rfl ?_
              first
              | exact cut219 _ hnf ha8 tb h1 (by omega)
              | (exfalso; omega)
            refine ztabC (k := 62) (v := 2) 2 rfl rfl (by decide) rfl rfl (fun c7 => ?_) (fun c7 => ?_)
            · skip
              refine zforget (ls' := [_, _]) 1 rfl ?_
              first
              | exact cut219 _ hnf ha8 tb h1 (by omega)
              | (exfalso; omega)
            refine ztabC (k := 62) (v := 3) 3 rfl rfl (by decide) rfl rfl (fun c8 => ?_) (fun c8 => ?_)
            · skip
              refine zforget (ls' := [_, _]) 1 rfl ?_
              first
              | exact cut219 _ hnf ha8 tb h1 (by omega)
              | (exfalso; omega)
            refine ztabC (k := 62) (v := 4) 4 rfl rfl (by decide) rfl rfl (fun c9 => ?_) (fun c9 => ?_)
            · skip
              refine zforget (ls' := [_, _]) 1 rfl ?_
              first
              | exact cut197 _ hnf ha8 tb h1 (by omega)
              | (exfalso; omega)
            refine ztabC (k := 62) (v := 5) 5 rfl rfl (by decide) rfl rfl (fun c10 => ?_) (fun c10 => ?_)
            · skip
              refine zforget (ls' := [_, _]) 1 rfl ?_
              first
              | exact cut219 _ hnf ha8 tb h1 (by omega)
              | (exfalso; omega)
            refine ztabC (k := 62) (v := 6) 6 rfl rfl (by decide) rfl rfl (fun c11 => ?_) (fun c11 => ?_)
            · skip
              refine zforget (ls' := [_, _]) 1 rfl ?_
              first
              | exact cut219 _ hnf ha8 tb h1 (by omega)
              | (exfalso; omega)
            refine ztabC (k := 62) (v := 7) 7 rfl rfl (by decide) rfl rfl (fun c12 => ?_) (fun c12 => ?_)
            · skip
              refine zforget (ls' := [_, _]) 1 rfl ?_
              first
              | exact cut202 _ hnf ha8 tb h1 (by omega)
              | (exfalso; omega)
            refine ztabC (k := 62) (v := 8) 8 rfl rfl (by decide) rfl rfl (fun c13 => ?_) (fun c13 => ?_)
            · skip
              refine zforget (ls' := [_, _]) 1 rfl ?_
              first
              | exact cut219 _ hnf ha8 tb h1 (by omega)
              | (exfalso; omega)
            refine ztabC (k := 62) (v := 9) 9 rfl rfl (by decide) rfl rfl (fun c14 => ?_) (fun c14 => ?_)
            · skip
              refine zforget (ls' := [_, _]) 1 rfl ?_
              first
              | exact cut219 _ hnf ha8 tb h1 (by omega)
              | (exfalso; omega)
            refine ztabC (k := 62) (v := 10) 10 rfl rfl (by decide) rfl rfl (fun c15 => ?_) (fun c15 => ?_)
            · skip
              have hJ0 : J = [] := List.eq_nil_of_length_eq_zero (by omega)
              refine zforget (ls' := [_, _]) 1 rfl ?_
              first
              | exact cut207 _ hnf ha8 tb h1 (by omega) f2 f3
              | (exfalso; omega)
            refine ztabC (k := 62) (v := 11) 11 rfl rfl (by decide) rfl rfl (fun c16 => ?_) (fun c16 => ?_)
            · skip
              have hK0 : K = [] := List.eq_nil_of_length_eq_zero (by omega)
              refine zforget (ls' := [_, _]) 1 rfl ?_
              first
              | exact cut213 _ hnf ha8 tb h1 (by omega) f2 f3
              | (exfalso; omega)
            refine ztabOut (k := 62) rfl (by omega) rfl ?_
            refine zforget (ls' := [_, _]) 1 rfl ?_
            first
            | exact cut219 _ hnf ha8 tb h1 (by omega)
            | (exfalso; omega)
          · exfalso; omega
        · skip
          refine ziconst (k := 45) rfl (by decide) ?_
          refine zgoto (k := 46) rfl rfl ?_
          refine zpZ 3 (k := 48) rfl ob_52 fl_4_88 ⟨_, rfl, rfl⟩ rfl (by first | exact Or.inl rfl | exact Or.inr rfl | omega) (by omega) rfl fx_52_3 ?_
          refine zaload_n (k := 49) rfl rfl ?_
          refine zaload_n (k := 50) rfl rfl ?_
          refine zgI 3 (k := 51) rfl ob_52 fl_4_88 rfl fx_52_3 ?_
          rw [zup_s]
          refine zif_eq (k := 52) rfl rfl (fun c17 => ?_) (fun c17 => ?_)
          · exfalso; omega
          refine zaload_n (k := 53) rfl rfl ?_
          refine zgR 1 (k := 54) rfl ob_52 fl_4_20 rfl fx_52_1 ?_
          skip
          rw [show zup σ3 52 3 1 52 1 = w by rw [zup_n (by omega), h3.2 52 1 (by omega)]; exact h0.1.2.2.2.2.2]
          refine zgF 13 (k := 55) rfl (wr_ob hw) fl_4_92 rfl (wr_fx_13 hw) ?_
          refine zgoto (k := 56) rfl rfl ?_
          refine zpR 2 (k := 60) rfl ob_52 fl_4_30 ⟨_, rfl, rfl⟩ rfl (by omega) rfl fx_52_2 ?_
          have f3 : zup (zup σ3 52 3 1) 52 2 (w + 10) 52 3 = 1 := by rw [zup_n (by omega), zup_s]
          have f2 : zup (zup σ3 52 3 1) 52 2 (w + 10) 52 2 = w + 10 := zup_s _ _ _ _
          have h1 : stJ σ0 (zup (zup σ3 52 3 1) 52 2 (w + 10)) T n w A J K (tN T p) := stJ_x h0 (SC_x h3.1 (fun k => by rw [zup_n (by omega), zup_n (by omega)])) (fun x k a b => by rw [zup_n (by omega), zup_n (by omega)]; exact h3.2 x k a)
          generalize zup (zup σ3 52 3 1) 52 2 (w + 10) = σ5 at f2 f3 h1 ⊢
          refine ziload_n (k := 61) rfl rfl ?_
          refine ztabC (k := 62) (v := 0) 0 rfl rfl (by decide) rfl rfl (fun c18 => ?_) (fun c18 => ?_)
          · skip
            refine zforget (ls' := [_, _]) 1 rfl ?_
            first
            | exact cut192 _ hnf ha8 tb h1 (by omega)
            | (exfalso; omega)
          refine ztabC (k := 62) (v := 1) 1 rfl rfl (by decide) rfl rfl (fun c19 => ?_) (fun c19 => ?_)
          · skip
            refine zforget (ls' := [_, _]) 1 rfl ?_
            first
            | exact cut219 _ hnf ha8 tb h1 (by omega)
            | (exfalso; omega)
          refine ztabC (k := 62) (v := 2) 2 rfl rfl (by decide) rfl rfl (fun c20 => ?_) (fun c20 => ?_)
          · skip
            refine zforget (ls' := [_, _]) 1 rfl ?_
            first
            | exact cut219 _ hnf ha8 tb h1 (by omega)
            | (exfalso; omega)
          refine ztabC (k := 62) (v := 3) 3 rfl rfl (by decide) rfl rfl (fun c21 => ?_) (fun c21 => ?_)
          · skip
            refine zforget (ls' := [_, _]) 1 rfl ?_
            first
            | exact cut219 _ hnf ha8 tb h1 (by omega)
            | (exfalso; omega)
          refine ztabC (k := 62) (v := 4) 4 rfl rfl (by decide) rfl rfl (fun c22 => ?_) (fun c22 => ?_)
          · skip
            refine zforget (ls' := [_, _]) 1 rfl ?_
            first
            | exact cut197 _ hnf ha8 tb h1 (by omega)
            | (exfalso; omega)
          refine ztabC (k := 62) (v := 5) 5 rfl rfl (by decide) rfl rfl (fun c23 => ?_) (fun c23 => ?_)
          · skip
            refine zforget (ls' := [_, _]) 1 rfl ?_
            first
            | exact cut219 _ hnf ha8 tb h1 (by omega)
            | (exfalso; omega)
          refine ztabC (k := 62) (v := 6) 6 rfl rfl (by decide) rfl rfl (fun c24 => ?_) (fun c24 => ?_)
          · skip
            refine zforget (ls' := [_, _]) 1 rfl ?_
            first
            | exact cut219 _ hnf ha8 tb h1 (by omega)
            | (exfalso; omega)
          refine ztabC (k := 62) (v := 7) 7 rfl rfl (by decide) rfl rfl (fun c25 => ?_) (fun c25 => ?_)
          · skip
            refine zforget (ls' := [_, _]) 1 rfl ?_
            first
            | exact cut202 _ hnf ha8 tb h1 (by omega)
            | (exfalso; omega)
          refine ztabC (k := 62) (v := 8) 8 rfl rfl (by decide) rfl rfl (fun c26 => ?_) (fun c26 => ?_)
          · skip
            refine zforget (ls' := [_, _]) 1 rfl ?_
            first
            | exact cut219 _ hnf ha8 tb h1 (by omega)
            | (exfalso; omega)
          refine ztabC (k := 62) (v := 9) 9 rfl rfl (by decide) rfl rfl (fun c27 => ?_) (fun c27 => ?_)
          · skip
            refine zforget (ls' := [_, _]) 1 rfl ?_
            first
            | exact cut219 _ hnf ha8 tb h1 (by omega)
            | (exfalso; omega)
          refine ztabC (k := 62) (v := 10) 10 rfl rfl (by decide) rfl rfl (fun c28 => ?_) (fun c28 => ?_)
          · skip
            have hJ0 : J = [] := List.eq_nil_of_length_eq_zero (by omega)
            refine zforget (ls' := [_, _]) 1 rfl ?_
            first
            | exact cut207 _ hnf ha8 tb h1 (by omega) f2 f3
            | (exfalso; omega)
          refine ztabC (k := 62) (v := 11) 11 rfl rfl (by decide) rfl rfl (fun c29 => ?_) (fun c29 => ?_)
          · skip
            have hK0 : K = [] := List.eq_nil_of_length_eq_zero (by omega)
            refine zforget (ls' := [_, _]) 1 rfl ?_
            first
            | exact cut213 _ hnf ha8 tb h1 (by omega) f2 f3
            | (exfalso; omega)
          refine ztabOut (k := 62) rfl (by omega) rfl ?_
          refine zforget (ls' := [_, _]) 1 rfl ?_
          first
          | exact cut219 _ hnf ha8 tb h1 (by omega)
          | (exfalso; omega)
      · skip
        have hfl : flS (tO T p) A J K := by omega
        refine zaload_n (k := 34) rfl rfl ?_
        refine zbipush (k := 35) rfl rfl ?_
        refine zpVI (k := 36) rfl (k_wrong3 h0.2.1) fm_Reader_wrong lk_4_79 rfl rfl ob_52 ⟨_, rfl, rfl⟩ (Nat.le_of_ble_eq_true rfl) (by decide) ⟨by decide, by decide⟩ (fun z9 σ9 h9 => ?_)
        rw [h9.1]
        refine zzreturn (k := 37) rfl rfl (by first | exact Or.inl rfl | exact Or.inr rfl | omega) rfl ?_
        rw [← hQ]
        exact ⟨rfl, _, rfl, Or.inr ⟨rfl, _, _, Or.inr ⟨ha8, Or.inr (Or.inl ⟨hfl, rfl⟩)⟩, h9.2.1, fun x k a b c => by rw [h9.2.2 x k b (by omega)]; exact h0.2.2.2.2.2 x k a b c⟩⟩
    · skip
      have hnb : ¬ bgS (tO T p) := by omega
      refine zaload_n (k := 26) rfl rfl ?_
      refine ziconst (k := 27) rfl (by decide) ?_
      refine zpVI (k := 28) rfl (k_wrong3 h0.2.1) fm_Reader_wrong lk_4_79 rfl rfl ob_52 ⟨_, rfl, rfl⟩ (Nat.le_of_ble_eq_true rfl) (by decide) ⟨by decide, by decide⟩ (fun z9 σ9 h9 => ?_)
      rw [h9.1]
      refine zzreturn (k := 29) rfl rfl (by first | exact Or.inl rfl | exact Or.inr rfl | omega) rfl ?_
      rw [← hQ]
      exact ⟨rfl, _, rfl, Or.inr ⟨rfl, _, _, Or.inr ⟨ha8, Or.inl ⟨hnb, rfl⟩⟩, h9.2.1, fun x k a b c => by rw [h9.2.2 x k b (by omega)]; exact h0.2.2.2.2.2 x k a b c⟩⟩
  refine zaload_n (k := 0) rfl rfl ?_
  refine zgR 1 (k := 1) rfl ob_52 fl_4_20 rfl fx_52_1 ?_
  rw [h0.1.2.2.2.2.2]
  refine zgI 0 (k := 2) rfl (wr_ob hw) fl_4_57 rfl (wr_fx_0 hw) ?_
  rw [h0.2.2.1.1 0 (by omega) (by omega)]
  refine zbipush (k := 3) rfl rfl ?_
  refine zicmp_lt (k := 4) rfl rfl (fun c30 => ?_) (fun c30 => ?_)
  · skip
    refine zaload_n (k := 12) rfl rfl ?_
    refine zgF 0 (k := 13) rfl ob_52 fl_4_14 rfl fx_52_0 ?_
    refine zgI 3 (k := 14) rfl ob_53 fl_4_46 rfl fx_53_3 ?_
    rw [h0.2.1.2.1]
    refine ziconst (k := 15) rfl (by decide) ?_
    refine zicmp_ne (k := 16) rfl rfl (fun c31 => ?_) (fun c31 => ?_)
    · skip
      refine ziconst (k := 21) rfl (by decide) ?_
      first
      | exact cut48 (by omega)
      | (rw [show zI (-1) = zI (tO T p) by rw [tO_n (by assumption)]]; exact cut48 (by omega))
    · skip
      refine zaload_n (k := 17) rfl rfl ?_
      refine zgF 0 (k := 18) rfl ob_52 fl_4_14 rfl fx_52_0 ?_
      refine zgI 6 (k := 19) rfl ob_53 fl_4_73 rfl fx_53_6 ?_
      rw [h0.2.1.2.2.2.2.1]
      refine zgoto (k := 20) rfl rfl ?_
      first
      | exact cut48 (by omega)
      | (rw [show zI (-1) = zI (tO T p) by rw [tO_n (by assumption)]]; exact cut48 (by omega))
  · skip
    refine zaload_n (k := 5) rfl rfl ?_
    refine zbipush (k := 6) rfl rfl ?_
    refine zaload_n (k := 7) rfl rfl ?_
    refine zgF 0 (k := 8) rfl ob_52 fl_4_14 rfl fx_52_0 ?_
    refine zgI 4 (k := 9) rfl ob_53 fl_4_70 rfl fx_53_4 ?_
    rw [h0.2.1.2.2.1]
    refine zfV1 (k := 10) rfl c_Reader_wrongAt fm_Reader_wrongAt lk_4_66 rfl rfl ob_52 ⟨_, rfl, rfl⟩ (Nat.le_of_ble_eq_true rfl) (by decide) ⟨by decide, by decide⟩ ?_
    refine zzreturn (k := 11) rfl rfl (by first | exact Or.inl rfl | exact Or.inr rfl | omega) rfl ?_
    rw [← hQ]
    exact ⟨rfl, _, rfl, Or.inr ⟨rfl, 6, tQ T p, Or.inl ⟨by omega, rfl, rfl⟩, ⟨by rw [zup_n (by omega), zup_s], zup_s _ _ _ _⟩, fun x k a b c => by rw [zup_n (by omega), zup_n (by omega)]; exact h0.2.2.2.2.2 x k a b c⟩⟩
