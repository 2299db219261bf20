theorem pM_le (nc a d : Int) (h : a ≤ d) (hn : 0 ≤ nc) : pM nc a ≤ pM nc d := by
  unfold pM
  have := Int.mul_le_mul_of_nonneg_right h (show 0 ≤ 6 + nc by omega)
  omega
/-- COUNTIES and MEN as an image tells them, in version 1 -/
def stC (T : Int → Int) (σ : zv_H) (j : Int) : Prop := ∀ c, 0 ≤ c → c < j → σ 316 (7 + c) = T (2 + 4 * c) ∧ σ 317 (7 + c) = 256 * T (2 + 4 * c + 1) + T (2 + 4 * c + 2) ∧ σ 318 (7 + c) = T (2 + 4 * c + 3)
def stP (T : Int → Int) (nc wk : Int) (σ : zv_H) (j : Int) : Prop := ∀ m, 0 ≤ m → m < j → (σ 319 (6 + m) = T (pM nc m) ∧ σ 320 (6 + m) = T (pM nc m + 1) ∧ σ 321 (6 + m) = T (pM nc m + 2) ∧ σ 322 (6 + m) = T (pM nc m + 3) ∧ σ 323 (6 + m) = 256 * T (pM nc m + 4) + T (pM nc m + 5)) ∧ ∀ c, 0 ≤ c → c < nc → σ 324 (42 + 7 * m + c) = if T (pM nc m + 6 + c) = 0 then -1 else wk + T (pM nc m + 6 + c) - 1
theorem stC_s {T : Int → Int} {σ : zv_H} {j : Int} (h : stC T σ j) : stC T (zup (zup (zup σ 316 (7 + j) (T (2 + 4 * j))) 317 (7 + j) (256 * T (2 + 4 * j + 1) + T (2 + 4 * j + 2))) 318 (7 + j) (T (2 + 4 * j + 3))) (j + 1) := fun c q1_q q2_q => by
  by_cases e : c = j
  · rw [e]
    exact ⟨by rw [zup_n (by omega), zup_n (by omega), zup_s], by rw [zup_n (by omega), zup_s], by rw [zup_s]⟩
  · have r := h c q1_q (by omega)
    exact ⟨by rw [zup_n (by omega), zup_n (by omega), zup_n (by omega)]; exact r.1, by rw [zup_n (by omega), zup_n (by omega), zup_n (by omega)]; exact r.2.1, by rw [zup_n (by omega), zup_n (by omega), zup_n (by omega)]; exact r.2.2⟩
theorem stP_s {T : Int → Int} {nc wk : Int} {σ : zv_H} {m : Int} (hnc : 0 ≤ nc ∧ nc ≤ 7) (h : stP T nc wk σ m) : stP T nc wk (duM T m (pM nc m) wk (zup (zup (zup (zup (zup σ 319 (6 + m) (T (pM nc m))) 320 (6 + m) (T (pM nc m + 1))) 321 (6 + m) (T (pM nc m + 2))) 322 (6 + m) (T (pM nc m + 3))) 323 (6 + m) (256 * T (pM nc m + 4) + T (pM nc m + 5))) nc) (m + 1) := fun i q1_q q2_q => by
  by_cases e : i = m
  · rw [e]
    refine ⟨⟨?_, ?_, ?_, ?_, ?_⟩, fun c c1_q c2_q => ?_⟩
    · rw [duM_n (by omega), zup_n (by omega), zup_n (by omega), zup_n (by omega), zup_n (by omega), zup_s]
    · rw [duM_n (by omega), zup_n (by omega), zup_n (by omega), zup_n (by omega), zup_s]
    · rw [duM_n (by omega), zup_n (by omega), zup_n (by omega), zup_s]
    · rw [duM_n (by omega), zup_n (by omega), zup_s]
    · rw [duM_n (by omega), zup_s]
    · unfold duM
      rw [if_pos (by omega), show 42 + 7 * m + c - (42 + 7 * m) = c by omega]
  · have r := h i q1_q (by omega)
    refine ⟨⟨?_, ?_, ?_, ?_, ?_⟩, fun c c1_q c2_q => ?_⟩
    · rw [duM_n (by omega), zup_n (by omega), zup_n (by omega), zup_n (by omega), zup_n (by omega), zup_n (by omega)]; exact r.1.1
    · rw [duM_n (by omega), zup_n (by omega), zup_n (by omega), zup_n (by omega), zup_n (by omega), zup_n (by omega)]; exact r.1.2.1
    · rw [duM_n (by omega), zup_n (by omega), zup_n (by omega), zup_n (by omega), zup_n (by omega), zup_n (by omega)]; exact r.1.2.2.1
    · rw [duM_n (by omega), zup_n (by omega), zup_n (by omega), zup_n (by omega), zup_n (by omega), zup_n (by omega)]; exact r.1.2.2.2.1
    · rw [duM_n (by omega), zup_n (by omega), zup_n (by omega), zup_n (by omega), zup_n (by omega), zup_n (by omega)]; exact r.1.2.2.2.2
    · unfold duM
      rw [if_neg (by omega), zup_n (by omega), zup_n (by omega), zup_n (by omega), zup_n (by omega), zup_n (by omega)]
      exact r.2 c c1_q c2_q
theorem stC_n {T : Int → Int} {σ σ' : zv_H} {j : Int} (h : stC T σ j) (he : ∀ x k, 316 ≤ x → x ≤ 318 → σ' x k = σ x k) : stC T σ' j := fun c q1_q q2_q => by
  rw [he 316 _ (by omega) (by omega), he 317 _ (by omega) (by omega), he 318 _ (by omega) (by omega)]
  exact h c q1_q q2_q
theorem rdA_rM {T : Int → Int} {Wm A σ : zv_H} {n wk : Int} (hW : WI Wm) (hT : ∀ k, 0 ≤ k → k < n → 0 ≤ T k ∧ T k ≤ 255) (hok : okA T Wm n) (hwk : wk = 256 * T 0 + T 1) (hC : stC T σ (Wm 0 1)) (hP : stP T (Wm 0 1) wk σ (Wm 0 3)) (h15_q : σ 315 1 = wk) (h25_q : σ 325 1 = 0) : rM σ (Wm 0 1) (Wm 0 3) 1 (rdA T Wm (sttF Wm A)) := by
  have w1_q := hW.1
  have w3_q := hW.2.2.1
  obtain ⟨⟨hn, _⟩, hk, hoc, hom⟩ := hok
  have z0_q : zup (sttF Wm A) 0 0 (jv (256 * T 0 + T 1) 999) 0 0 = wk := by rw [zup_s, hwk]; exact if_pos hk
  have z9_q : ∀ k, 0 ≤ k → k < 42 → zup (sttF Wm A) 0 0 (jv (256 * T 0 + T 1) 999) 9 k = 1000000 := fun k q1_q q2_q => by
    rw [zup_n (by omega)]
    unfold sttF
    rw [if_neg (by omega), if_neg (by omega), if_pos (by omega)]
  have pn : pM (Wm 0 1) (Wm 0 3) = n - 1 := by unfold pM; omega
  obtain ⟨mv, _⟩ := rdM_v (T := T) (wk := wk) (S := rdC T Wm (zup (sttF Wm A) 0 0 (jv (256 * T 0 + T 1) 999)) (Wm 0 1).toNat) w1_q (by rw [rdC_n (by omega)]; exact z0_q) (by rw [hwk]; exact hk) (fun k q1_q q2_q => by rw [rdC_n (by omega)]; exact z9_q k q1_q q2_q) (Wm 0 3).toNat (by omega) hom (fun k q1_q q2_q => hT k q1_q (by rw [show (((Wm 0 3).toNat : Nat) : Int) = Wm 0 3 by omega, pn] at q2_q; omega))
  have e0_q : ∀ k, rdA T Wm (sttF Wm A) 0 k = zup (sttF Wm A) 0 0 (jv (256 * T 0 + T 1) 999) 0 k := fun k => by
    unfold rdA
    rw [rdM_0 (by omega), rdC_n (by omega)]
  have e12_q : rdA T Wm (sttF Wm A) 0 12 = 0 := by
    rw [e0_q, zup_n (by omega)]
    unfold sttF
    rw [if_neg (by omega), if_neg (by omega), if_neg (by omega), if_neg (by omega)]
  have okc : ∀ (j : Nat) (c : Int), okC T Wm j → 0 ≤ c → c < j → (0 ≤ T (2 + 4 * c) ∧ T (2 + 4 * c) ≤ Wm 2 c) ∧ (0 ≤ 256 * T (2 + 4 * c + 1) + T (2 + 4 * c + 2) ∧ 256 * T (2 + 4 * c + 1) + T (2 + 4 * c + 2) ≤ 999) ∧ (0 ≤ T (2 + 4 * c + 3) ∧ T (2 + 4 * c + 3) ≤ 9) := by
    intro j
    induction j with
    | zero => intro c _ q1_q q2_q; omega
    | succ j ih =>
      intro c h q1_q q2_q
      by_cases e : c = j
      · rw [e]; exact h.2
      · exact ih c h.1 q1_q (by omega)
  refine ⟨⟨by rw [e0_q, z0_q]; exact h15_q, by rw [e12_q]; exact h25_q⟩, fun c q1_q q2_q => ?_, fun m q1_q q2_q => ?_, fun m c q1_q q2_q q3_q q4_q => ?_, fun k q1_q q2_q => by rw [e12_q] at q2_q; omega⟩
  · have v := rdC_v (T := T) (Wm := Wm) (S := zup (sttF Wm A) 0 0 (jv (256 * T 0 + T 1) 999)) q1_q (Wm 0 1).toNat (by omega)
    have o := okc (Wm 0 1).toNat c hoc q1_q (by omega)
    have r := hC c q1_q q2_q
    rw [show 7 * (1 : Int) + c = 7 + c by omega]
    unfold rdA
    rw [rdM_0 (by omega), rdM_0 (by omega), rdM_0 (by omega), v.1, v.2.1, v.2.2, r.1, r.2.1, r.2.2]
    exact ⟨(if_pos o.1).symm, (if_pos o.2.1).symm, (if_pos o.2.2).symm⟩
  · have r := (hP m q1_q q2_q).1
    have v := (mv m q1_q (by omega)).1
    rw [show 6 * (1 : Int) + m = 6 + m by omega]
    unfold rdA
    exact ⟨r.1.trans v.1.symm, r.2.1.trans v.2.1.symm, r.2.2.1.trans v.2.2.1.symm, r.2.2.2.1.trans v.2.2.2.1.symm, r.2.2.2.2.trans v.2.2.2.2.symm⟩
  · have r := (hP m q1_q q2_q).2 c q3_q q4_q
    have v := (mv m q1_q (by omega)).2 c q3_q q4_q
    have tb := hT (pM (Wm 0 1) m + 6 + c) (by unfold pM; have := Int.mul_nonneg q1_q (show 0 ≤ 6 + Wm 0 1 by omega); omega) (by
      have := pM_s (Wm 0 1) m
      have := pM_le (Wm 0 1) (m + 1) (Wm 0 3) (by omega) w1_q.1
      omega)
    rw [show 42 * (1 : Int) + 7 * m + c = 42 + 7 * m + c by omega, r]
    have e : rdA T Wm (sttF Wm A) 9 (m * 7 + c) = if T (pM (Wm 0 1) m + 6 + c) = 0 then 1000000 else wk + T (pM (Wm 0 1) m + 6 + c) - 1 := v
    rw [e]
    unfold dueM
    by_cases z : T (pM (Wm 0 1) m + 6 + c) = 0
    · rw [if_pos z, if_pos z, if_pos rfl]
    · rw [if_neg z, if_neg z, if_neg (by omega)]
theorem rdA_12 {T : Int → Int} {Wm A : zv_H} : rdA T Wm (sttF Wm A) 0 12 = 0 := by
  unfold rdA
  rw [rdM_0 (by omega), rdC_n (by omega), zup_n (by omega)]
  unfold sttF
  rw [if_neg (by omega), if_neg (by omega), if_neg (by omega), if_neg (by omega)]
