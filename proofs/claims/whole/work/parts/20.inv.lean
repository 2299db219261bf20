/-! what is so of every state stays so -/
theorem SI_m {nc nm : Int} {S : zv_H} (h : SI nc nm S) {m : Int} (S2 : zv_H) (e : ∀ g k, ¬((4 ≤ g ∧ g ≤ 8) ∧ k = m) → S2 g k = S g k) (hm : (0 ≤ S2 4 m ∧ S2 4 m < nc) ∧ (0 ≤ S2 5 m ∧ S2 5 m ≤ 4) ∧ (0 ≤ S2 6 m ∧ S2 6 m ≤ 99) ∧ (0 ≤ S2 7 m ∧ S2 7 m ≤ 99) ∧ (0 ≤ S2 8 m ∧ S2 8 m ≤ 9999) ∧ (S2 5 m = 1 ↔ 1 ≤ S2 6 m)) : SI nc nm S2 := by
  obtain ⟨b0, b11, b12, bc, bm, bl, br⟩ := h
  refine ⟨by rw [e 0 0 (by omega)]; exact b0, by rw [e 0 11 (by omega)]; exact b11, by rw [e 0 12 (by omega)]; exact b12, fun c h1 h2 => ?_, fun k h1 h2 => ?_, fun k h1 h2 => ?_, fun k h1 h2 => ?_⟩
  · rw [e 1 c (by omega), e 2 c (by omega), e 3 c (by omega)]; exact bc c h1 h2
  · by_cases hk : k = m
    · rw [hk]; exact hm
    · rw [e 4 k (by omega), e 5 k (by omega), e 6 k (by omega), e 7 k (by omega), e 8 k (by omega)]; exact bm k h1 h2
  · rw [e 9 k (by omega)]; exact bl k h1 h2
  · rw [e 10 k (by omega)]; exact br k h1 h2
theorem SI_o {nc nm : Int} {S : zv_H} (h : SI nc nm S) (S2 : zv_H) (e : ∀ g k, 2 ≤ g → g ≤ 8 → S2 g k = S g k) (h0 : (0 ≤ S2 0 0 ∧ S2 0 0 ≤ 999) ∧ (0 ≤ S2 0 11 ∧ S2 0 11 < 60) ∧ (0 ≤ S2 0 12 ∧ S2 0 12 ≤ 60)) (h1 : ∀ c, S2 1 c = S 1 c ∨ (0 ≤ S2 1 c ∧ S2 1 c ≤ 20)) (h9 : ∀ k, S2 9 k = S 9 k ∨ (0 ≤ S2 9 k ∧ S2 9 k ≤ 2000)) (h10 : ∀ k, S2 10 k = S 10 k ∨ (0 ≤ S2 10 k ∧ S2 10 k ≤ 999999)) : SI nc nm S2 := by
  obtain ⟨b0, b11, b12, bc, bm, bl, br⟩ := h
  refine ⟨h0.1, h0.2.1, h0.2.2, fun c q1 q2 => ?_, fun k q1 q2 => ?_, fun k q1 q2 => ?_, fun k q1 q2 => ?_⟩
  · rw [e 2 c (by omega) (by omega), e 3 c (by omega) (by omega)]
    have q3 := bc c q1 q2
    have q4 := h1 c
    omega
  · rw [e 4 k (by omega) (by omega), e 5 k (by omega) (by omega), e 6 k (by omega) (by omega), e 7 k (by omega) (by omega), e 8 k (by omega) (by omega)]; exact bm k q1 q2
  · have q3 := bl k q1 q2
    have q4 := h9 k
    omega
  · have q3 := br k q1 q2
    have q4 := h10 k
    omega
theorem kep_n {S : zv_H} {e g k : Int} (h1 : g ≠ 10) (h2 : ¬ (g = 0 ∧ (k = 11 ∨ k = 12))) : kepF S e g k = S g k := by
  unfold kepF
  split <;> rw [zup_n (by omega), zup_n (by omega)]
theorem SI_kep {nc nm : Int} {S : zv_H} (h : SI nc nm S) {e : Int} (he : 0 ≤ e ∧ e ≤ 999999) : SI nc nm (kepF S e) := by
  have h2 := h
  obtain ⟨b0, b11, b12, bc, bm, bl, br⟩ := h2
  refine SI_o h _ (fun g k q1 q2 => kep_n (by omega) (by omega)) ⟨by rw [kep_n (by omega) (by omega)]; exact b0, ?_, ?_⟩ (fun c => Or.inl (kep_n (by omega) (by omega))) (fun c => Or.inl (kep_n (by omega) (by omega))) (fun k => ?_)
  · unfold kepF zup
    (repeat' split) <;> (try simp at *) <;> omega
  · unfold kepF zup
    (repeat' split) <;> (try simp at *) <;> omega
  · unfold kepF zup
    (repeat' split) <;> (try simp at *) <;> omega
theorem SI_snd {nc nm : Int} {S : zv_H} (h : SI nc nm S) {m c t : Int} (he : 0 ≤ t ∧ t ≤ 2000) : SI nc nm (sndF S m c t) := by
  unfold sndF
  split
  · have h2 := h
    obtain ⟨b0, b11, b12, bc, bm, bl, br⟩ := h2
    refine SI_o h _ (fun g k q1 q2 => zup_n (by omega)) ⟨by rw [zup_n (by omega)]; exact b0, by rw [zup_n (by omega)]; exact b11, by rw [zup_n (by omega)]; exact b12⟩ (fun c => Or.inl (zup_n (by omega))) (fun k => ?_) (fun c => Or.inl (zup_n (by omega)))
    unfold zup
    split <;> omega
  · exact h
theorem SI_q {nc nm : Int} {S : zv_H} (h : SI nc nm S) {c v : Int} (he : 0 ≤ v ∧ v ≤ 20) : SI nc nm (zup S 1 c v) := by
  have h2 := h
  obtain ⟨b0, b11, b12, bc, bm, bl, br⟩ := h2
  refine SI_o h _ (fun g k q1 q2 => zup_n (by omega)) ⟨by rw [zup_n (by omega)]; exact b0, by rw [zup_n (by omega)]; exact b11, by rw [zup_n (by omega)]; exact b12⟩ (fun k => ?_) (fun c => Or.inl (zup_n (by omega))) (fun c => Or.inl (zup_n (by omega)))
  unfold zup
  split <;> omega
theorem SI_wk {nc nm : Int} {S : zv_H} (h : SI nc nm S) {v : Int} (he : 0 ≤ v ∧ v ≤ 999) : SI nc nm (zup S 0 0 v) := by
  have h2 := h
  obtain ⟨b0, b11, b12, bc, bm, bl, br⟩ := h2
  exact SI_o h _ (fun g k q1 q2 => zup_n (by omega)) ⟨by rw [zup_s]; exact he, by rw [zup_n (by omega)]; exact b11, by rw [zup_n (by omega)]; exact b12⟩ (fun c => Or.inl (zup_n (by omega))) (fun c => Or.inl (zup_n (by omega))) (fun c => Or.inl (zup_n (by omega)))
theorem SI_wal {nc nm : Int} {S : zv_H} {m : Int} (h : SI nc nm S) (hm : 0 ≤ m ∧ m < nm) (h5 : S 5 m = 1) : SI nc nm (walF S m) := by
  have b := h.2.2.2.2.1 m hm.1 hm.2
  refine SI_m (m := m) h _ (fun g k q => ?_) ?_
  · unfold walF
    split
    · rw [zup_n (by omega), zup_n (by omega)]
    · rw [zup_n (by omega)]
  · unfold walF
    split
    · simp [zup]
      omega
    · simp [zup]
      omega
theorem nxt_b {Wm S : zv_H} {m : Int} : ∀ n : Nat, (nxtL Wm S m n).1 ≠ -1 → 0 ≤ (nxtL Wm S m n).1 ∧ (nxtL Wm S m n).1 < n ∧ (nxtL Wm S m n).1 ≠ S 4 m ∧ dstF Wm (S 4 m) (nxtL Wm S m n).1 ≠ -1
  | 0 => fun h => absurd rfl h
  | t + 1 => fun h => by
    have ih := nxt_b (Wm := Wm) (S := S) (m := m) t
    by_cases c : (t : Int) ≠ S 4 m ∧ dstF Wm (S 4 m) t ≠ -1 ∧ ((nxtL Wm S m t).1 = -1 ∨ (nxtL Wm S m t).2 < likF Wm S m t (S 2 t))
    · have e : nxtL Wm S m (t + 1) = ((t : Int), likF Wm S m t (S 2 t)) := if_pos c
      rw [e]
      exact ⟨by show 0 ≤ (t : Int); omega, by show (t : Int) < _; omega, c.1, c.2.1⟩
    · have e : nxtL Wm S m (t + 1) = nxtL Wm S m t := if_neg c
      rw [e] at h ⊢
      have := ih h
      exact ⟨this.1, by omega, this.2.2⟩
theorem nxtF_b {Wm S : zv_H} {m : Int} (hW : 0 ≤ Wm 0 1) (h : nxtF Wm S m ≠ -1) : 0 ≤ nxtF Wm S m ∧ nxtF Wm S m < Wm 0 1 ∧ nxtF Wm S m ≠ S 4 m ∧ dstF Wm (S 4 m) (nxtF Wm S m) ≠ -1 := by
  have := nxt_b (Wm := Wm) (S := S) (m := m) (Wm 0 1).toNat h
  unfold nxtF
  refine ⟨this.1, by omega, this.2.2⟩
theorem dst_p {Wm : zv_H} (h : WI Wm) {f t : Int} (h1 : dstF Wm f t ≠ -1) (h2 : f ≠ t) : 1 ≤ dstF Wm f t := by
  unfold dstF at h1 ⊢
  split at h1
  · rename_i q
    rw [if_pos q]
    have := h.2.2.2.2.2.2.2.2.2 f t q.1.1 q.1.2 q.2.1.1 q.2.1.2
    omega
  · exact absurd rfl h1
theorem SI_gon {Wm S : zv_H} {m : Int} (hW : WI Wm) (h : SI (Wm 0 1) (Wm 0 3) S) (hm : 0 ≤ m ∧ m < Wm 0 3) (h6 : S 6 m = 0) : SI (Wm 0 1) (Wm 0 3) (gonF Wm S m) := by
  have b := h.2.2.2.2.1 m hm.1 hm.2
  refine SI_m (m := m) h _ (fun g k q => ?_) ?_
  · unfold gonF
    split
    · rw [zup_n (by omega)]
    · rw [zup_n (by omega), zup_n (by omega), zup_n (by omega)]
  · unfold gonF
    split
    · simp [zup]
      omega
    · rename_i q
      have q1 := nxtF_b hW.1.1 q
      have q2 := dst_p hW q1.2.2.2 (fun q => q1.2.2.1 q.symm)
      have q3 := dst_b hW (S 4 m) (nxtF Wm S m)
      simp [zup]
      omega
theorem entF_b {S : zv_H} {m c t : Int} (h0 : 0 ≤ S 0 0 ∧ S 0 0 ≤ 999) (hm : 0 ≤ m ∧ m < 6) (hc : 0 ≤ c ∧ c < 7) (ht : 0 ≤ t ∧ t ≤ 9) : 0 ≤ entF S m c t ∧ entF S m c t ≤ 999999 := by unfold entF; omega
theorem SI_met {Wm S : zv_H} {m : Int} (hW : WI Wm) (h : SI (Wm 0 1) (Wm 0 3) S) (hm : 0 ≤ m ∧ m < Wm 0 3) (h5 : S 5 m = 0) : SI (Wm 0 1) (Wm 0 3) (metF Wm S m).1 := by
  have h2 := h
  obtain ⟨b0, b11, b12, bc, bm, bl, br⟩ := h2
  have b := bm m hm.1 hm.2
  have b2 := bc (S 4 m) b.1.1 b.1.2
  have w1 := hW.1
  have w3 := hW.2.2.1
  unfold metF
  split
  · refine SI_kep (SI_m (m := m) h _ (fun g k q => zup_n (by omega)) ?_) (entF_b b0 (by omega) (by omega) (by omega))
    simp [zup]
    omega
  · split
    · exact SI_gon hW h hm (by omega)
    · refine SI_kep (SI_m (m := m) (SI_q h (c := S 4 m) (v := S 1 (S 4 m) - 1) (by omega)) _ (fun g k q => by rw [zup_n (by omega), zup_n (by omega), zup_n (by omega)]) ?_) (entF_b b0 (by omega) (by omega) (by omega))
      simp [zup]
      omega
theorem sds_00 {Wm S : zv_H} {m c : Int} : ∀ {n : Nat} {g k : Int}, g ≠ 9 → sdsF Wm S m c n g k = S g k
  | 0, _, _, _ => rfl
  | t + 1, g, k, h => by
    show (if dstF Wm c t ≠ -1 then sndF (sdsF Wm S m c t) m t (S 0 0 + dstF Wm c t + Wm 0 4) else sdsF Wm S m c t) g k = _
    split
    · unfold sndF
      split
      · rw [zup_n (by omega)]; exact sds_00 h
      · exact sds_00 h
    · exact sds_00 h
theorem SI_sds {Wm S : zv_H} {m c : Int} (hW : WI Wm) (h : SI (Wm 0 1) (Wm 0 3) S) : ∀ n : Nat, SI (Wm 0 1) (Wm 0 3) (sdsF Wm S m c n)
  | 0 => h
  | t + 1 => by
    show SI _ _ (if dstF Wm c t ≠ -1 then sndF (sdsF Wm S m c t) m t (S 0 0 + dstF Wm c t + Wm 0 4) else sdsF Wm S m c t)
    have ih := SI_sds (m := m) (c := c) hW h t
    split
    · have := dst_b hW c t
      have w4 := hW.2.2.2.1
      have b0 := h.1
      exact SI_snd ih (by omega)
    · exact ih
theorem SI_rid {Wm S : zv_H} {m : Int} (hW : WI Wm) (h : SI (Wm 0 1) (Wm 0 3) S) (hm : 0 ≤ m ∧ m < Wm 0 3) (h5 : S 5 m = 2) : SI (Wm 0 1) (Wm 0 3) (ridF Wm S m) := by
  have h2 := h
  obtain ⟨b0, b11, b12, bc, bm, bl, br⟩ := h2
  have b := bm m hm.1 hm.2
  have w1 := hW.1
  have w3 := hW.2.2.1
  unfold ridF
  split
  · refine SI_kep (SI_m (m := m) h _ (fun g k q => zup_n (by omega)) ?_) (entF_b b0 (by omega) (by omega) (by omega))
    simp [zup]
    omega
  · exact SI_gon hW (SI_kep (SI_sds hW h _) (entF_b b0 (by omega) (by omega) (by omega))) hm (by rw [kep_n (by omega) (by omega), sds_00 (by omega)]; omega)
theorem SI_man {Wm S : zv_H} {m : Int} (hW : WI Wm) (h : SI (Wm 0 1) (Wm 0 3) S) (hm : 0 ≤ m ∧ m < Wm 0 3) : SI (Wm 0 1) (Wm 0 3) (manF Wm S m).1 := by
  unfold manF
  split
  · exact SI_wal h hm (by assumption)
  · split
    · exact SI_rid hW h hm (by assumption)
    · split
      · exact SI_met hW h hm (by assumption)
      · exact h
theorem SI_men {Wm S : zv_H} (hW : WI Wm) (h : SI (Wm 0 1) (Wm 0 3) S) : ∀ n : Nat, (n : Int) ≤ Wm 0 3 → SI (Wm 0 1) (Wm 0 3) (menF Wm S n).1
  | 0, _ => h
  | t + 1, q => SI_man hW (SI_men hW h t (by omega)) ⟨by omega, by omega⟩
theorem SI_pas {Wm S : zv_H} (hW : WI Wm) (h : SI (Wm 0 1) (Wm 0 3) S) : SI (Wm 0 1) (Wm 0 3) (pasF Wm S).1 := by
  have w3 := hW.2.2.1
  have g := SI_men hW h (Wm 0 3).toNat (by omega)
  have b := g.1
  exact SI_wk g (by omega)
theorem SI_goo {Wm S : zv_H} (hW : WI Wm) (h : SI (Wm 0 1) (Wm 0 3) S) : ∀ n : Nat, SI (Wm 0 1) (Wm 0 3) (gooF Wm S n).1
  | 0 => h
  | t + 1 => SI_pas hW (SI_goo hW h t)
theorem met_c (Wm S : zv_H) (m : Int) : 0 ≤ (manF Wm S m).2 ∧ (manF Wm S m).2 ≤ 1 := by
  unfold manF metF
  (repeat' split) <;> (dsimp only; omega)
theorem men_c (Wm S : zv_H) : ∀ n : Nat, 0 ≤ (menF Wm S n).2 ∧ (menF Wm S n).2 ≤ n
  | 0 => ⟨Int.le_refl _, Int.le_refl _⟩
  | t + 1 => by
    have := men_c Wm S t
    have := met_c Wm (menF Wm S t).1 t
    show 0 ≤ (menF Wm S t).2 + (manF Wm (menF Wm S t).1 t).2 ∧ (menF Wm S t).2 + (manF Wm (menF Wm S t).1 t).2 ≤ ((t + 1 : Nat) : Int)
    omega
theorem goo_c {Wm S : zv_H} (hW : 0 ≤ Wm 0 3 ∧ Wm 0 3 ≤ 6) : ∀ n : Nat, 0 ≤ (gooF Wm S n).2 ∧ (gooF Wm S n).2 ≤ 6 * n
  | 0 => ⟨Int.le_refl _, Int.le_refl _⟩
  | t + 1 => by
    have := goo_c (S := S) hW t
    have := men_c Wm (gooF Wm S t).1 (Wm 0 3).toNat
    show 0 ≤ (gooF Wm S t).2 + (menF Wm (gooF Wm S t).1 (Wm 0 3).toNat).2 ∧ (gooF Wm S t).2 + (menF Wm (gooF Wm S t).1 (Wm 0 3).toNat).2 ≤ 6 * ((t + 1 : Nat) : Int)
    omega
