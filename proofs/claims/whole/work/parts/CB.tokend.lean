theorem tS_q {T : Int → Int} {n p : Int} (h : TT T n) (hp : 0 ≤ p ∧ p ≤ n) : (0 < tQ T p ∧ alnm (T (tQ T p - 1))) ↔ tS T p := by
  have sb := skp_b (T := T) 1600 p
  rw [show skp T 1600 p = tQ T p from rfl] at sb
  unfold tS alnm
  constructor
  · rintro ⟨h1_q, h2_q⟩
    by_cases e : tQ T p = p
    · rw [e] at h2_q; exact ⟨h2_q, e⟩
    · exfalso
      have q := skp_i (T := T) 1600 p (tQ T p - 1) (by omega) (by show tQ T p - 1 < tQ T p; omega)
      omega
  · rintro ⟨h1_q, h2_q⟩
    rw [h2_q]
    refine ⟨?_, h1_q⟩
    by_cases e : 0 < p
    · exact e
    · exfalso
      have q := h.2.2 (p - 1) (by omega)
      omega
theorem MSc_w {T : Int → Int} {σ0 σ1 : zv_H} {n p x : Int} {j : Nat} (hT : TT T n) (hQ : tQ T p < n) (h0_q : 0 ≤ tQ T p) (hj1_q : 1 ≤ j) (hc : ∀ i : Nat, i < j → 97 ≤ T (tQ T p + i) ∧ T (tQ T p + i) ≤ 122) (he : ¬ (97 ≤ T (tQ T p + j) ∧ T (tQ T p + j) ≤ 122)) (hx : (x = tQ T p ∧ alnm (T (tQ T p)) ∧ tS T p) ∨ (x = -1 ∧ ¬ (alnm (T (tQ T p)) ∧ tS T p))) (h : aF T σ0 σ1 (tQ T p) 1 x j j j) : MSc (zup σ1 289 5 (tQ T p + j)) T p := by
  obtain ⟨a1_q, a2_q, a3_q, a4_q, a5_q, a6_q⟩ := h
  have c0_q := hc 0 (by omega)
  rw [show tQ T p + ((0 : Nat) : Int) = tQ T p by omega] at c0_q
  have al : alnm (T (tQ T p)) := Or.inl c0_q
  have r7_q : run 97 122 T 7 (tQ T p) = min j 7 := by
    by_cases e : j ≤ 7
    · rw [Nat.min_eq_left e]; exact run_u 7 _ j e hc (Or.inr he)
    · rw [Nat.min_eq_right (by omega)]; exact run_u 7 _ 7 (by omega) (fun i hi => hc i (by omega)) (Or.inl rfl)
  have r6_q : run 97 122 T 6 (tQ T p) = min j 6 := by
    by_cases e : j ≤ 6
    · rw [Nat.min_eq_left e]; exact run_u 6 _ j e hc (Or.inr he)
    · rw [Nat.min_eq_right (by omega)]; exact run_u 6 _ 6 (by omega) (fun i hi => hc i (by omega)) (Or.inl rfl)
  have kkA : tS T p → tK T p = 4 := fun s => by
    unfold tK
    rw [if_neg (by omega), if_neg (fun q => q al), if_pos s]
  have kkB : ¬ tS T p → tK T p = if 7 ≤ j then 4 else 1 := fun s => by
    unfold tK
    rw [if_neg (by omega), if_neg (fun q => q al), if_neg s]
    unfold tK0
    rw [if_pos c0_q, r7_q]
    by_cases e : 7 ≤ j
    · rw [if_pos e, if_pos (by omega)]
    · rw [if_neg e, if_neg (by omega)]
  rw [if_pos rfl] at a3_q a5_q a6_q
  rw [if_pos rfl] at a4_q
  refine ⟨by rw [zup_n (by omega)]; exact a2_q, fun k4_q => ?_, fun k4_q => ?_, fun k3_q => ?_, fun k2_q => ?_, fun k1_q => ?_⟩
  · refine ⟨?_, by rw [zup_n (by omega), a3_q]; decide⟩
    rw [zup_n (by omega), a4_q]
    unfold tP
    by_cases s : tS T p
    · have ex : x = tQ T p := by
        rcases hx with q | q
        · exact q.1
        · exact absurd ⟨al, s⟩ q.2
      rw [if_pos ex, if_neg (fun q => q.2 s)]
    · have ex : x = -1 := by
        rcases hx with q | q
        · exact absurd q.2.2 s
        · exact q.1
      have kk := kkB s
      have j7_q : 7 ≤ j := by
        by_cases e : 7 ≤ j
        · exact e
        · rw [if_neg e] at kk; omega
      rw [if_neg (by omega), if_pos (by omega), if_pos ⟨k4_q, s⟩, if_pos c0_q]
  · have s : ¬ tS T p := fun s => k4_q (kkA s)
    have kk := kkB s
    have j7_q : ¬ 7 ≤ j := fun e => by rw [if_pos e] at kk; exact k4_q kk
    rw [if_neg j7_q] at kk
    have ex : x = -1 := by
      rcases hx with q | q
      · exact absurd q.2.2 s
      · exact q.1
    refine ⟨?_, by rw [zup_n (by omega), a3_q, kk], ?_⟩
    · rw [zup_n (by omega), a4_q, if_neg (by omega), if_neg (by omega)]
    · rw [zup_s]
      unfold tN
      rw [if_neg (by omega), if_neg (by omega), if_pos c0_q, r6_q, Nat.min_eq_left (by omega)]
  · exfalso
    by_cases s : tS T p
    · have kk := kkA s; omega
    · have kk := kkB s; omega
  · exfalso
    by_cases s : tS T p
    · have kk := kkA s; omega
    · have kk := kkB s; omega
  · refine ⟨by rw [zup_n (by omega)]; exact a6_q, ?_⟩
    rw [zup_n (by omega), a5_q]
    unfold tNw
    rw [r6_q]
theorem MSc_d {T : Int → Int} {σ0 σ1 : zv_H} {n p x : Int} {j : Nat} (hT : TT T n) (hQ : tQ T p < n) (h0_q : 0 ≤ tQ T p) (hj1_q : 1 ≤ j) (hc : ∀ i : Nat, i < j → 48 ≤ T (tQ T p + i) ∧ T (tQ T p + i) ≤ 57) (he : ¬ (48 ≤ T (tQ T p + j) ∧ T (tQ T p + j) ≤ 57)) (hx : (x = tQ T p ∧ alnm (T (tQ T p)) ∧ tS T p) ∨ (x = -1 ∧ ¬ (alnm (T (tQ T p)) ∧ tS T p))) (h : aF T σ0 σ1 (tQ T p) 0 x j j j) : MSc (zup σ1 289 5 (tQ T p + j)) T p := by
  obtain ⟨a1_q, a2_q, a3_q, a4_q, a5_q, a6_q⟩ := h
  have c0_q := hc 0 (by omega)
  rw [show tQ T p + ((0 : Nat) : Int) = tQ T p by omega] at c0_q
  have al : alnm (T (tQ T p)) := Or.inr c0_q
  have nl : ¬ (97 ≤ T (tQ T p) ∧ T (tQ T p) ≤ 122) := by omega
  have r5_q : run 48 57 T 5 (tQ T p) = min j 5 := by
    by_cases e : j ≤ 5
    · rw [Nat.min_eq_left e]; exact run_u 5 _ j e hc (Or.inr he)
    · rw [Nat.min_eq_right (by omega)]; exact run_u 5 _ 5 (by omega) (fun i hi => hc i (by omega)) (Or.inl rfl)
  have r4_q : run 48 57 T 4 (tQ T p) = min j 4 := by
    by_cases e : j ≤ 4
    · rw [Nat.min_eq_left e]; exact run_u 4 _ j e hc (Or.inr he)
    · rw [Nat.min_eq_right (by omega)]; exact run_u 4 _ 4 (by omega) (fun i hi => hc i (by omega)) (Or.inl rfl)
  have kkA : tS T p → tK T p = 4 := fun s => by
    unfold tK
    rw [if_neg (by omega), if_neg (fun q => q al), if_pos s]
  have kkB : ¬ tS T p → tK T p = if 5 ≤ j then 4 else 2 := fun s => by
    unfold tK
    rw [if_neg (by omega), if_neg (fun q => q al), if_neg s]
    unfold tK0
    rw [if_neg nl, r5_q]
    by_cases e : 5 ≤ j
    · rw [if_pos e, if_pos (by omega)]
    · rw [if_neg e, if_neg (by omega)]
  rw [if_neg (by omega)] at a3_q a5_q a6_q
  rw [if_neg (c := (0 : Int) = 1) (by omega)] at a4_q
  refine ⟨by rw [zup_n (by omega)]; exact a2_q, fun k4_q => ?_, fun k4_q => ?_, fun k3_q => ?_, fun k2_q => ?_, fun k1_q => ?_⟩
  · refine ⟨?_, by rw [zup_n (by omega), a3_q]; decide⟩
    rw [zup_n (by omega), a4_q]
    unfold tP
    by_cases s : tS T p
    · have ex : x = tQ T p := by
        rcases hx with q | q
        · exact q.1
        · exact absurd ⟨al, s⟩ q.2
      rw [if_pos ex, if_neg (fun q => q.2 s)]
    · have ex : x = -1 := by
        rcases hx with q | q
        · exact absurd q.2.2 s
        · exact q.1
      have kk := kkB s
      have j7_q : 5 ≤ j := by
        by_cases e : 5 ≤ j
        · exact e
        · rw [if_neg e] at kk; omega
      rw [if_neg (by omega), if_pos (by omega), if_pos ⟨k4_q, s⟩, if_neg nl]
  · have s : ¬ tS T p := fun s => k4_q (kkA s)
    have kk := kkB s
    have j7_q : ¬ 5 ≤ j := fun e => by rw [if_pos e] at kk; exact k4_q kk
    rw [if_neg j7_q] at kk
    have ex : x = -1 := by
      rcases hx with q | q
      · exact absurd q.2.2 s
      · exact q.1
    refine ⟨?_, by rw [zup_n (by omega), a3_q, kk], ?_⟩
    · rw [zup_n (by omega), a4_q, if_neg (by omega), if_neg (by omega)]
    · rw [zup_s]
      unfold tN
      rw [if_neg (by omega), if_neg (by omega), if_neg nl, r4_q, Nat.min_eq_left (by omega)]
  · exfalso
    by_cases s : tS T p
    · have kk := kkA s; omega
    · have kk := kkB s; omega
  · rw [zup_n (by omega), a6_q]
    unfold tNv
    rw [r4_q]
  · exfalso
    by_cases s : tS T p
    · have kk := kkA s; omega
    · have kk := kkB s; omega
