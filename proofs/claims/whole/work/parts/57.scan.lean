/-! the scanner, told by tokens -/
theorem tK_r (T : Int → Int) (p : Int) : 0 ≤ tK T p ∧ tK T p ≤ 4 := by
  unfold tK tK0
  (repeat' split) <;> omega
theorem tK_c {T : Int → Int} {p : Int} (h : tK T p = 1 ∨ tK T p = 2 ∨ tK T p = 3) : T (tQ T p) ≠ -1 ∧ (tK T p = 3 ↔ ¬ alnm (T (tQ T p))) := by
  by_cases h1 : T (tQ T p) = -1
  · rw [tK_0 h1] at h; omega
  · refine ⟨h1, ?_⟩
    by_cases h2 : alnm (T (tQ T p))
    · by_cases h3 : tS T p
      · rw [tK_4 h1 h2 h3] at h; omega
      · rw [tK_k h1 h2 h3]
        unfold tK0
        constructor
        · intro q; (repeat' split at q) <;> omega
        · intro q; exact absurd h2 q
    · exact ⟨fun _ => h2, fun _ => tK_3 h1 h2⟩
theorem run_1 {lo hi : Int} {T : Int → Int} {g : Nat} {q : Int} (h : lo ≤ T q ∧ T q ≤ hi) (hg : 1 ≤ g) : 1 ≤ run lo hi T g q := by
  obtain ⟨k, rfl⟩ : ∃ k, g = k + 1 := ⟨g - 1, by omega⟩
  rw [show run lo hi T (k + 1) q = if lo ≤ T q ∧ T q ≤ hi then run lo hi T k (q + 1) + 1 else 0 from rfl, if_pos h]
  omega
/-- behind a token: further on, and within the text; what stands last tells whether a blank is needed -/
theorem tN_b {T : Int → Int} {n : Int} (hn : TT T n) {p : Int} (hp : 0 ≤ p ∧ p ≤ n) (h : tK T p = 1 ∨ tK T p = 2 ∨ tK T p = 3) : p < tN T p ∧ tQ T p < tN T p ∧ tN T p ≤ n ∧ ((tK T p = 1 ∨ tK T p = 2) ↔ ((97 ≤ T (tN T p - 1) ∧ T (tN T p - 1) ≤ 122) ∨ (48 ≤ T (tN T p - 1) ∧ T (tN T p - 1) ≤ 57))) := by
  have qb := tQ_b hn hp
  have hc := tK_c h
  have hq : tQ T p < n := by
    by_cases e : tQ T p < n
    · exact e
    · exact absurd (hn.2.2 (tQ T p) (by omega)) hc.1
  by_cases h3 : tK T p = 3
  · have e : tN T p = tQ T p + 1 := by unfold tN; rw [if_neg (by omega), if_pos h3]
    have ha := hc.2.mp h3
    unfold alnm at ha
    rw [e, show tQ T p + 1 - 1 = tQ T p by omega]
    refine ⟨by omega, by omega, by omega, ?_⟩
    omega
  · have ha : alnm (T (tQ T p)) := Classical.byContradiction (fun q => h3 (hc.2.mpr q))
    have key : ∀ (lo hi : Int) (g : Nat), lo ≤ T (tQ T p) ∧ T (tQ T p) ≤ hi → 1 ≤ g → 0 ≤ lo → 1 ≤ run lo hi T g (tQ T p) ∧ tQ T p + (run lo hi T g (tQ T p) : Int) ≤ n ∧ lo ≤ T (tQ T p + (run lo hi T g (tQ T p) : Int) - 1) ∧ T (tQ T p + (run lo hi T g (tQ T p) : Int) - 1) ≤ hi := by
      intro lo hi g hx hg hlo
      have r1 := run_1 hx hg
      have ri := run_i (lo := lo) (hi := hi) (T := T) g (tQ T p) (run lo hi T g (tQ T p) - 1) (by omega)
      rw [show tQ T p + ((run lo hi T g (tQ T p) - 1 : Nat) : Int) = tQ T p + (run lo hi T g (tQ T p) : Int) - 1 by omega] at ri
      refine ⟨r1, ?_, ri⟩
      by_cases e : tQ T p + (run lo hi T g (tQ T p) : Int) ≤ n
      · exact e
      · have := hn.2.2 (tQ T p + (run lo hi T g (tQ T p) : Int) - 1) (by omega)
        omega
    have hnS : ¬ tS T p := fun q => by
      have := tK_4 hc.1 ha q
      omega
    have ek := tK_k hc.1 ha hnS
    unfold tK0 at ek
    by_cases hl : 97 ≤ T (tQ T p) ∧ T (tQ T p) ≤ 122
    · have e : tN T p = tQ T p + (run 97 122 T 6 (tQ T p) : Int) := by unfold tN; rw [if_neg (by omega), if_neg h3, if_pos hl]
      have k := key 97 122 6 hl (by omega) (by omega)
      rw [e]
      refine ⟨by omega, by omega, k.2.1, ?_⟩
      omega
    · have hd : 48 ≤ T (tQ T p) ∧ T (tQ T p) ≤ 57 := by
        unfold alnm at ha
        omega
      have e : tN T p = tQ T p + (run 48 57 T 4 (tQ T p) : Int) := by unfold tN; rw [if_neg (by omega), if_neg h3, if_neg hl]
      have k := key 48 57 4 hd (by omega) (by omega)
      rw [e]
      refine ⟨by omega, by omega, k.2.1, ?_⟩
      omega
theorem k_adv {Γ : zv_M} {L : Int} {σ : zv_H} {T : Int → Int} {n p : Int} (hT : tA σ = T) (hl : σ 2 1 = n) (hn0 : TT T n) (hp : 0 ≤ p ∧ p ≤ n) (h : SCp σ T p) (hk : tK T p = 1 ∨ tK T p = 2 ∨ tK T p = 3) (ho : ∀ k, 0 ≤ k → k < 24 → σ 54 k = ownR k) : zC Γ m_Scanner_advance 2 0 0 (GM L) [zR 53] σ (zP0 (GM L) (fun σ' => SCp σ' T (tN T p) ∧ ∀ x k, x ≠ 53 → σ' x k = σ x k)) := by
  have b := tN_b hn0 hp hk
  have e := h.2.1
  exact c_Scanner_advance hT hl hn0 (h.1 (by omega)) ⟨by omega, b.2.2.1⟩ (by rw [e]; exact b.2.2.2) ho
set_option maxHeartbeats 4000000 in
set_option maxRecDepth 20000 in
theorem c_Scanner_start {Γ : zv_M} {L : Int} {σ : zv_H} {T : Int → Int} {n : Int} (hT : tA σ = T) (hl : σ 2 1 = n) (hn0 : TT T n) (ho : ∀ k, 0 ≤ k → k < 24 → σ 54 k = ownR k) : zC Γ m_Scanner_start 3 0 0 (GM L) [zR 53] σ (zP0 (GM L) (fun σ' => SCp σ' T 0 ∧ ∀ x k, x ≠ 53 → σ' x k = σ x k)) := by
  refine zC_of (ls0 := [_]) zm_Scanner_start (by decide) rfl (Nat.le_of_ble_eq_true rfl) ?_
  generalize hQ : (zP0 (GM L) (fun σ' => SCp σ' T 0 ∧ ∀ x k, x ≠ 53 → σ' x k = σ x k)) = Q
  refine zaload_n (k := 0) rfl rfl ?_
  refine ziconst (k := 1) rfl (by decide) ?_
  refine zpI 2 (k := 2) rfl ob_53 fl_7_43 ⟨_, rfl, rfl⟩ rfl (by omega) rfl fx_53_2 ?_
  refine zaload_n (k := 3) rfl rfl ?_
  refine ziconst (k := 4) rfl (by decide) ?_
  refine zpI 3 (k := 5) rfl ob_53 fl_7_47 ⟨_, rfl, rfl⟩ rfl (by omega) rfl fx_53_3 ?_
  refine zaload_n (k := 6) rfl rfl ?_
  refine zpV0 (k := 7) rfl (c_Scanner_advance (T := T) (n := n) (p := 0) (by simp only [tA_53]; exact hT) (by simp only [up_53]; exact hl) hn0 (by simp [zup]) ⟨by omega, hn0.1.1⟩ ⟨fun q => by rw [zup_s] at q; omega, fun q => by have := hn0.2.2 (0 - 1) (by omega); omega⟩ (fun k h1 h2 => by rw [zup_n (by omega), zup_n (by omega)]; exact ho k h1 h2)) fm_Scanner_advance lk_7_50 rfl rfl ob_53 ⟨_, rfl, rfl⟩ (Nat.le_of_ble_eq_true rfl) (by decide) ⟨by decide, by decide⟩ (fun σ2 h2 => ?_)
  refine zreturn (k := 8) rfl rfl rfl ?_
  rw [← hQ]
  exact ⟨rfl, rfl, h2.1, fun x k hx => by rw [h2.2 x k hx, zup_n (by omega), zup_n (by omega)]⟩
abbrev isSg (T : Int → Int) (p c : Int) : Prop := tK T p = 3 ∧ T (tQ T p) = c
abbrev isOw (T : Int → Int) (p c : Int) : Prop := tK T p = 1 ∧ tO T p = c
set_option maxHeartbeats 4000000 in
set_option maxRecDepth 20000 in
theorem c_Scanner_isOwnWord {Γ : zv_M} {L : Int} {σ : zv_H} {T : Int → Int} {p c : Int} (h : SCp σ T p) : zC Γ m_Scanner_isOwnWord 0 0 0 (GM L) [zR 53, zI c] σ (zPI (GM L) (fun z σ' => σ' = σ ∧ ((z = 1 ∧ isOw T p c) ∨ (z = 0 ∧ ¬ isOw T p c)))) := by
  refine zC_of (ls0 := [_, _]) zm_Scanner_isOwnWord (by decide) rfl (Nat.le_of_ble_eq_true rfl) ?_
  generalize hQ : (zPI (GM L) (fun z σ' => σ' = σ ∧ ((z = 1 ∧ isOw T p c) ∨ (z = 0 ∧ ¬ isOw T p c)))) = Q
  obtain ⟨h1, h2, h3, h4, h5, h6, h7, h8⟩ := h
  refine zaload_n (k := 0) rfl rfl ?_
  refine zgI 3 (k := 1) rfl ob_53 fl_7_47 rfl fx_53_3 ?_
  rw [h2]
  refine ziconst (k := 2) rfl (by decide) ?_
  refine zicmp_ne (k := 3) rfl rfl (fun c1 => ?_) (fun c1 => ?_)
  · skip
    refine ziconst (k := 10) rfl (by decide) ?_
    refine zzreturn (k := 11) rfl rfl (by first | exact Or.inl rfl | exact Or.inr rfl | omega) rfl ?_
    rw [← hQ]
    unfold isOw
    first
    | exact ⟨rfl, _, rfl, rfl, Or.inl ⟨rfl, by assumption, by assumption⟩⟩
    | exact ⟨rfl, _, rfl, rfl, Or.inr ⟨rfl, fun q => absurd q.1 (by assumption)⟩⟩
    | exact ⟨rfl, _, rfl, rfl, Or.inr ⟨rfl, fun q => absurd q.2 (by assumption)⟩⟩
  · skip
    refine zaload_n (k := 4) rfl rfl ?_
    refine zgI 6 (k := 5) rfl ob_53 fl_7_69 rfl fx_53_6 ?_
    rw [h5]
    refine ziload_n (k := 6) rfl rfl ?_
    refine zicmp_ne (k := 7) rfl rfl (fun c2 => ?_) (fun c2 => ?_)
    · skip
      refine ziconst (k := 10) rfl (by decide) ?_
      refine zzreturn (k := 11) rfl rfl (by first | exact Or.inl rfl | exact Or.inr rfl | omega) rfl ?_
      rw [← hQ]
      unfold isOw
      first
      | exact ⟨rfl, _, rfl, rfl, Or.inl ⟨rfl, by assumption, by assumption⟩⟩
      | exact ⟨rfl, _, rfl, rfl, Or.inr ⟨rfl, fun q => absurd q.1 (by assumption)⟩⟩
      | exact ⟨rfl, _, rfl, rfl, Or.inr ⟨rfl, fun q => absurd q.2 (by assumption)⟩⟩
    · skip
      refine ziconst (k := 8) rfl (by decide) ?_
      refine zgoto (k := 9) rfl rfl ?_
      refine zzreturn (k := 11) rfl rfl (by first | exact Or.inl rfl | exact Or.inr rfl | omega) rfl ?_
      rw [← hQ]
      unfold isOw
      first
      | exact ⟨rfl, _, rfl, rfl, Or.inl ⟨rfl, by assumption, by assumption⟩⟩
      | exact ⟨rfl, _, rfl, rfl, Or.inr ⟨rfl, fun q => absurd q.1 (by assumption)⟩⟩
      | exact ⟨rfl, _, rfl, rfl, Or.inr ⟨rfl, fun q => absurd q.2 (by assumption)⟩⟩
set_option maxHeartbeats 4000000 in
set_option maxRecDepth 20000 in
theorem c_Scanner_isSign {Γ : zv_M} {L : Int} {σ : zv_H} {T : Int → Int} {p c : Int} (h : SCp σ T p) : zC Γ m_Scanner_isSign 0 0 0 (GM L) [zR 53, zI c] σ (zPI (GM L) (fun z σ' => σ' = σ ∧ ((z = 1 ∧ isSg T p c) ∨ (z = 0 ∧ ¬ isSg T p c)))) := by
  refine zC_of (ls0 := [_, _]) zm_Scanner_isSign (by decide) rfl (Nat.le_of_ble_eq_true rfl) ?_
  generalize hQ : (zPI (GM L) (fun z σ' => σ' = σ ∧ ((z = 1 ∧ isSg T p c) ∨ (z = 0 ∧ ¬ isSg T p c)))) = Q
  obtain ⟨h1, h2, h3, h4, h5, h6, h7, h8⟩ := h
  refine zaload_n (k := 0) rfl rfl ?_
  refine zgI 3 (k := 1) rfl ob_53 fl_7_47 rfl fx_53_3 ?_
  rw [h2]
  refine ziconst (k := 2) rfl (by decide) ?_
  refine zicmp_ne (k := 3) rfl rfl (fun c1 => ?_) (fun c1 => ?_)
  · skip
    refine ziconst (k := 10) rfl (by decide) ?_
    refine zzreturn (k := 11) rfl rfl (by first | exact Or.inl rfl | exact Or.inr rfl | omega) rfl ?_
    rw [← hQ]
    unfold isSg
    first
    | exact ⟨rfl, _, rfl, rfl, Or.inl ⟨rfl, by assumption, by assumption⟩⟩
    | exact ⟨rfl, _, rfl, rfl, Or.inr ⟨rfl, fun q => absurd q.1 (by assumption)⟩⟩
    | exact ⟨rfl, _, rfl, rfl, Or.inr ⟨rfl, fun q => absurd q.2 (by assumption)⟩⟩
  · skip
    refine zaload_n (k := 4) rfl rfl ?_
    refine zgI 8 (k := 5) rfl ob_53 fl_7_72 rfl fx_53_8 ?_
    rw [h8 (by assumption)]
    refine ziload_n (k := 6) rfl rfl ?_
    refine zicmp_ne (k := 7) rfl rfl (fun c2 => ?_) (fun c2 => ?_)
    · skip
      refine ziconst (k := 10) rfl (by decide) ?_
      refine zzreturn (k := 11) rfl rfl (by first | exact Or.inl rfl | exact Or.inr rfl | omega) rfl ?_
      rw [← hQ]
      unfold isSg
      first
      | exact ⟨rfl, _, rfl, rfl, Or.inl ⟨rfl, by assumption, by assumption⟩⟩
      | exact ⟨rfl, _, rfl, rfl, Or.inr ⟨rfl, fun q => absurd q.1 (by assumption)⟩⟩
      | exact ⟨rfl, _, rfl, rfl, Or.inr ⟨rfl, fun q => absurd q.2 (by assumption)⟩⟩
    · skip
      refine ziconst (k := 8) rfl (by decide) ?_
      refine zgoto (k := 9) rfl rfl ?_
      refine zzreturn (k := 11) rfl rfl (by first | exact Or.inl rfl | exact Or.inr rfl | omega) rfl ?_
      rw [← hQ]
      unfold isSg
      first
      | exact ⟨rfl, _, rfl, rfl, Or.inl ⟨rfl, by assumption, by assumption⟩⟩
      | exact ⟨rfl, _, rfl, rfl, Or.inr ⟨rfl, fun q => absurd q.1 (by assumption)⟩⟩
      | exact ⟨rfl, _, rfl, rfl, Or.inr ⟨rfl, fun q => absurd q.2 (by assumption)⟩⟩
set_option maxHeartbeats 4000000 in
set_option maxRecDepth 20000 in
theorem c_Scanner_isName {Γ : zv_M} {L : Int} {σ : zv_H} {T : Int → Int} {p : Int} (h : SCp σ T p) : zC Γ m_Scanner_isName 0 0 0 (GM L) [zR 53] σ (zPI (GM L) (fun z σ' => σ' = σ ∧ ((z = 1 ∧ isOw T p (-1)) ∨ (z = 0 ∧ ¬ isOw T p (-1))))) := by
  refine zC_of (ls0 := [_]) zm_Scanner_isName (by decide) rfl (Nat.le_of_ble_eq_true rfl) ?_
  generalize hQ : (zPI (GM L) (fun z σ' => σ' = σ ∧ ((z = 1 ∧ isOw T p (-1)) ∨ (z = 0 ∧ ¬ isOw T p (-1))))) = Q
  obtain ⟨h1, h2, h3, h4, h5, h6, h7, h8⟩ := h
  refine zaload_n (k := 0) rfl rfl ?_
  refine zgI 3 (k := 1) rfl ob_53 fl_7_47 rfl fx_53_3 ?_
  rw [h2]
  refine ziconst (k := 2) rfl (by decide) ?_
  refine zicmp_ne (k := 3) rfl rfl (fun c1 => ?_) (fun c1 => ?_)
  · skip
    refine ziconst (k := 10) rfl (by decide) ?_
    refine zzreturn (k := 11) rfl rfl (by first | exact Or.inl rfl | exact Or.inr rfl | omega) rfl ?_
    rw [← hQ]
    unfold isOw
    first
    | exact ⟨rfl, _, rfl, rfl, Or.inl ⟨rfl, by assumption, by assumption⟩⟩
    | exact ⟨rfl, _, rfl, rfl, Or.inr ⟨rfl, fun q => absurd q.1 (by assumption)⟩⟩
    | exact ⟨rfl, _, rfl, rfl, Or.inr ⟨rfl, fun q => absurd q.2 (by assumption)⟩⟩
  · skip
    refine zaload_n (k := 4) rfl rfl ?_
    refine zgI 6 (k := 5) rfl ob_53 fl_7_69 rfl fx_53_6 ?_
    rw [h5]
    refine ziconst (k := 6) rfl (by decide) ?_
    refine zicmp_ne (k := 7) rfl rfl (fun c2 => ?_) (fun c2 => ?_)
    · skip
      refine ziconst (k := 10) rfl (by decide) ?_
      refine zzreturn (k := 11) rfl rfl (by first | exact Or.inl rfl | exact Or.inr rfl | omega) rfl ?_
      rw [← hQ]
      unfold isOw
      first
      | exact ⟨rfl, _, rfl, rfl, Or.inl ⟨rfl, by assumption, by assumption⟩⟩
      | exact ⟨rfl, _, rfl, rfl, Or.inr ⟨rfl, fun q => absurd q.1 (by assumption)⟩⟩
      | exact ⟨rfl, _, rfl, rfl, Or.inr ⟨rfl, fun q => absurd q.2 (by assumption)⟩⟩
    · skip
      refine ziconst (k := 8) rfl (by decide) ?_
      refine zgoto (k := 9) rfl rfl ?_
      refine zzreturn (k := 11) rfl rfl (by first | exact Or.inl rfl | exact Or.inr rfl | omega) rfl ?_
      rw [← hQ]
      unfold isOw
      first
      | exact ⟨rfl, _, rfl, rfl, Or.inl ⟨rfl, by assumption, by assumption⟩⟩
      | exact ⟨rfl, _, rfl, rfl, Or.inr ⟨rfl, fun q => absurd q.1 (by assumption)⟩⟩
      | exact ⟨rfl, _, rfl, rfl, Or.inr ⟨rfl, fun q => absurd q.2 (by assumption)⟩⟩
