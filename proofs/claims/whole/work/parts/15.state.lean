/-! Math, State -/
def zB (b : Bool) : Int := if b then 1 else 0
theorem zB_r (b : Bool) : zB b = 0 ∨ zB b = 1 := by cases b <;> simp [zB]
def zknB (sg lt : Int → Int) (m c t : Int) : Nat → Bool
  | 0 => false
  | o + 1 => zknB sg lt m c t o || (decide (sg o = sg m) && decide (lt ((o : Int) * 7 + c) ≤ t))
theorem zknB_s (sg lt : Int → Int) (m c t : Int) (o : Nat) : zknB sg lt m c t (o + 1) = (zknB sg lt m c t o || (decide (sg o = sg m) && decide (lt ((o : Int) * 7 + c) ≤ t))) := rfl
theorem zknB_iff (sg lt : Int → Int) (m c t : Int) : ∀ n : Nat, zknB sg lt m c t n = true ↔ ∃ o : Nat, o < n ∧ sg o = sg m ∧ lt ((o : Int) * 7 + c) ≤ t
  | 0 => ⟨fun h => (by cases h), fun ⟨o, h, _⟩ => (by omega)⟩
  | n + 1 => by
    rw [zknB_s, Bool.or_eq_true, Bool.and_eq_true, decide_eq_true_eq, decide_eq_true_eq, zknB_iff sg lt m c t n]
    constructor
    · rintro (⟨o, h1, h2⟩ | h)
      · exact ⟨o, by omega, h2⟩
      · exact ⟨n, by omega, h⟩
    · rintro ⟨o, h1, h2⟩
      by_cases e : o = n
      · subst e; exact Or.inr h2
      · exact Or.inl ⟨o, by omega, h2⟩
def zkep (σ : zv_H) (a e : Int) : zv_H := if σ a 12 < 60 then zup (zup σ (a + 10) ((σ a 11 + σ a 12) % 60) e) a 12 (σ a 12 + 1) else zup (zup σ (a + 10) ((σ a 11 + σ a 12) % 60) e) a 11 ((σ a 11 + 1) % 60)
def zsnd (σ : zv_H) (a m c t : Int) : zv_H := if t < σ (a + 9) (m * 7 + c) then zup σ (a + 9) (m * 7 + c) t else σ
def zwtl (σ : zv_H) (a m c : Int) : Int := if σ (a + 9) (m * 7 + c) < 1000000 then max 0 (σ (a + 9) (m * 7 + c) - σ a 0) else -1
def zstt (σ : zv_H) (a w : Int) : zv_H := zup (zup (zfil (zfil (zfil (zfil (zfil (zcpy (zcpy (zcpy (zcpy (zup σ a 0 0) (w + 2) 7 (a + 1) 7) (w + 3) 7 (a + 2) 7) (w + 4) 7 (a + 3) 7) (w + 6) 6 (a + 4) 6) (a + 5) 6 0) (a + 6) 6 0) (a + 7) 6 0) (a + 8) 6 0) (a + 9) 42 1000000) a 11 0) a 12 0
def zcop (σ : zv_H) (a b : Int) : zv_H := zup (zup (zcpy (zcpy (zcpy (zcpy (zcpy (zcpy (zcpy (zcpy (zcpy (zcpy (zup σ a 0 (σ b 0)) (b + 1) 7 (a + 1) 7) (b + 2) 7 (a + 2) 7) (b + 3) 7 (a + 3) 7) (b + 4) 6 (a + 4) 6) (b + 5) 6 (a + 5) 6) (b + 6) 6 (a + 6) 6) (b + 7) 6 (a + 7) 6) (b + 8) 6 (a + 8) 6) (b + 9) 42 (a + 9) 42) (b + 10) 60 (a + 10) 60) a 11 (σ b 11)) a 12 (σ b 12)
theorem zcpy_n {σ : zv_H} {a na b nb x : Int} (h : x ≠ b) (k : Int) : zcpy σ a na b nb x k = σ x k := by unfold zcpy; rw [if_neg (fun q => h q.1)]
theorem zfil_n {σ : zv_H} {a n v x : Int} (h : x ≠ a) (k : Int) : zfil σ a n v x k = σ x k := by unfold zfil; rw [if_neg (fun q => h q.1)]
theorem st_ap {a b : Int} (ha : a ∈ stL) (hb : b ∈ stL) (h : a ≠ b) : a + 10 < b ∨ b + 10 < a := by
  simp only [stL, List.mem_cons, List.not_mem_nil, or_false] at ha hb
  omega
set_option maxHeartbeats 4000000 in
set_option maxRecDepth 20000 in
theorem c_J_maxI {Γ : zv_M} {L : Int} {p q : Int} {σ : zv_H} : zC Γ m_J_maxI 0 0 0 (GM L) [zI p, zI q] σ (zFn (some (zI (max p q))) (GM L) σ) := by
  refine zC_ofJ zm_J_maxI (by decide +kernel) rfl (Nat.le_of_ble_eq_true rfl) ?_
  generalize hQ : (zFn (some (zI (max p q))) (GM L) σ) = Q
  refine ziload_n (k := 0) rfl rfl ?_
  refine ziload_n (k := 1) rfl rfl ?_
  refine zicmp_lt (k := 2) rfl rfl (fun c1 => ?_) (fun c1 => ?_)
  · skip
    refine ziload_n (k := 5) rfl rfl ?_
    refine zireturn (k := 6) rfl rfl rfl ?_
    rw [← hQ]
    exact ⟨by first | (rw [show max p q = p by omega]; done) | (rw [show max p q = q by omega]; done), rfl, rfl⟩
  · skip
    refine ziload_n (k := 3) rfl rfl ?_
    refine zgoto (k := 4) rfl rfl ?_
    refine zireturn (k := 6) rfl rfl rfl ?_
    rw [← hQ]
    exact ⟨by first | (rw [show max p q = p by omega]; done) | (rw [show max p q = q by omega]; done), rfl, rfl⟩
set_option maxHeartbeats 4000000 in
set_option maxRecDepth 20000 in
theorem c_J_minI {Γ : zv_M} {L : Int} {p q : Int} {σ : zv_H} : zC Γ m_J_minI 0 0 0 (GM L) [zI p, zI q] σ (zFn (some (zI (min p q))) (GM L) σ) := by
  refine zC_ofJ zm_J_minI (by decide +kernel) rfl (Nat.le_of_ble_eq_true rfl) ?_
  generalize hQ : (zFn (some (zI (min p q))) (GM L) σ) = Q
  refine ziload_n (k := 0) rfl rfl ?_
  refine ziload_n (k := 1) rfl rfl ?_
  refine zicmp_gt (k := 2) rfl rfl (fun c1 => ?_) (fun c1 => ?_)
  · skip
    refine ziload_n (k := 5) rfl rfl ?_
    refine zireturn (k := 6) rfl rfl rfl ?_
    rw [← hQ]
    exact ⟨by first | (rw [show min p q = p by omega]; done) | (rw [show min p q = q by omega]; done), rfl, rfl⟩
  · skip
    refine ziload_n (k := 3) rfl rfl ?_
    refine zgoto (k := 4) rfl rfl ?_
    refine zireturn (k := 6) rfl rfl rfl ?_
    rw [← hQ]
    exact ⟨by first | (rw [show min p q = p by omega]; done) | (rw [show min p q = q by omega]; done), rfl, rfl⟩
set_option maxHeartbeats 4000000 in
set_option maxRecDepth 20000 in
theorem c_J_maxL {Γ : zv_M} {L : Int} {p q : Int} {σ : zv_H} : zC Γ m_J_maxL 0 0 0 (GM L) [zL p, zL q] σ (zFn (some (zL (max p q))) (GM L) σ) := by
  refine zC_ofJ zm_J_maxL (by decide +kernel) rfl (Nat.le_of_ble_eq_true rfl) ?_
  generalize hQ : (zFn (some (zL (max p q))) (GM L) σ) = Q
  refine zlload_n (k := 0) rfl rfl ?_
  refine zlload_n (k := 1) rfl rfl ?_
  refine zlcmp (k := 2) rfl ?_
  refine zif_lt (k := 3) rfl rfl (fun c1 => ?_) (fun c1 => ?_)
  · skip
    refine zlload_n (k := 6) rfl rfl ?_
    refine zlreturn (k := 7) rfl rfl rfl ?_
    rw [← hQ]
    unfold zcmp at *
    exact ⟨by first | (rw [show max p q = p by (repeat' split at *) <;> omega]; done) | (rw [show max p q = q by (repeat' split at *) <;> omega]; done), rfl, rfl⟩
  · skip
    refine zlload_n (k := 4) rfl rfl ?_
    refine zgoto (k := 5) rfl rfl ?_
    refine zlreturn (k := 7) rfl rfl rfl ?_
    rw [← hQ]
    unfold zcmp at *
    exact ⟨by first | (rw [show max p q = p by (repeat' split at *) <;> omega]; done) | (rw [show max p q = q by (repeat' split at *) <;> omega]; done), rfl, rfl⟩
set_option maxHeartbeats 4000000 in
set_option maxRecDepth 20000 in
theorem c_J_minL {Γ : zv_M} {L : Int} {p q : Int} {σ : zv_H} : zC Γ m_J_minL 0 0 0 (GM L) [zL p, zL q] σ (zFn (some (zL (min p q))) (GM L) σ) := by
  refine zC_ofJ zm_J_minL (by decide +kernel) rfl (Nat.le_of_ble_eq_true rfl) ?_
  generalize hQ : (zFn (some (zL (min p q))) (GM L) σ) = Q
  refine zlload_n (k := 0) rfl rfl ?_
  refine zlload_n (k := 1) rfl rfl ?_
  refine zlcmp (k := 2) rfl ?_
  refine zif_gt (k := 3) rfl rfl (fun c1 => ?_) (fun c1 => ?_)
  · skip
    refine zlload_n (k := 6) rfl rfl ?_
    refine zlreturn (k := 7) rfl rfl rfl ?_
    rw [← hQ]
    unfold zcmp at *
    exact ⟨by first | (rw [show min p q = p by (repeat' split at *) <;> omega]; done) | (rw [show min p q = q by (repeat' split at *) <;> omega]; done), rfl, rfl⟩
  · skip
    refine zlload_n (k := 4) rfl rfl ?_
    refine zgoto (k := 5) rfl rfl ?_
    refine zlreturn (k := 7) rfl rfl rfl ?_
    rw [← hQ]
    unfold zcmp at *
    exact ⟨by first | (rw [show min p q = p by (repeat' split at *) <;> omega]; done) | (rw [show min p q = q by (repeat' split at *) <;> omega]; done), rfl, rfl⟩
set_option maxHeartbeats 4000000 in
set_option maxRecDepth 20000 in
theorem c_State_weeksToLetter {Γ : zv_M} {L : Int} {a m c : Int} {σ : zv_H} (ha : a ∈ stL) (hm : 0 ≤ m ∧ m < 6) (hc : 0 ≤ c ∧ c < 7) (h0 : 0 ≤ σ a 0 ∧ σ a 0 ≤ 999) (hl : 0 ≤ σ (a + 9) (m * 7 + c)) : zC Γ m_State_weeksToLetter 1 0 0 (GM L) [zR a, zI m, zI c] σ (zFn (some (zI (zwtl σ a m c))) (GM L) σ) := by
  refine zC_of zm_State_weeksToLetter (by decide) rfl (Nat.le_of_ble_eq_true rfl) ?_
  generalize hQ : (zFn (some (zI (zwtl σ a m c))) (GM L) σ) = Q
  refine zaload_n (k := 0) rfl rfl ?_
  refine zgF 9 (k := 1) rfl (st_ob ha) fl_8_36 rfl (st_fx_9 ha) ?_
  refine ziload_n (k := 2) rfl rfl ?_
  refine zbipush (k := 3) rfl rfl ?_
  refine zimulB (k := 4) rfl (by omega) ?_
  refine ziload_n (k := 5) rfl rfl ?_
  refine ziaddB (k := 6) rfl (by omega) ?_
  refine zfS1 (k := 7) rfl (c_NT_at (st_ar_9 ha)) fm_NT_at lk_8_69 rfl rfl (Nat.le_of_ble_eq_true rfl) (by decide) ⟨by decide, by decide⟩ ?_
  (first | rw [zat_in (by omega)] | skip)
  refine zistore_n (k := 8) rfl (Nat.le_of_ble_eq_true rfl) rfl ?_
  refine ziload_n (k := 9) rfl rfl ?_
  refine zldc (k := 10) (z := 1000000) rfl kc_8_62 rfl ?_
  refine zicmp_ge (k := 11) rfl rfl (fun c1 => ?_) (fun c1 => ?_)
  · skip
    refine ziconst (k := 19) rfl (by decide) ?_
    refine zireturn (k := 20) rfl rfl rfl ?_
    rw [← hQ]
    exact ⟨by unfold zwtl; first | (rw [if_pos (by omega)]; done) | (rw [if_neg (by omega)]; done), rfl, rfl⟩
  · skip
    refine ziconst (k := 12) rfl (by decide) ?_
    refine ziload_n (k := 13) rfl rfl ?_
    refine zaload_n (k := 14) rfl rfl ?_
    refine zgI 0 (k := 15) rfl (st_ob ha) fl_8_42 rfl (st_fx_0 ha) ?_
    refine zisubB (k := 16) rfl (by omega) ?_
    refine zfS1 (k := 17) rfl c_J_maxI fm_J_maxI lk_8_73 rfl rfl (Nat.le_of_ble_eq_true rfl) (by decide) ⟨by decide, by decide⟩ ?_
    refine zgoto (k := 18) rfl rfl ?_
    refine zireturn (k := 20) rfl rfl rfl ?_
    rw [← hQ]
    exact ⟨by unfold zwtl; first | (rw [if_pos (by omega)]; done) | (rw [if_neg (by omega)]; done), rfl, rfl⟩
set_option maxHeartbeats 4000000 in
set_option maxRecDepth 20000 in
theorem c_State_send {Γ : zv_M} {L : Int} {a m c t : Int} {σ : zv_H} (ha : a ∈ stL) (hm : 0 ≤ m ∧ m < 6) (hc : 0 ≤ c ∧ c < 7) : zC Γ m_State_send 1 0 0 (GM L) [zR a, zI m, zI c, zI t] σ (zFn none (GM L) (zsnd σ a m c t)) := by
  refine zC_of zm_State_send (by decide) rfl (Nat.le_of_ble_eq_true rfl) ?_
  generalize hQ : (zFn none (GM L) (zsnd σ a m c t)) = Q
  refine ziload_n (k := 0) rfl rfl ?_
  refine zaload_n (k := 1) rfl rfl ?_
  refine zgF 9 (k := 2) rfl (st_ob ha) fl_8_36 rfl (st_fx_9 ha) ?_
  refine ziload_n (k := 3) rfl rfl ?_
  refine zbipush (k := 4) rfl rfl ?_
  refine zimulB (k := 5) rfl (by omega) ?_
  refine ziload_n (k := 6) rfl rfl ?_
  refine ziaddB (k := 7) rfl (by omega) ?_
  refine zfS1 (k := 8) rfl (c_NT_at (st_ar_9 ha)) fm_NT_at lk_8_69 rfl rfl (Nat.le_of_ble_eq_true rfl) (by decide) ⟨by decide, by decide⟩ ?_
  (first | rw [zat_in (by omega)] | skip)
  refine zicmp_ge (k := 9) rfl rfl (fun c1 => ?_) (fun c1 => ?_)
  · skip
    refine zreturn (k := 19) rfl rfl rfl ?_
    rw [← hQ]
    exact ⟨rfl, rfl, by unfold zsnd; first | (rw [if_pos (by omega)]; done) | (rw [if_neg (by omega)]; done)⟩
  · skip
    refine zaload_n (k := 10) rfl rfl ?_
    refine zgF 9 (k := 11) rfl (st_ob ha) fl_8_36 rfl (st_fx_9 ha) ?_
    refine ziload_n (k := 12) rfl rfl ?_
    refine zbipush (k := 13) rfl rfl ?_
    refine zimulB (k := 14) rfl (by omega) ?_
    refine ziload_n (k := 15) rfl rfl ?_
    refine ziaddB (k := 16) rfl (by omega) ?_
    refine ziload_n (k := 17) rfl rfl ?_
    refine zfS0 (k := 18) rfl (c_NT_put (st_ar_9 ha) (by have := st_pos ha; omega)) fm_NT_put lk_8_79 rfl rfl (Nat.le_of_ble_eq_true rfl) (by decide) ⟨by decide, by decide⟩ ?_
    (first | rw [zpt_in (by omega)] | skip)
    refine zreturn (k := 19) rfl rfl rfl ?_
    rw [← hQ]
    exact ⟨rfl, rfl, by unfold zsnd; first | (rw [if_pos (by omega)]; done) | (rw [if_neg (by omega)]; done)⟩
set_option maxHeartbeats 4000000 in
set_option maxRecDepth 20000 in
theorem c_State_isKnown {Γ : zv_M} {L : Int} {a w m c t : Int} {σ : zv_H} (ha : a ∈ stL) (hw : w ∈ wrL) (N : Nat) (hN : σ w 3 = N) (hN6 : N ≤ 6) (hm : 0 ≤ m ∧ m < 6) (hc : 0 ≤ c ∧ c < 7) : zC Γ m_State_isKnown 1 0 0 (GM L) [zR a, zR w, zI m, zI c, zI t] σ (zFn (some (zI (zB (zknB (σ (w + 7)) (σ (a + 9)) m c t N)))) (GM L) σ) := by
  refine zC_of zm_State_isKnown (by decide) rfl (Nat.le_of_ble_eq_true rfl) ?_
  generalize hQ : (zFn (some (zI (zB (zknB (σ (w + 7)) (σ (a + 9)) m c t N)))) (GM L) σ) = Q
  refine ziconst (k := 0) rfl (by decide) ?_
  refine zistore (k := 1) rfl (Nat.le_of_ble_eq_true rfl) rfl ?_
  have lp3 : ∀ (g : Nat) (j : Nat), (N - j) < g → (j ≤ N) → (zknB (σ (w + 7)) (σ (a + 9)) m c t j = false) → zV Γ m_State_isKnown 1 0 0 Q (GM L) (0, 0) 3 [some (zR a), some (zR w), some (zI m), some (zI c), some (zI t), some (zI j), none] [] σ := by
    intro g
    induction g with
    | zero => intro j hg; exact absurd hg (Nat.not_lt_zero _)
    | succ g ih3 =>
      intro j hg hj hf
      refine ziload (k := 2) rfl rfl ?_
      refine zaload_n (k := 3) rfl rfl ?_
      refine zgI 3 (k := 4) rfl (wr_ob hw) fl_8_83 rfl (wr_fx_3 hw) ?_
      refine zicmp_ge (k := 5) rfl rfl (fun c1 => ?_) (fun c1 => ?_)
      · skip
        refine ziconst (k := 35) rfl (by decide) ?_
        refine zzreturn (k := 36) rfl rfl (by first | exact Or.inl rfl | exact Or.inr rfl | omega) rfl ?_
        rw [← hQ]
        have e : zknB (σ (w + 7)) (σ (a + 9)) m c t N = false := by rw [show N = j by omega]; exact hf
        exact ⟨by rw [e]; rfl, rfl, rfl⟩
      · skip
        refine zaload_n (k := 6) rfl rfl ?_
        refine zgF 11 (k := 7) rfl (wr_ob hw) fl_8_86 rfl (wr_fx_11 hw) ?_
        refine ziload (k := 8) rfl rfl ?_
        refine zfS1 (k := 9) rfl (c_NT_at (wr_ar_7 hw)) fm_NT_at lk_8_69 rfl rfl (Nat.le_of_ble_eq_true rfl) (by decide) ⟨by decide, by decide⟩ ?_
        (first | rw [zat_in (by omega)] | skip)
        refine zaload_n (k := 10) rfl rfl ?_
        refine zgF 11 (k := 11) rfl (wr_ob hw) fl_8_86 rfl (wr_fx_11 hw) ?_
        refine ziload_n (k := 12) rfl rfl ?_
        refine zfS1 (k := 13) rfl (c_NT_at (wr_ar_7 hw)) fm_NT_at lk_8_69 rfl rfl (Nat.le_of_ble_eq_true rfl) (by decide) ⟨by decide, by decide⟩ ?_
        (first | rw [zat_in (by omega)] | skip)
        refine zicmp_ne (k := 14) rfl rfl (fun c2 => ?_) (fun c2 => ?_)
        · skip
          refine ziconst (k := 17) rfl (by decide) ?_
          refine zistore (k := 18) rfl (Nat.le_of_ble_eq_true rfl) rfl ?_
          refine ziload (k := 19) rfl rfl ?_
          refine zif_eq (k := 20) rfl rfl (fun c3 => ?_) (fun c3 => ?_)
          · skip
            refine ziincB (k := 33) rfl rfl (by decide) (by omega) rfl ?_
            refine zgoto (k := 34) rfl rfl ?_
            refine zforget 6 rfl ?_
            refine ih3 (j + 1) (by omega) (by omega) ?_
            rw [zknB_s, hf]
            simp
            first | omega | (intro q; omega)
          · exact absurd c3 (by omega)
        · skip
          refine ziconst (k := 15) rfl (by decide) ?_
          refine zgoto (k := 16) rfl rfl ?_
          refine zistore (k := 18) rfl (Nat.le_of_ble_eq_true rfl) rfl ?_
          refine ziload (k := 19) rfl rfl ?_
          refine zif_eq (k := 20) rfl rfl (fun c4 => ?_) (fun c4 => ?_)
          · exact absurd c4 (by omega)
          refine zaload_n (k := 21) rfl rfl ?_
          refine zgF 9 (k := 22) rfl (st_ob ha) fl_8_36 rfl (st_fx_9 ha) ?_
          refine ziload (k := 23) rfl rfl ?_
          refine zbipush (k := 24) rfl rfl ?_
          refine zimulB (k := 25) rfl (by omega) ?_
          refine ziload_n (k := 26) rfl rfl ?_
          refine ziaddB (k := 27) rfl (by omega) ?_
          refine zfS1 (k := 28) rfl (c_NT_at (st_ar_9 ha)) fm_NT_at lk_8_69 rfl rfl (Nat.le_of_ble_eq_true rfl) (by decide) ⟨by decide, by decide⟩ ?_
          (first | rw [zat_in (by omega)] | skip)
          refine ziload (k := 29) rfl rfl ?_
          refine zicmp_gt (k := 30) rfl rfl (fun c5 => ?_) (fun c5 => ?_)
          · skip
            refine ziincB (k := 33) rfl rfl (by decide) (by omega) rfl ?_
            refine zgoto (k := 34) rfl rfl ?_
            refine zforget 6 rfl ?_
            refine ih3 (j + 1) (by omega) (by omega) ?_
            rw [zknB_s, hf]
            simp
            first | omega | (intro q; omega)
          · skip
            refine ziconst (k := 31) rfl (by decide) ?_
            refine zzreturn (k := 32) rfl rfl (by first | exact Or.inl rfl | exact Or.inr rfl | omega) rfl ?_
            rw [← hQ]
            have e : zknB (σ (w + 7)) (σ (a + 9)) m c t N = true := (zknB_iff _ _ _ _ _ _).mpr ⟨j, by omega, by omega, by omega⟩
            exact ⟨by rw [e]; rfl, rfl, rfl⟩
  exact lp3 _ 0 (Nat.lt_succ_self _) (by omega) rfl
set_option maxHeartbeats 4000000 in
set_option maxRecDepth 20000 in
theorem c_State_keep {Γ : zv_M} {L : Int} {a m c t : Int} {σ : zv_H} (ha : a ∈ stL) (hm : 0 ≤ m ∧ m < 6) (hc : 0 ≤ c ∧ c < 7) (ht : 0 ≤ t ∧ t ≤ 9) (h0 : 0 ≤ σ a 0 ∧ σ a 0 ≤ 999) (h1 : 0 ≤ σ a 11 ∧ σ a 11 < 60) (h2 : 0 ≤ σ a 12 ∧ σ a 12 ≤ 60) : zC Γ m_State_keep 1 0 0 (GM L) [zR a, zI m, zI c, zI t] σ (zFn none (GM L) (zkep σ a (((σ a 0 * 10 + m) * 10 + c) * 10 + t))) := by
  refine zC_of zm_State_keep (by decide) rfl (Nat.le_of_ble_eq_true rfl) ?_
  generalize hQ : (zFn none (GM L) (zkep σ a (((σ a 0 * 10 + m) * 10 + c) * 10 + t))) = Q
  refine zaload_n (k := 0) rfl rfl ?_
  refine zgI 0 (k := 1) rfl (st_ob ha) fl_8_42 rfl (st_fx_0 ha) ?_
  refine zbipush (k := 2) rfl rfl ?_
  refine zimulB (k := 3) rfl (by omega) ?_
  refine ziload_n (k := 4) rfl rfl ?_
  refine ziaddB (k := 5) rfl (by omega) ?_
  refine zbipush (k := 6) rfl rfl ?_
  refine zimulB (k := 7) rfl (by omega) ?_
  refine ziload_n (k := 8) rfl rfl ?_
  refine ziaddB (k := 9) rfl (by omega) ?_
  refine zbipush (k := 10) rfl rfl ?_
  refine zimulB (k := 11) rfl (by omega) ?_
  refine ziload_n (k := 12) rfl rfl ?_
  refine ziaddB (k := 13) rfl (by omega) ?_
  refine zistore (k := 14) rfl (Nat.le_of_ble_eq_true rfl) rfl ?_
  refine zaload_n (k := 15) rfl rfl ?_
  refine zgF 10 (k := 16) rfl (st_ob ha) fl_8_39 rfl (st_fx_10 ha) ?_
  refine zaload_n (k := 17) rfl rfl ?_
  refine zgI 11 (k := 18) rfl (st_ob ha) fl_8_63 rfl (st_fx_11 ha) ?_
  refine zaload_n (k := 19) rfl rfl ?_
  refine zgI 12 (k := 20) rfl (st_ob ha) fl_8_66 rfl (st_fx_12 ha) ?_
  refine ziaddB (k := 21) rfl (by omega) ?_
  refine zbipush (k := 22) rfl rfl ?_
  refine ziremP (k := 23) rfl (by omega) ?_
  refine ziload (k := 24) rfl rfl ?_
  refine zfS0 (k := 25) rfl (c_NT_put (st_ar_10 ha) (by have := st_pos ha; omega)) fm_NT_put lk_8_79 rfl rfl (Nat.le_of_ble_eq_true rfl) (by decide) ⟨by decide, by decide⟩ ?_
  (first | rw [zpt_in (by omega)] | skip)
  refine zaload_n (k := 26) rfl rfl ?_
  refine zgI 12 (k := 27) rfl (st_ob ha) fl_8_66 rfl (st_fx_12 ha) ?_
  rw [zup_n (by omega)]
  refine zbipush (k := 28) rfl rfl ?_
  refine zicmp_ge (k := 29) rfl rfl (fun c1 => ?_) (fun c1 => ?_)
  · skip
    refine zaload_n (k := 37) rfl rfl ?_
    refine zaload_n (k := 38) rfl rfl ?_
    refine zgI 11 (k := 39) rfl (st_ob ha) fl_8_63 rfl (st_fx_11 ha) ?_
    refine ziconst (k := 40) rfl (by decide) ?_
    rw [zup_n (by omega)]
    refine ziaddB (k := 41) rfl (by omega) ?_
    refine zbipush (k := 42) rfl rfl ?_
    refine ziremP (k := 43) rfl (by omega) ?_
    refine zpI 11 (k := 44) rfl (st_ob ha) fl_8_63 ⟨_, rfl, rfl⟩ rfl (st_pos ha) rfl (st_fx_11 ha) ?_
    refine zreturn (k := 45) rfl rfl rfl ?_
    rw [← hQ]
    exact ⟨rfl, rfl, by unfold zkep; first | (rw [if_pos (by omega)]; done) | (rw [if_neg (by omega)]; done)⟩
  · skip
    refine zaload_n (k := 30) rfl rfl ?_
    refine zdup (k := 31) rfl rfl ?_
    refine zgI 12 (k := 32) rfl (st_ob ha) fl_8_66 rfl (st_fx_12 ha) ?_
    refine ziconst (k := 33) rfl (by decide) ?_
    rw [zup_n (by omega)]
    refine ziaddB (k := 34) rfl (by omega) ?_
    refine zpI 12 (k := 35) rfl (st_ob ha) fl_8_66 ⟨_, rfl, rfl⟩ rfl (st_pos ha) rfl (st_fx_12 ha) ?_
    refine zgoto (k := 36) rfl rfl ?_
    refine zreturn (k := 45) rfl rfl rfl ?_
    rw [← hQ]
    exact ⟨rfl, rfl, by unfold zkep; first | (rw [if_pos (by omega)]; done) | (rw [if_neg (by omega)]; done)⟩
set_option maxHeartbeats 4000000 in
set_option maxRecDepth 20000 in
theorem c_State_tellKept {Γ : zv_M} {L : Int} {a k t : Int} {σ : zv_H} (ha : a ∈ stL) (hk : 0 ≤ k ∧ k < 60) (h1 : 0 ≤ σ a 11 ∧ σ a 11 < 60) (he : 0 ≤ σ (a + 10) ((σ a 11 + k) % 60)) : zC Γ m_State_tellKept 1 0 0 (GM L) [zR a, zI k, zI t] σ (zFn (some (zI (if t = 0 then σ (a + 10) ((σ a 11 + k) % 60) / 1000 else if t = 1 then σ (a + 10) ((σ a 11 + k) % 60) / 100 % 10 else if t = 2 then σ (a + 10) ((σ a 11 + k) % 60) / 10 % 10 else if t = 3 then σ (a + 10) ((σ a 11 + k) % 60) % 10 else -1))) (GM L) σ) := by
  refine zC_of zm_State_tellKept (by decide) rfl (Nat.le_of_ble_eq_true rfl) ?_
  generalize hQ : (zFn (some (zI (if t = 0 then σ (a + 10) ((σ a 11 + k) % 60) / 1000 else if t = 1 then σ (a + 10) ((σ a 11 + k) % 60) / 100 % 10 else if t = 2 then σ (a + 10) ((σ a 11 + k) % 60) / 10 % 10 else if t = 3 then σ (a + 10) ((σ a 11 + k) % 60) % 10 else -1))) (GM L) σ) = Q
  refine zaload_n (k := 0) rfl rfl ?_
  refine zgF 10 (k := 1) rfl (st_ob ha) fl_8_39 rfl (st_fx_10 ha) ?_
  refine zaload_n (k := 2) rfl rfl ?_
  refine zgI 11 (k := 3) rfl (st_ob ha) fl_8_63 rfl (st_fx_11 ha) ?_
  refine ziload_n (k := 4) rfl rfl ?_
  refine ziaddB (k := 5) rfl (by omega) ?_
  refine zbipush (k := 6) rfl rfl ?_
  refine ziremP (k := 7) rfl (by omega) ?_
  refine zfS1 (k := 8) rfl (c_NT_at (st_ar_10 ha)) fm_NT_at lk_8_69 rfl rfl (Nat.le_of_ble_eq_true rfl) (by decide) ⟨by decide, by decide⟩ ?_
  (first | rw [zat_in (by omega)] | skip)
  refine zistore_n (k := 9) rfl (Nat.le_of_ble_eq_true rfl) rfl ?_
  refine zrng_loc (i := 3) rfl (fun hr => ?_)
  refine ziload_n (k := 10) rfl rfl ?_
  refine ztabC (k := 11) (v := 0) 0 rfl rfl (by decide) rfl rfl (fun c1 => ?_) (fun c1 => ?_)
  · skip
    refine ziload_n (k := 12) rfl rfl ?_
    refine zsipush (k := 13) rfl rfl ?_
    refine zidivP (k := 14) rfl (by omega) ?_
    refine zireturn (k := 15) rfl rfl rfl ?_
    rw [← hQ]
    exact ⟨by first | (rw [if_pos (by omega)]; done) | (rw [if_neg (by omega), if_pos (by omega)]; done) | (rw [if_neg (by omega), if_neg (by omega), if_pos (by omega)]; done) | (rw [if_neg (by omega), if_neg (by omega), if_neg (by omega), if_pos (by omega)]; done) | (rw [if_neg (by omega), if_neg (by omega), if_neg (by omega), if_neg (by omega)]; done), rfl, rfl⟩
  refine ztabC (k := 11) (v := 1) 1 rfl rfl (by decide) rfl rfl (fun c2 => ?_) (fun c2 => ?_)
  · skip
    refine ziload_n (k := 16) rfl rfl ?_
    refine zbipush (k := 17) rfl rfl ?_
    refine zidivP (k := 18) rfl (by omega) ?_
    refine zbipush (k := 19) rfl rfl ?_
    refine ziremP (k := 20) rfl (by omega) ?_
    refine zireturn (k := 21) rfl rfl rfl ?_
    rw [← hQ]
    exact ⟨by first | (rw [if_pos (by omega)]; done) | (rw [if_neg (by omega), if_pos (by omega)]; done) | (rw [if_neg (by omega), if_neg (by omega), if_pos (by omega)]; done) | (rw [if_neg (by omega), if_neg (by omega), if_neg (by omega), if_pos (by omega)]; done) | (rw [if_neg (by omega), if_neg (by omega), if_neg (by omega), if_neg (by omega)]; done), rfl, rfl⟩
  refine ztabC (k := 11) (v := 2) 2 rfl rfl (by decide) rfl rfl (fun c3 => ?_) (fun c3 => ?_)
  · skip
    refine ziload_n (k := 22) rfl rfl ?_
    refine zbipush (k := 23) rfl rfl ?_
    refine zidivP (k := 24) rfl (by omega) ?_
    refine zbipush (k := 25) rfl rfl ?_
    refine ziremP (k := 26) rfl (by omega) ?_
    refine zireturn (k := 27) rfl rfl rfl ?_
    rw [← hQ]
    exact ⟨by first | (rw [if_pos (by omega)]; done) | (rw [if_neg (by omega), if_pos (by omega)]; done) | (rw [if_neg (by omega), if_neg (by omega), if_pos (by omega)]; done) | (rw [if_neg (by omega), if_neg (by omega), if_neg (by omega), if_pos (by omega)]; done) | (rw [if_neg (by omega), if_neg (by omega), if_neg (by omega), if_neg (by omega)]; done), rfl, rfl⟩
  refine ztabC (k := 11) (v := 3) 3 rfl rfl (by decide) rfl rfl (fun c4 => ?_) (fun c4 => ?_)
  · skip
    refine ziload_n (k := 28) rfl rfl ?_
    refine zbipush (k := 29) rfl rfl ?_
    refine ziremP (k := 30) rfl (by omega) ?_
    refine zireturn (k := 31) rfl rfl rfl ?_
    rw [← hQ]
    exact ⟨by first | (rw [if_pos (by omega)]; done) | (rw [if_neg (by omega), if_pos (by omega)]; done) | (rw [if_neg (by omega), if_neg (by omega), if_pos (by omega)]; done) | (rw [if_neg (by omega), if_neg (by omega), if_neg (by omega), if_pos (by omega)]; done) | (rw [if_neg (by omega), if_neg (by omega), if_neg (by omega), if_neg (by omega)]; done), rfl, rfl⟩
  refine ztabOut (k := 11) rfl (by omega) rfl ?_
  refine ziconst (k := 32) rfl (by decide) ?_
  refine zireturn (k := 33) rfl rfl rfl ?_
  rw [← hQ]
  exact ⟨by first | (rw [if_pos (by omega)]; done) | (rw [if_neg (by omega), if_pos (by omega)]; done) | (rw [if_neg (by omega), if_neg (by omega), if_pos (by omega)]; done) | (rw [if_neg (by omega), if_neg (by omega), if_neg (by omega), if_pos (by omega)]; done) | (rw [if_neg (by omega), if_neg (by omega), if_neg (by omega), if_neg (by omega)]; done), rfl, rfl⟩
set_option maxHeartbeats 4000000 in
set_option maxRecDepth 20000 in
theorem c_State_start {Γ : zv_M} {L : Int} {a w : Int} {σ : zv_H} (ha : a ∈ stL) (hw : w ∈ wrL) : zC Γ m_State_start 1 0 0 (GM L) [zR a, zR w] σ (zFn none (GM L) (zstt σ a w)) := by
  refine zC_of zm_State_start (by decide) rfl (Nat.le_of_ble_eq_true rfl) ?_
  generalize hQ : (zFn none (GM L) (zstt σ a w)) = Q
  refine zaload_n (k := 0) rfl rfl ?_
  refine ziconst (k := 1) rfl (by decide) ?_
  refine zpI 0 (k := 2) rfl (st_ob ha) fl_8_42 ⟨_, rfl, rfl⟩ rfl (st_pos ha) rfl (st_fx_0 ha) ?_
  refine zaload_n (k := 3) rfl rfl ?_
  refine zgF 6 (k := 4) rfl (wr_ob hw) fl_8_46 rfl (wr_fx_6 hw) ?_
  refine zaload_n (k := 5) rfl rfl ?_
  refine zgF 1 (k := 6) rfl (st_ob ha) fl_8_9 rfl (st_fx_1 ha) ?_
  refine zfS0 (k := 7) rfl (c_NT_copyRow (wr_ar_2 hw) (st_ar_1 ha) (by have := st_pos ha; omega) (by omega) (by omega)) fm_NT_copyRow lk_8_49 rfl rfl (Nat.le_of_ble_eq_true rfl) (by decide) ⟨by decide, by decide⟩ ?_
  refine zaload_n (k := 8) rfl rfl ?_
  refine zgF 7 (k := 9) rfl (wr_ob hw) fl_8_53 rfl (wr_fx_7 hw) ?_
  refine zaload_n (k := 10) rfl rfl ?_
  refine zgF 2 (k := 11) rfl (st_ob ha) fl_8_15 rfl (st_fx_2 ha) ?_
  refine zfS0 (k := 12) rfl (c_NT_copyRow (wr_ar_3 hw) (st_ar_2 ha) (by have := st_pos ha; omega) (by omega) (by omega)) fm_NT_copyRow lk_8_49 rfl rfl (Nat.le_of_ble_eq_true rfl) (by decide) ⟨by decide, by decide⟩ ?_
  refine zaload_n (k := 13) rfl rfl ?_
  refine zgF 8 (k := 14) rfl (wr_ob hw) fl_8_54 rfl (wr_fx_8 hw) ?_
  refine zaload_n (k := 15) rfl rfl ?_
  refine zgF 3 (k := 16) rfl (st_ob ha) fl_8_18 rfl (st_fx_3 ha) ?_
  refine zfS0 (k := 17) rfl (c_NT_copyRow (wr_ar_4 hw) (st_ar_3 ha) (by have := st_pos ha; omega) (by omega) (by omega)) fm_NT_copyRow lk_8_49 rfl rfl (Nat.le_of_ble_eq_true rfl) (by decide) ⟨by decide, by decide⟩ ?_
  refine zaload_n (k := 18) rfl rfl ?_
  refine zgF 10 (k := 19) rfl (wr_ob hw) fl_8_55 rfl (wr_fx_10 hw) ?_
  refine zaload_n (k := 20) rfl rfl ?_
  refine zgF 4 (k := 21) rfl (st_ob ha) fl_8_21 rfl (st_fx_4 ha) ?_
  refine zfS0 (k := 22) rfl (c_NT_copyRow (wr_ar_6 hw) (st_ar_4 ha) (by have := st_pos ha; omega) (by omega) (by omega)) fm_NT_copyRow lk_8_49 rfl rfl (Nat.le_of_ble_eq_true rfl) (by decide) ⟨by decide, by decide⟩ ?_
  refine zaload_n (k := 23) rfl rfl ?_
  refine zgF 5 (k := 24) rfl (st_ob ha) fl_8_24 rfl (st_fx_5 ha) ?_
  refine ziconst (k := 25) rfl (by decide) ?_
  refine zfS0 (k := 26) rfl (c_NT_fillRow (st_ar_5 ha) (by have := st_pos ha; omega) (by omega)) fm_NT_fillRow lk_8_58 rfl rfl (Nat.le_of_ble_eq_true rfl) (by decide) ⟨by decide, by decide⟩ ?_
  refine zaload_n (k := 27) rfl rfl ?_
  refine zgF 6 (k := 28) rfl (st_ob ha) fl_8_27 rfl (st_fx_6 ha) ?_
  refine ziconst (k := 29) rfl (by decide) ?_
  refine zfS0 (k := 30) rfl (c_NT_fillRow (st_ar_6 ha) (by have := st_pos ha; omega) (by omega)) fm_NT_fillRow lk_8_58 rfl rfl (Nat.le_of_ble_eq_true rfl) (by decide) ⟨by decide, by decide⟩ ?_
  refine zaload_n (k := 31) rfl rfl ?_
  refine zgF 7 (k := 32) rfl (st_ob ha) fl_8_30 rfl (st_fx_7 ha) ?_
  refine ziconst (k := 33) rfl (by decide) ?_
  refine zfS0 (k := 34) rfl (c_NT_fillRow (st_ar_7 ha) (by have := st_pos ha; omega) (by omega)) fm_NT_fillRow lk_8_58 rfl rfl (Nat.le_of_ble_eq_true rfl) (by decide) ⟨by decide, by decide⟩ ?_
  refine zaload_n (k := 35) rfl rfl ?_
  refine zgF 8 (k := 36) rfl (st_ob ha) fl_8_33 rfl (st_fx_8 ha) ?_
  refine ziconst (k := 37) rfl (by decide) ?_
  refine zfS0 (k := 38) rfl (c_NT_fillRow (st_ar_8 ha) (by have := st_pos ha; omega) (by omega)) fm_NT_fillRow lk_8_58 rfl rfl (Nat.le_of_ble_eq_true rfl) (by decide) ⟨by decide, by decide⟩ ?_
  refine zaload_n (k := 39) rfl rfl ?_
  refine zgF 9 (k := 40) rfl (st_ob ha) fl_8_36 rfl (st_fx_9 ha) ?_
  refine zldc (k := 41) (z := 1000000) rfl kc_8_62 rfl ?_
  refine zfS0 (k := 42) rfl (c_NT_fillRow (st_ar_9 ha) (by have := st_pos ha; omega) (by omega)) fm_NT_fillRow lk_8_58 rfl rfl (Nat.le_of_ble_eq_true rfl) (by decide) ⟨by decide, by decide⟩ ?_
  refine zaload_n (k := 43) rfl rfl ?_
  refine ziconst (k := 44) rfl (by decide) ?_
  refine zpI 11 (k := 45) rfl (st_ob ha) fl_8_63 ⟨_, rfl, rfl⟩ rfl (st_pos ha) rfl (st_fx_11 ha) ?_
  refine zaload_n (k := 46) rfl rfl ?_
  refine ziconst (k := 47) rfl (by decide) ?_
  refine zpI 12 (k := 48) rfl (st_ob ha) fl_8_66 ⟨_, rfl, rfl⟩ rfl (st_pos ha) rfl (st_fx_12 ha) ?_
  refine zreturn (k := 49) rfl rfl rfl ?_
  rw [← hQ]
  exact ⟨rfl, rfl, rfl⟩
set_option maxHeartbeats 4000000 in
set_option maxRecDepth 20000 in
theorem c_State_copy {Γ : zv_M} {L : Int} {a b : Int} {σ : zv_H} (ha : a ∈ stL) (hb : b ∈ stL) (hab : a ≠ b) : zC Γ m_State_copy 1 0 0 (GM L) [zR a, zR b] σ (zFn none (GM L) (zcop σ a b)) := by
  refine zC_of zm_State_copy (by decide) rfl (Nat.le_of_ble_eq_true rfl) ?_
  generalize hQ : (zFn none (GM L) (zcop σ a b)) = Q
  have hap := st_ap ha hb hab
  refine zaload_n (k := 0) rfl rfl ?_
  refine zaload_n (k := 1) rfl rfl ?_
  refine zgI 0 (k := 2) rfl (st_ob hb) fl_8_42 rfl (st_fx_0 hb) ?_
  refine zpI 0 (k := 3) rfl (st_ob ha) fl_8_42 ⟨_, rfl, rfl⟩ rfl (st_pos ha) rfl (st_fx_0 ha) ?_
  refine zaload_n (k := 4) rfl rfl ?_
  refine zgF 1 (k := 5) rfl (st_ob hb) fl_8_9 rfl (st_fx_1 hb) ?_
  refine zaload_n (k := 6) rfl rfl ?_
  refine zgF 1 (k := 7) rfl (st_ob ha) fl_8_9 rfl (st_fx_1 ha) ?_
  refine zfS0 (k := 8) rfl (c_NT_copyRow (st_ar_1 hb) (st_ar_1 ha) (by have := st_pos ha; omega) (by omega) (by omega)) fm_NT_copyRow lk_8_49 rfl rfl (Nat.le_of_ble_eq_true rfl) (by decide) ⟨by decide, by decide⟩ ?_
  refine zaload_n (k := 9) rfl rfl ?_
  refine zgF 2 (k := 10) rfl (st_ob hb) fl_8_15 rfl (st_fx_2 hb) ?_
  refine zaload_n (k := 11) rfl rfl ?_
  refine zgF 2 (k := 12) rfl (st_ob ha) fl_8_15 rfl (st_fx_2 ha) ?_
  refine zfS0 (k := 13) rfl (c_NT_copyRow (st_ar_2 hb) (st_ar_2 ha) (by have := st_pos ha; omega) (by omega) (by omega)) fm_NT_copyRow lk_8_49 rfl rfl (Nat.le_of_ble_eq_true rfl) (by decide) ⟨by decide, by decide⟩ ?_
  refine zaload_n (k := 14) rfl rfl ?_
  refine zgF 3 (k := 15) rfl (st_ob hb) fl_8_18 rfl (st_fx_3 hb) ?_
  refine zaload_n (k := 16) rfl rfl ?_
  refine zgF 3 (k := 17) rfl (st_ob ha) fl_8_18 rfl (st_fx_3 ha) ?_
  refine zfS0 (k := 18) rfl (c_NT_copyRow (st_ar_3 hb) (st_ar_3 ha) (by have := st_pos ha; omega) (by omega) (by omega)) fm_NT_copyRow lk_8_49 rfl rfl (Nat.le_of_ble_eq_true rfl) (by decide) ⟨by decide, by decide⟩ ?_
  refine zaload_n (k := 19) rfl rfl ?_
  refine zgF 4 (k := 20) rfl (st_ob hb) fl_8_21 rfl (st_fx_4 hb) ?_
  refine zaload_n (k := 21) rfl rfl ?_
  refine zgF 4 (k := 22) rfl (st_ob ha) fl_8_21 rfl (st_fx_4 ha) ?_
  refine zfS0 (k := 23) rfl (c_NT_copyRow (st_ar_4 hb) (st_ar_4 ha) (by have := st_pos ha; omega) (by omega) (by omega)) fm_NT_copyRow lk_8_49 rfl rfl (Nat.le_of_ble_eq_true rfl) (by decide) ⟨by decide, by decide⟩ ?_
  refine zaload_n (k := 24) rfl rfl ?_
  refine zgF 5 (k := 25) rfl (st_ob hb) fl_8_24 rfl (st_fx_5 hb) ?_
  refine zaload_n (k := 26) rfl rfl ?_
  refine zgF 5 (k := 27) rfl (st_ob ha) fl_8_24 rfl (st_fx_5 ha) ?_
  refine zfS0 (k := 28) rfl (c_NT_copyRow (st_ar_5 hb) (st_ar_5 ha) (by have := st_pos ha; omega) (by omega) (by omega)) fm_NT_copyRow lk_8_49 rfl rfl (Nat.le_of_ble_eq_true rfl) (by decide) ⟨by decide, by decide⟩ ?_
  refine zaload_n (k := 29) rfl rfl ?_
  refine zgF 6 (k := 30) rfl (st_ob hb) fl_8_27 rfl (st_fx_6 hb) ?_
  refine zaload_n (k := 31) rfl rfl ?_
  refine zgF 6 (k := 32) rfl (st_ob ha) fl_8_27 rfl (st_fx_6 ha) ?_
  refine zfS0 (k := 33) rfl (c_NT_copyRow (st_ar_6 hb) (st_ar_6 ha) (by have := st_pos ha; omega) (by omega) (by omega)) fm_NT_copyRow lk_8_49 rfl rfl (Nat.le_of_ble_eq_true rfl) (by decide) ⟨by decide, by decide⟩ ?_
  refine zaload_n (k := 34) rfl rfl ?_
  refine zgF 7 (k := 35) rfl (st_ob hb) fl_8_30 rfl (st_fx_7 hb) ?_
  refine zaload_n (k := 36) rfl rfl ?_
  refine zgF 7 (k := 37) rfl (st_ob ha) fl_8_30 rfl (st_fx_7 ha) ?_
  refine zfS0 (k := 38) rfl (c_NT_copyRow (st_ar_7 hb) (st_ar_7 ha) (by have := st_pos ha; omega) (by omega) (by omega)) fm_NT_copyRow lk_8_49 rfl rfl (Nat.le_of_ble_eq_true rfl) (by decide) ⟨by decide, by decide⟩ ?_
  refine zaload_n (k := 39) rfl rfl ?_
  refine zgF 8 (k := 40) rfl (st_ob hb) fl_8_33 rfl (st_fx_8 hb) ?_
  refine zaload_n (k := 41) rfl rfl ?_
  refine zgF 8 (k := 42) rfl (st_ob ha) fl_8_33 rfl (st_fx_8 ha) ?_
  refine zfS0 (k := 43) rfl (c_NT_copyRow (st_ar_8 hb) (st_ar_8 ha) (by have := st_pos ha; omega) (by omega) (by omega)) fm_NT_copyRow lk_8_49 rfl rfl (Nat.le_of_ble_eq_true rfl) (by decide) ⟨by decide, by decide⟩ ?_
  refine zaload_n (k := 44) rfl rfl ?_
  refine zgF 9 (k := 45) rfl (st_ob hb) fl_8_36 rfl (st_fx_9 hb) ?_
  refine zaload_n (k := 46) rfl rfl ?_
  refine zgF 9 (k := 47) rfl (st_ob ha) fl_8_36 rfl (st_fx_9 ha) ?_
  refine zfS0 (k := 48) rfl (c_NT_copyRow (st_ar_9 hb) (st_ar_9 ha) (by have := st_pos ha; omega) (by omega) (by omega)) fm_NT_copyRow lk_8_49 rfl rfl (Nat.le_of_ble_eq_true rfl) (by decide) ⟨by decide, by decide⟩ ?_
  refine zaload_n (k := 49) rfl rfl ?_
  refine zgF 10 (k := 50) rfl (st_ob hb) fl_8_39 rfl (st_fx_10 hb) ?_
  refine zaload_n (k := 51) rfl rfl ?_
  refine zgF 10 (k := 52) rfl (st_ob ha) fl_8_39 rfl (st_fx_10 ha) ?_
  refine zfS0 (k := 53) rfl (c_NT_copyRow (st_ar_10 hb) (st_ar_10 ha) (by have := st_pos ha; omega) (by omega) (by omega)) fm_NT_copyRow lk_8_49 rfl rfl (Nat.le_of_ble_eq_true rfl) (by decide) ⟨by decide, by decide⟩ ?_
  refine zaload_n (k := 54) rfl rfl ?_
  refine zaload_n (k := 55) rfl rfl ?_
  refine zgI 11 (k := 56) rfl (st_ob hb) fl_8_63 rfl (st_fx_11 hb) ?_
  rw [zcpy_n (by omega), zcpy_n (by omega), zcpy_n (by omega), zcpy_n (by omega), zcpy_n (by omega), zcpy_n (by omega), zcpy_n (by omega), zcpy_n (by omega), zcpy_n (by omega), zcpy_n (by omega), zup_n (by omega)]
  refine zpI 11 (k := 57) rfl (st_ob ha) fl_8_63 ⟨_, rfl, rfl⟩ rfl (st_pos ha) rfl (st_fx_11 ha) ?_
  refine zaload_n (k := 58) rfl rfl ?_
  refine zaload_n (k := 59) rfl rfl ?_
  refine zgI 12 (k := 60) rfl (st_ob hb) fl_8_66 rfl (st_fx_12 hb) ?_
  rw [zup_n (by omega), zcpy_n (by omega), zcpy_n (by omega), zcpy_n (by omega), zcpy_n (by omega), zcpy_n (by omega), zcpy_n (by omega), zcpy_n (by omega), zcpy_n (by omega), zcpy_n (by omega), zcpy_n (by omega), zup_n (by omega)]
  refine zpI 12 (k := 61) rfl (st_ob ha) fl_8_66 ⟨_, rfl, rfl⟩ rfl (st_pos ha) rfl (st_fx_12 ha) ?_
  refine zreturn (k := 62) rfl rfl rfl ?_
  rw [← hQ]
  exact ⟨rfl, rfl, rfl⟩
