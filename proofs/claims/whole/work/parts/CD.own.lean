/-! own words, for the model -/
def OWNW : List Int := [109330362692729, 487301543009, 1885436275, 444350952036, 1918986604, 29807, 512802253683, 7168366, 24948, 495689625203, 457236639859, 465625113971, 1886352244, 474080961907, 483006772069, 2003133803, 6709618, 26982, 28530, 6385252, 7237492, 6384748, 7170414, 7168376]
def ownW (k : Int) : Int := OWNW.getD k.toNat 0
theorem ixF_s (f : Int → Int) (v : Int) (g : Nat) (k : Int) : ixF f v (g + 1) k = if f k = v then k else ixF f v g (k + 1) := rfl
theorem ixF_at {f : Int → Int} {v : Int} : ∀ (g : Nat) (k : Int), 0 ≤ k → ixF f v g k ≠ -1 → f (ixF f v g k) = v
  | 0, k, _, h => absurd rfl h
  | g + 1, k, hk, h => by
    rw [ixF_s] at h ⊢
    by_cases e : f k = v
    · rw [if_pos e]; exact e
    · rw [if_neg e] at h ⊢
      exact ixF_at g (k + 1) (by omega) h
theorem ixF_no {f : Int → Int} {v : Int} : ∀ (g : Nat) (k : Int), 0 ≤ k → ixF f v g k = -1 → ∀ i, k ≤ i → i < k + g → f i ≠ v
  | 0, k, _, _, i, h1_q, h2_q => by omega
  | g + 1, k, hk, h, i, h1_q, h2_q => by
    rw [ixF_s] at h
    by_cases e : f k = v
    · rw [if_pos e] at h; omega
    · rw [if_neg e] at h
      by_cases ei : i = k
      · rw [ei]; exact e
      · exact ixF_no g (k + 1) (by omega) h i (by omega) (by omega)
theorem ixF_c {f f2_q : Int → Int} {v v2_q : Int} : ∀ (g : Nat) (k : Int), (∀ i, k ≤ i → i < k + g → (f i = v ↔ f2_q i = v2_q)) → ixF f v g k = ixF f2_q v2_q g k
  | 0, _, _ => rfl
  | g + 1, k, h => by
    rw [ixF_s, ixF_s]
    by_cases e : f k = v
    · rw [if_pos e, if_pos ((h k (by omega) (by omega)).mp e)]
    · rw [if_neg e, if_neg (fun q => e ((h k (by omega) (by omega)).mpr q))]
      exact ixF_c g (k + 1) (fun i h1_q h2_q => h i (by omega) (by omega))
theorem own_d : ∀ j k : Fin 24, ownR ((j.val : Nat) : Int) = ownR ((k.val : Nat) : Int) → j = k := by decide +kernel
theorem ownI_k {v k : Int} (hk : 0 ≤ k ∧ k < 24) : ownI v = k ↔ v = ownR k := by
  unfold ownI
  constructor
  · intro h
    have q := ixF_at (f := ownR) (v := v) 24 0 (by omega) (by omega)
    rw [h] at q
    exact q.symm
  · intro h
    by_cases e : ixF ownR v 24 0 = -1
    · exact absurd h.symm (ixF_no 24 0 (by omega) e k hk.1 (by omega))
    · have q := ixF_at (f := ownR) (v := v) 24 0 (by omega) e
      have b := ixF_b (f := ownR) (v := v) 24 0 (by omega)
      have d := own_d ⟨(ixF ownR v 24 0).toNat, by omega⟩ ⟨k.toNat, by omega⟩ (by
        dsimp only
        rw [show (((ixF ownR v 24 0).toNat : Nat) : Int) = ixF ownR v 24 0 by omega, show ((k.toNat : Nat) : Int) = k by omega, q, h])
      have d2_q : (ixF ownR v 24 0).toNat = k.toNat := congrArg Fin.val d
      omega
def ltU (l : List Int) : Int → Int := fun i => l.getD i.toNat 0
def nmB (l : List Int) (v u : Int) : Bool := (decide (1 ≤ l.length) && decide (l.length ≤ 6)) && (l.all (fun c => decide (97 ≤ c) && decide (c ≤ 122)) && (decide (v = fil27 (wv27 (ltU l) 0 l.length) (6 - l.length)) && decide (u = wv256 (ltU l) 0 l.length)))
theorem nmB_R {l : List Int} {v u : Int} (h : nmB l v u = true) : nmR v u := by
  unfold nmB at h
  simp only [Bool.and_eq_true, decide_eq_true_eq, List.all_eq_true] at h
  obtain ⟨⟨h1_q, h2_q⟩, h3_q, h4_q, h5_q⟩ := h
  refine ⟨ltU l, l.length, ⟨h1_q, h2_q⟩, fun i hi => ?_, h4_q, h5_q⟩
  rw [Int.zero_add]
  have e : ltU l (i : Int) = l[i] := by
    unfold ltU
    rw [Int.toNat_natCast, List.getD_eq_getElem?_getD, List.getElem?_eq_getElem hi]
    rfl
  rw [e]
  have q := h3_q l[i] (List.getElem_mem hi)
  exact q
def OWNT : List (List Int) := [[99, 111, 117, 110, 116, 121], [113, 117, 111, 116, 97], [112, 97, 121, 115], [103, 117, 97, 114, 100], [114, 97, 105, 108], [116, 111], [119, 101, 101, 107, 115], [109, 97, 110], [97, 116], [115, 105, 103, 110, 115], [106, 117, 109, 112, 115], [108, 105, 107, 101, 115], [112, 111, 115, 116], [110, 97, 109, 101, 115], [112, 117, 114, 115, 101], [119, 101, 101, 107], [102, 97, 114], [105, 102], [111, 114], [97, 110, 100], [110, 111, 116], [97, 108, 108], [109, 105, 110], [109, 97, 120]]
theorem own_nm0 : ∀ k : Fin 24, nmB (OWNT.getD k.val []) (ownR ((k.val : Nat) : Int)) (ownW ((k.val : Nat) : Int)) = true := by decide +kernel
theorem own_nm {k : Int} (hk : 0 ≤ k ∧ k < 24) : nmR (ownR k) (ownW k) := by
  have q := own_nm0 ⟨k.toNat, by omega⟩
  dsimp only at q
  rw [show ((k.toNat : Nat) : Int) = k by omega] at q
  exact nmB_R q
theorem wv27_h {T U : Int → Int} {q : Int} (h : ∀ i : Nat, U i = T (q + i)) : ∀ j : Nat, wv27 T q j = wv27 U 0 j
  | 0 => rfl
  | j + 1 => by
    show 27 * wv27 T q j + (T (q + j) - 97 + 1) = 27 * wv27 U 0 j + (U (0 + j) - 97 + 1)
    rw [wv27_h h j, Int.zero_add, h j]
theorem wv256_h {T U : Int → Int} {q : Int} (h : ∀ i : Nat, U i = T (q + i)) : ∀ j : Nat, wv256 T q j = wv256 U 0 j
  | 0 => rfl
  | j + 1 => by
    show 256 * wv256 T q j + T (q + j) = 256 * wv256 U 0 j + U (0 + j)
    rw [wv256_h h j, Int.zero_add, h j]
theorem tok_nm {T : Int → Int} {p : Int} (h : tK T p = 1) : nmR (tNm T p) (tNw T p) := by
  have hl : 97 ≤ T (tQ T p) ∧ T (tQ T p) ≤ 122 := by
    unfold tK at h
    by_cases e1_q : T (tQ T p) = -1
    · rw [if_pos e1_q] at h; omega
    · rw [if_neg e1_q] at h
      by_cases e2_q : ¬ alnm (T (tQ T p))
      · rw [if_pos e2_q] at h; omega
      · rw [if_neg e2_q] at h
        by_cases e3_q : tS T p
        · rw [if_pos e3_q] at h; omega
        · rw [if_neg e3_q] at h
          unfold tK0 at h
          by_cases e4_q : 97 ≤ T (tQ T p) ∧ T (tQ T p) ≤ 122
          · exact e4_q
          · rw [if_neg e4_q] at h
            split at h <;> omega
  have b := run_b (lo := 97) (hi := 122) (T := T) 6 (tQ T p)
  have b1_q : 1 ≤ run 97 122 T 6 (tQ T p) := by
    rw [show run 97 122 T 6 (tQ T p) = if 97 ≤ T (tQ T p) ∧ T (tQ T p) ≤ 122 then run 97 122 T 5 (tQ T p + 1) + 1 else 0 from rfl, if_pos hl]
    omega
  refine ⟨fun i => T (tQ T p + i), run 97 122 T 6 (tQ T p), ⟨b1_q, b⟩, fun i hi => ?_, ?_, ?_⟩
  · have q := run_i (lo := 97) (hi := 122) (T := T) 6 (tQ T p) i hi
    dsimp only
    rw [Int.zero_add]
    exact q
  · unfold tNm
    rw [wv27_h (U := fun i => T (tQ T p + i)) (fun i => rfl)]
  · unfold tNw
    rw [wv256_h (U := fun i => T (tQ T p + i)) (fun i => rfl)]
/-- an own word by the model's number -/
theorem ow_w {T : Int → Int} {p k : Int} (h : tK T p = 1) (hk : 0 ≤ k ∧ k < 24) : tO T p = k ↔ tNw T p = ownW k := by
  unfold tO
  rw [if_pos h, ownI_k hk]
  exact nmR_i (tok_nm h) (own_nm hk)
theorem ow_no {T : Int → Int} {p : Int} (h : tK T p = 1) : tO T p = -1 ↔ ∀ k, 0 ≤ k → k < 24 → tNw T p ≠ ownW k := by
  constructor
  · intro e k q1_q q2_q q
    have := (ow_w h ⟨q1_q, q2_q⟩).mpr q
    omega
  · intro e
    by_cases c : tO T p = -1
    · exact c
    · exfalso
      have b : tO T p = -1 ∨ (0 ≤ tO T p ∧ tO T p < 24) := by
        unfold tO
        rw [if_pos h]
        have := ixF_b (f := ownR) (v := tNm T p) 24 0 (by omega)
        unfold ownI
        omega
      exact e _ (by omega) (by omega) ((ow_w h (k := tO T p) (by omega)).mp rfl)
theorem cy_w {T : Int → Int} {A : zv_H} {p : Int} {f : Int → Int} (hp : tK T p = 1) (hc : ∀ c, 0 ≤ c → c < A 0 1 → tK T (A 1 c) = 1) (hf : ∀ c, 0 ≤ c → c < A 0 1 → f c = tNw T (A 1 c)) : ixF f (tNw T p) (A 0 1).toNat 0 = cyI T A p := ixF_c _ 0 (fun i h1_q h2_q => by
  rw [hf i h1_q (by omega)]
  exact (nmR_i (tok_nm (hc i h1_q (by omega))) (tok_nm hp)).symm)
theorem mn_w {T : Int → Int} {A : zv_H} {p : Int} {f : Int → Int} (hp : tK T p = 1) (hc : ∀ c, 0 ≤ c → c < A 0 3 → tK T (A 5 c) = 1) (hf : ∀ c, 0 ≤ c → c < A 0 3 → f c = tNw T (A 5 c)) : ixF f (tNw T p) (A 0 3).toNat 0 = mnI T A p := ixF_c _ 0 (fun i h1_q h2_q => by
  rw [hf i h1_q (by omega)]
  exact (nmR_i (tok_nm (hc i h1_q (by omega))) (tok_nm hp)).symm)
