/-! what was read, cell by cell -/
theorem sum_c {nc m : Int} : 2 + 4 * nc + (6 + nc) * m = pM nc m := by
  unfold pM
  rw [Int.mul_comm (6 + nc) m]
theorem rdC_v {T : Int → Int} {Wm S : zv_H} {c : Int} (hc : 0 ≤ c) : ∀ n : Nat, c < n → rdC T Wm S n 1 c = jv (T (2 + 4 * c)) (Wm 2 c) ∧ rdC T Wm S n 2 c = jv (256 * T (2 + 4 * c + 1) + T (2 + 4 * c + 2)) 999 ∧ rdC T Wm S n 3 c = jv (T (2 + 4 * c + 3)) 9
  | 0, h => by omega
  | n + 1, h => by
    rw [show rdC T Wm S (n + 1) = zup (zup (zup (rdC T Wm S n) 1 n (jv (T (2 + 4 * n)) (Wm 2 n))) 2 n (jv (256 * T (2 + 4 * n + 1) + T (2 + 4 * n + 2)) 999)) 3 n (jv (T (2 + 4 * n + 3)) 9) from rfl]
    by_cases e : c = n
    · rw [e]
      exact ⟨by rw [zup_n (by omega), zup_n (by omega), zup_s], by rw [zup_n (by omega), zup_s], by rw [zup_s]⟩
    · rw [zup_n (by omega), zup_n (by omega), zup_n (by omega), zup_n (a' := 2) (by omega), zup_n (a' := 2) (by omega), zup_n (a' := 2) (by omega), zup_n (a' := 3) (by omega), zup_n (a' := 3) (by omega), zup_n (a' := 3) (by omega)]
      exact rdC_v hc n (by omega)
theorem rdK_v {T : Int → Int} {m p nc : Int} {S : zv_H} (hnc : nc ≤ 7) (hT : ∀ c, 0 ≤ c → c < nc → 0 ≤ T (p + c) ∧ T (p + c) ≤ 255) (h0_q : 0 ≤ S 0 0 ∧ S 0 0 ≤ 999) (h9_q : ∀ c, 0 ≤ c → c < 7 → S 9 (m * 7 + c) = 1000000) : ∀ n : Nat, (n : Int) ≤ nc → (∀ c : Int, (n : Int) ≤ c → c < 7 → rdK T m p S n 9 (m * 7 + c) = 1000000) ∧ (∀ c : Int, 0 ≤ c → c < n → rdK T m p S n 9 (m * 7 + c) = if T (p + c) = 0 then 1000000 else S 0 0 + T (p + c) - 1) ∧ ∀ k, ¬ (m * 7 ≤ k ∧ k < m * 7 + n) → rdK T m p S n 9 k = S 9 k
  | 0, _ => ⟨fun c q1_q q2_q => h9_q c (by omega) q2_q, fun c q1_q q2_q => by omega, fun k q => rfl⟩
  | n + 1, h => by
    obtain ⟨i1_q, i2_q, i3_q⟩ := rdK_v hnc hT h0_q h9_q n (by omega)
    have b := hT n (by omega) (by omega)
    have e : jv (T (p + n)) 255 = T (p + n) := if_pos b
    have st : rdK T m p S (n + 1) = if 0 < T (p + n) then sndF (rdK T m p S n) m n (S 0 0 + T (p + n) - 1) else rdK T m p S n := by
      rw [show rdK T m p S (n + 1) = if 0 < jv (T (p + n)) 255 then sndF (rdK T m p S n) m n (S 0 0 + jv (T (p + n)) 255 - 1) else rdK T m p S n from rfl, e]
    have j1_q := i1_q n (Int.le_refl _) (by omega)
    rw [st]
    by_cases z : 0 < T (p + n)
    · rw [if_pos z]
      unfold sndF
      rw [j1_q, if_pos (by omega)]
      refine ⟨fun c q1_q q2_q => by rw [zup_n (by omega)]; exact i1_q c (by omega) q2_q, fun c q1_q q2_q => ?_, fun k q => by rw [zup_n (by omega)]; exact i3_q k (by omega)⟩
      by_cases ec : c = n
      · rw [ec, zup_s, if_neg (by omega)]
      · rw [zup_n (by omega)]; exact i2_q c q1_q (by omega)
    · rw [if_neg z]
      refine ⟨fun c q1_q q2_q => i1_q c (by omega) q2_q, fun c q1_q q2_q => ?_, fun k q => i3_q k (by omega)⟩
      by_cases ec : c = n
      · rw [ec, j1_q, if_pos (by omega)]
      · exact i2_q c q1_q (by omega)
/-- the cells of MEN, as an image tells them -/
def menV (T : Int → Int) (nc wk : Int) (S : zv_H) (m : Int) : Prop := (S 4 m = T (pM nc m) ∧ S 5 m = T (pM nc m + 1) ∧ S 6 m = T (pM nc m + 2) ∧ S 7 m = T (pM nc m + 3) ∧ S 8 m = 256 * T (pM nc m + 4) + T (pM nc m + 5)) ∧ ∀ c, 0 ≤ c → c < nc → S 9 (m * 7 + c) = if T (pM nc m + 6 + c) = 0 then 1000000 else wk + T (pM nc m + 6 + c) - 1
theorem rdM_v {T : Int → Int} {nc wk : Int} {S : zv_H} (hnc : 0 ≤ nc ∧ nc ≤ 7) (h0_q : S 0 0 = wk) (hwk : 0 ≤ wk ∧ wk ≤ 999) (h9_q : ∀ k, 0 ≤ k → k < 42 → S 9 k = 1000000) : ∀ n : Nat, n ≤ 6 → okM T nc n → (∀ k, 0 ≤ k → k < pM nc n → 0 ≤ T k ∧ T k ≤ 255) → (∀ m : Int, 0 ≤ m → m < n → menV T nc wk (rdM T nc S n) m) ∧ ∀ k, (n : Int) * 7 ≤ k → k < 42 → rdM T nc S n 9 k = 1000000
  | 0, _, _, _ => ⟨fun m q1_q q2_q => by omega, fun k q1_q q2_q => h9_q k (by omega) q2_q⟩
  | n + 1, h, ok, hT => by
    have ps : pM nc ((n + 1 : Nat) : Int) = pM nc n + 6 + nc := pM_s nc n
    rw [ps] at hT
    obtain ⟨ih, ih9_q⟩ := rdM_v hnc h0_q hwk h9_q n (by omega) ok.1 (fun k q1_q q2_q => hT k q1_q (by omega))
    have okp := ok.2.1
    have pb := pM_b (nc := nc) (m := n) hnc (by omega)
    have es : rdM T nc S (n + 1) = rdK T n (pM nc n + 6) (rdP T nc n (pM nc n) (rdM T nc S n)) nc.toNat := rfl
    have p9_q : ∀ k, rdP T nc n (pM nc n) (rdM T nc S n) 9 k = rdM T nc S n 9 k := fun k => by
      unfold rdP
      rw [zup_n (by omega), zup_n (by omega), zup_n (by omega), zup_n (by omega), zup_n (by omega)]
    have p0_q : rdP T nc n (pM nc n) (rdM T nc S n) 0 0 = wk := by
      unfold rdP
      rw [zup_n (by omega), zup_n (by omega), zup_n (by omega), zup_n (by omega), zup_n (by omega), rdM_0 (by omega)]
      exact h0_q
    obtain ⟨k1_q, k2_q, k3_q⟩ := rdK_v (T := T) (m := n) (p := pM nc n + 6) (nc := nc) (S := rdP T nc n (pM nc n) (rdM T nc S n)) hnc.2 (fun c q1_q q2_q => hT _ (by omega) (by omega)) (by rw [p0_q]; exact hwk) (fun c q1_q q2_q => by rw [p9_q]; exact ih9_q _ (by omega) (by omega)) nc.toNat (by omega)
    rw [p0_q] at k2_q
    rw [show ((nc.toNat : Nat) : Int) = nc by omega] at k1_q k2_q k3_q
    rw [es]
    refine ⟨fun m q1_q q2_q => ?_, fun k q1_q q2_q => ?_⟩
    · by_cases e : m = n
      · rw [e]
        refine ⟨?_, fun c c1_q c2_q => k2_q c c1_q c2_q⟩
        rw [rdK_n (by omega), rdK_n (by omega), rdK_n (by omega), rdK_n (by omega), rdK_n (by omega)]
        unfold rdP
        obtain ⟨o1_q, o2_q, o3_q, o4_q, o5_q, o6_q⟩ := okp
        have e2_q := hT (pM nc n + 2) (by omega) (by omega)
        refine ⟨?_, ?_, ?_, ?_, ?_⟩
        · rw [zup_n (by omega), zup_n (by omega), zup_n (by omega), zup_n (by omega), zup_s]; exact if_pos o1_q
        · rw [zup_n (by omega), zup_n (by omega), zup_n (by omega), zup_s]; exact if_pos o2_q
        · rw [zup_n (by omega), zup_n (by omega), zup_s]; exact if_pos o3_q
        · rw [zup_n (by omega), zup_s]; exact if_pos o5_q
        · rw [zup_s]; exact if_pos o6_q
      · have r := ih m q1_q (by omega)
        refine ⟨?_, fun c c1_q c2_q => ?_⟩
        · rw [rdK_n (by omega), rdK_n (by omega), rdK_n (by omega), rdK_n (by omega), rdK_n (by omega)]
          unfold rdP
          refine ⟨?_, ?_, ?_, ?_, ?_⟩ <;> rw [zup_n (by omega), zup_n (by omega), zup_n (by omega), zup_n (by omega), zup_n (by omega)]
          · exact r.1.1
          · exact r.1.2.1
          · exact r.1.2.2.1
          · exact r.1.2.2.2.1
          · exact r.1.2.2.2.2
        · rw [k3_q _ (by omega), p9_q]
          exact r.2 c c1_q c2_q
    · rw [k3_q _ (by omega), p9_q]
      exact ih9_q k (by omega) q2_q
