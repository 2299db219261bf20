/-! letters, what is kept -/
theorem rM_d {σ S : zv_H} {nc nm v m c t : Int} (h : rM σ nc nm v S) (hm : 0 ≤ m ∧ m < 6) (hc : 0 ≤ c ∧ c < 7) (hnc : nc ≤ 7) (ht : t ≠ 1000000) : rM (zup σ 324 (42 * v + 7 * m + c) t) nc nm v (zup S 9 (m * 7 + c) t) := by
  obtain ⟨⟨a1, a2⟩, b, c1, d, e⟩ := h
  have z : ∀ g k, g ≠ 9 → zup S 9 (m * 7 + c) t g k = S g k := fun g k hg => zup_n (by omega)
  have y : ∀ g k, g ≠ 324 → zup σ 324 (42 * v + 7 * m + c) t g k = σ g k := fun g k hg => zup_n (by omega)
  refine ⟨⟨by rw [z 0 0 (by omega), y 315 v (by omega)]; exact a1, by rw [z 0 12 (by omega), y 325 v (by omega)]; exact a2⟩, fun k h1 h2 => ?_, fun m h1 h2 => ?_, fun m2 k h1 h2 h3 h4 => ?_, fun k h1 h2 => ?_⟩
  · rw [z 1 k (by omega), z 2 k (by omega), z 3 k (by omega), y 316 _ (by omega), y 317 _ (by omega), y 318 _ (by omega)]; exact b k h1 h2
  · rw [z 4 m (by omega), z 5 m (by omega), z 6 m (by omega), z 7 m (by omega), z 8 m (by omega), y 319 _ (by omega), y 320 _ (by omega), y 321 _ (by omega), y 322 _ (by omega), y 323 _ (by omega)]; exact c1 m h1 h2
  · by_cases hk : m2 * 7 + k = m * 7 + c
    · rw [hk, zup_s, show 42 * v + 7 * m2 + k = 42 * v + 7 * m + c by omega, zup_s]
      exact (if_neg ht).symm
    · rw [zup_n (by omega), zup_n (by omega)]; exact d m2 k h1 h2 h3 h4
  · rw [z 0 12 (by omega)] at h2
    rw [z 0 11 (by omega), z 10 _ (by omega), y 326 _ (by omega), y 326 _ (by omega), y 326 _ (by omega), y 326 _ (by omega)]; exact e k h1 h2
theorem mfr_d {σ : zv_H} {v m c t : Int} (hm : 0 ≤ m ∧ m < 6) (hc : 0 ≤ c ∧ c < 7) : mfr v σ (zup σ 324 (42 * v + 7 * m + c) t) := fun g k a b c2 => zup_n (fun q => a (by unfold inV; omega))
set_option maxHeartbeats 4000000 in
set_option maxRecDepth 20000 in
theorem c_M_sends {Γ : zv_M} {L : Int} {σ0 σ Wm S : zv_H} {b v : Int} (hb1 : b = 0 ∨ b = 1) (hv : 0 ≤ v ∧ v < 22) (h0 : stM σ0 σ b v Wm S) (hSI : SI (Wm 0 1) (Wm 0 3) S) (hWI : WI Wm) {m c t : Int} (hm : 0 ≤ m ∧ m < Wm 0 3) (hc : 0 ≤ c ∧ c < Wm 0 1) (ht : 0 ≤ t ∧ t ≤ 2000) : zC Γ m_M_sends 0 0 0 (GM L) [zR 289, zI v, zI m, zI c, zI t] σ (zP0 (GM L) (fun σ' => stM σ0 σ' b v Wm (sndF S m c t))) := by
  refine zC_of (ls0 := [_, _, _, _, _, _]) zm_M_sends (by decide) rfl (Nat.le_of_ble_eq_true rfl) ?_
  generalize hQ : (zP0 (GM L) (fun σ' => stM σ0 σ' b v Wm (sndF S m c t))) = Q
  have hb := h0.2.2.1
  have w1 := hWI.1
  have w3 := hWI.2.2.1
  have bo := hSI.2.2.2.2.2.1 (m * 7 + c) (by omega) (by omega)
  have dr := h0.1.2.2.2.1 m c hm.1 hm.2 hc.1 hc.2
  have dd : dueM (S 9 (m * 7 + c)) = if S 9 (m * 7 + c) = 1000000 then -1 else S 9 (m * 7 + c) := rfl
  refine zbipush (k := 0) rfl rfl ?_
  refine ziload_n (k := 1) rfl rfl ?_
  refine zimulB (k := 2) rfl (by omega) ?_
  refine zbipush (k := 3) rfl rfl ?_
  refine ziload_n (k := 4) rfl rfl ?_
  refine zimulB (k := 5) rfl (by omega) ?_
  refine ziaddB (k := 6) rfl (by omega) ?_
  refine ziload_n (k := 7) rfl rfl ?_
  refine ziaddB (k := 8) rfl (by omega) ?_
  refine zistore (k := 9) (ls' := [_, _, _, _, _, _]) rfl (Nat.le_of_ble_eq_true rfl) rfl ?_
  refine zaload_n (k := 10) rfl rfl ?_
  refine zgF 54 (k := 11) rfl ob_289 fl_12_177 rfl fx_289_54 ?_
  refine ziload (k := 12) rfl rfl ?_
  refine ziaload (k := 13) rfl ar_324 ⟨by omega, by omega⟩ ?_
  rw [dr]
  refine ziconst (k := 14) rfl (by decide) ?_
  refine zicmp_eq (k := 15) rfl rfl (fun c1 => ?_) (fun c1 => ?_)
  · skip
    refine zaload_n (k := 22) rfl rfl ?_
    refine zgF 54 (k := 23) rfl ob_289 fl_12_177 rfl fx_289_54 ?_
    refine ziload (k := 24) rfl rfl ?_
    refine ziload (k := 25) rfl rfl ?_
    refine ziastore (k := 26) rfl ar_324 ⟨by omega, by omega⟩ (by omega) ?_
    refine zreturn (k := 27) rfl rfl rfl ?_
    rw [← hQ]
    refine ⟨rfl, rfl, ?_⟩
    unfold sndF
    first
    | (rw [if_pos (by omega)]; exact stM_s h0 (rM_d h0.1 (by omega) (by omega) w1.2 (by omega)) (mfr_d (by omega) (by omega)))
    | (rw [if_neg (by omega)]; exact h0)
  · skip
    refine ziload (k := 16) rfl rfl ?_
    refine zaload_n (k := 17) rfl rfl ?_
    refine zgF 54 (k := 18) rfl ob_289 fl_12_177 rfl fx_289_54 ?_
    refine ziload (k := 19) rfl rfl ?_
    refine ziaload (k := 20) rfl ar_324 ⟨by omega, by omega⟩ ?_
    rw [dr]
    refine zicmp_ge (k := 21) rfl rfl (fun c2 => ?_) (fun c2 => ?_)
    · skip
      refine zreturn (k := 27) rfl rfl rfl ?_
      rw [← hQ]
      refine ⟨rfl, rfl, ?_⟩
      unfold sndF
      first
      | (rw [if_pos (by omega)]; exact stM_s h0 (rM_d h0.1 (by omega) (by omega) w1.2 (by omega)) (mfr_d (by omega) (by omega)))
      | (rw [if_neg (by omega)]; exact h0)
    · skip
      refine zaload_n (k := 22) rfl rfl ?_
      refine zgF 54 (k := 23) rfl ob_289 fl_12_177 rfl fx_289_54 ?_
      refine ziload (k := 24) rfl rfl ?_
      refine ziload (k := 25) rfl rfl ?_
      refine ziastore (k := 26) rfl ar_324 ⟨by omega, by omega⟩ (by omega) ?_
      refine zreturn (k := 27) rfl rfl rfl ?_
      rw [← hQ]
      refine ⟨rfl, rfl, ?_⟩
      unfold sndF
      first
      | (rw [if_pos (by omega)]; exact stM_s h0 (rM_d h0.1 (by omega) (by omega) w1.2 (by omega)) (mfr_d (by omega) (by omega)))
      | (rw [if_neg (by omega)]; exact h0)
theorem rM_k1 {σ S : zv_H} {nc nm v e a m c t told : Int} (h : rM σ nc nm v S) (hS : 0 ≤ S 0 11 ∧ S 0 11 < 60) (htd : S 0 12 = told) (ht : 0 ≤ told ∧ told < 60) (he : e = ((a * 10 + m) * 10 + c) * 10 + t) (ha : 0 ≤ a) (hm : 0 ≤ m ∧ m ≤ 9) (hc : 0 ≤ c ∧ c ≤ 9) (h3 : 0 ≤ t ∧ t ≤ 9) : rM (zup (zup (zup (zup (zup σ 326 (240 * v + 4 * told) a) 326 (240 * v + 4 * told + 1) m) 326 (240 * v + 4 * told + 2) c) 326 (240 * v + 4 * told + 3) t) 325 v (told + 1)) nc nm v (zup (zup S 10 ((S 0 11 + told) % 60) e) 0 12 (told + 1)) := by
  obtain ⟨⟨a1, a2⟩, b, c1, d, e1⟩ := h
  have z : ∀ g k, g ≠ 10 → ¬ (g = 0 ∧ k = 12) → zup (zup S 10 ((S 0 11 + told) % 60) e) 0 12 (told + 1) g k = S g k := fun g k hg hk => by rw [zup_n hk, zup_n (by omega)]
  have y : ∀ g k, g ≠ 326 → g ≠ 325 → zup (zup (zup (zup (zup σ 326 (240 * v + 4 * told) a) 326 (240 * v + 4 * told + 1) m) 326 (240 * v + 4 * told + 2) c) 326 (240 * v + 4 * told + 3) t) 325 v (told + 1) g k = σ g k := fun g k h1 h2 => by rw [zup_n (by omega), zup_n (by omega), zup_n (by omega), zup_n (by omega), zup_n (by omega)]
  refine ⟨⟨by rw [z 0 0 (by omega) (by omega), y 315 v (by omega) (by omega)]; exact a1, by rw [zup_s, zup_s]⟩, fun k h1 h2 => ?_, fun m h1 h2 => ?_, fun m2 k h1 h2 h3 h4 => ?_, fun k h1 h2 => ?_⟩
  · rw [z 1 k (by omega) (by omega), z 2 k (by omega) (by omega), z 3 k (by omega) (by omega), y 316 _ (by omega) (by omega), y 317 _ (by omega) (by omega), y 318 _ (by omega) (by omega)]; exact b k h1 h2
  · rw [z 4 m (by omega) (by omega), z 5 m (by omega) (by omega), z 6 m (by omega) (by omega), z 7 m (by omega) (by omega), z 8 m (by omega) (by omega), y 319 _ (by omega) (by omega), y 320 _ (by omega) (by omega), y 321 _ (by omega) (by omega), y 322 _ (by omega) (by omega), y 323 _ (by omega) (by omega)]; exact c1 m h1 h2
  · rw [z 9 _ (by omega) (by omega), y 324 _ (by omega) (by omega)]; exact d m2 k h1 h2 h3 h4
  · rw [zup_s] at h2
    rw [z 0 11 (by omega) (by omega)]
    by_cases hk : k = told
    · have er : zup (zup S 10 ((S 0 11 + told) % 60) e) 0 12 (told + 1) 10 ((S 0 11 + k) % 60) = e := by rw [zup_n (by omega), hk, zup_s]
      rw [er, hk]
      refine ⟨?_, ?_, ?_, ?_⟩
      · rw [zup_n (by omega), zup_n (by omega), zup_n (by omega), zup_n (by omega), zup_s]; omega
      · rw [zup_n (by omega), zup_n (by omega), zup_n (by omega), zup_s]; omega
      · rw [zup_n (by omega), zup_n (by omega), zup_s]; omega
      · rw [zup_n (by omega), zup_s]; omega
    · have er : zup (zup S 10 ((S 0 11 + told) % 60) e) 0 12 (told + 1) 10 ((S 0 11 + k) % 60) = S 10 ((S 0 11 + k) % 60) := by rw [zup_n (by omega), zup_n (by omega)]
      have ey : ∀ i, 0 ≤ i → i ≤ 3 → zup (zup (zup (zup (zup σ 326 (240 * v + 4 * told) a) 326 (240 * v + 4 * told + 1) m) 326 (240 * v + 4 * told + 2) c) 326 (240 * v + 4 * told + 3) t) 325 v (told + 1) 326 (240 * v + 4 * k + i) = σ 326 (240 * v + 4 * k + i) := fun i q1 q2 => by rw [zup_n (by omega), zup_n (by omega), zup_n (by omega), zup_n (by omega), zup_n (by omega)]
      have q := e1 k h1 (by omega)
      have e0 := ey 0 (by omega) (by omega)
      rw [Int.add_zero] at e0
      rw [er, e0, ey 1 (by omega) (by omega), ey 2 (by omega) (by omega), ey 3 (by omega) (by omega)]
      exact q
/-- j cells further to the front -/
def shf (σ : zv_H) (v j : Int) : zv_H := fun x k => if x = 326 ∧ 240 * v ≤ k ∧ k < 240 * v + j then σ 326 (k + 4) else σ x k
theorem shf_0 (σ : zv_H) (v : Int) : shf σ v ((0 : Nat) : Int) = σ := by
  funext x k
  unfold shf
  rw [if_neg (by omega)]
theorem shf_s {σ : zv_H} {v : Int} {j : Nat} : zup (shf σ v j) 326 (240 * v + j) (shf σ v j 326 (240 * v + j + 4)) = shf σ v ((j + 1 : Nat) : Int) := by
  have e : shf σ v j 326 (240 * v + j + 4) = σ 326 (240 * v + j + 4) := if_neg (by omega)
  rw [e]
  funext x k
  unfold zup shf
  (repeat' split) <;> first | rfl | (exfalso; omega) | (congr 1; omega)
theorem shf_n {σ : zv_H} {v j x : Int} (h : x ≠ 326) (k : Int) : shf σ v j x k = σ x k := if_neg (fun q => h q.1)
theorem rM_k2 {σ S : zv_H} {nc nm v : Int} (h : rM σ nc nm v S) (hS : 0 ≤ S 0 11 ∧ S 0 11 < 60) (ht : S 0 12 = 60) : rM (zup (shf σ v 236) 325 v 59) nc nm v (zup (zup S 0 11 ((S 0 11 + 1) % 60)) 0 12 59) := by
  obtain ⟨⟨a1, a2⟩, b, c1, d, e1⟩ := h
  have z : ∀ g k, ¬ (g = 0 ∧ (k = 11 ∨ k = 12)) → zup (zup S 0 11 ((S 0 11 + 1) % 60)) 0 12 59 g k = S g k := fun g k hk => by rw [zup_n (by omega), zup_n (by omega)]
  have y : ∀ g k, g ≠ 326 → g ≠ 325 → zup (shf σ v 236) 325 v 59 g k = σ g k := fun g k h1 h2 => by rw [zup_n (by omega), shf_n h1]
  refine ⟨⟨by rw [z 0 0 (by omega), y 315 v (by omega) (by omega)]; exact a1, by rw [zup_s, zup_s]⟩, fun k h1 h2 => ?_, fun m h1 h2 => ?_, fun m2 k h1 h2 h3 h4 => ?_, fun k h1 h2 => ?_⟩
  · rw [z 1 k (by omega), z 2 k (by omega), z 3 k (by omega), y 316 _ (by omega) (by omega), y 317 _ (by omega) (by omega), y 318 _ (by omega) (by omega)]; exact b k h1 h2
  · rw [z 4 m (by omega), z 5 m (by omega), z 6 m (by omega), z 7 m (by omega), z 8 m (by omega), y 319 _ (by omega) (by omega), y 320 _ (by omega) (by omega), y 321 _ (by omega) (by omega), y 322 _ (by omega) (by omega), y 323 _ (by omega) (by omega)]; exact c1 m h1 h2
  · rw [z 9 _ (by omega), y 324 _ (by omega) (by omega)]; exact d m2 k h1 h2 h3 h4
  · rw [zup_s] at h2
    have q := e1 (k + 1) (by omega) (by omega)
    have ey : ∀ i, 0 ≤ i → i ≤ 3 → zup (shf σ v 236) 325 v 59 326 (240 * v + 4 * k + i) = σ 326 (240 * v + 4 * (k + 1) + i) := fun i q1 q2 => by
      rw [zup_n (by omega), show shf σ v 236 326 (240 * v + 4 * k + i) = σ 326 (240 * v + 4 * k + i + 4) from if_pos ⟨rfl, by omega, by omega⟩]
      congr 1
      omega
    have e0 := ey 0 (by omega) (by omega)
    rw [Int.add_zero, Int.add_zero] at e0
    have e11 : zup (zup S 0 11 ((S 0 11 + 1) % 60)) 0 12 59 0 11 = (S 0 11 + 1) % 60 := by rw [zup_n (by omega), zup_s]
    rw [e11, z 10 _ (by omega), show ((S 0 11 + 1) % 60 + k) % 60 = (S 0 11 + (k + 1)) % 60 by omega, e0, ey 1 (by omega) (by omega), ey 2 (by omega) (by omega), ey 3 (by omega) (by omega)]
    exact q
theorem kep_2 {S : zv_H} {e : Int} (hS : 0 ≤ S 0 11 ∧ S 0 11 < 60) (ht : S 0 12 = 60) : zup (zup (zup (zup S 0 11 ((S 0 11 + 1) % 60)) 0 12 59) 10 ((zup (zup S 0 11 ((S 0 11 + 1) % 60)) 0 12 59 0 11 + 59) % 60) e) 0 12 (59 + 1) = kepF S e := by
  have e11 : zup (zup S 0 11 ((S 0 11 + 1) % 60)) 0 12 59 0 11 = (S 0 11 + 1) % 60 := by rw [zup_n (by omega), zup_s]
  rw [e11, show ((S 0 11 + 1) % 60 + 59) % 60 = (S 0 11 + S 0 12) % 60 by omega]
  unfold kepF
  rw [if_neg (by omega)]
  funext g k
  by_cases h12 : g = 0 ∧ k = 12
  · rw [h12.1, h12.2, zup_s, zup_n (by omega), zup_n (by omega), ht]; rfl
  · rw [zup_n h12]
    by_cases h10 : g = 10 ∧ k = (S 0 11 + S 0 12) % 60
    · rw [h10.1, h10.2, zup_s, zup_n (by omega), zup_s]
    · rw [zup_n h10, zup_n h12]
      by_cases h11 : g = 0 ∧ k = 11
      · rw [h11.1, h11.2, zup_s, zup_s]
      · rw [zup_n h11, zup_n h11, zup_n h10]
theorem mfr_k {σ σ' : zv_H} {v : Int} (h : ∀ x k, ¬ (x = 326 ∧ 240 * v ≤ k ∧ k < 240 * v + 240) → ¬ (x = 325 ∧ k = v) → σ' x k = σ x k) : mfr v σ σ' := fun x k a b c => h x k (fun q => a (by unfold inV; omega)) (fun q => a (by unfold inV; omega))
set_option maxHeartbeats 4000000 in
set_option maxRecDepth 20000 in
theorem c_M_writesDown {Γ : zv_M} {L : Int} {σ0 σ Wm S : zv_H} {b v : Int} (hb1 : b = 0 ∨ b = 1) (hv : 0 ≤ v ∧ v < 22) (h0 : stM σ0 σ b v Wm S) (hSI : SI (Wm 0 1) (Wm 0 3) S) (hWI : WI Wm) {m t : Int} (hm : 0 ≤ m ∧ m < Wm 0 3) (ht : 0 ≤ t ∧ t ≤ 9) : zC Γ m_M_writesDown 0 0 0 (GM L) [zR 289, zI v, zI m, zI t] σ (zP0 (GM L) (fun σ' => stM σ0 σ' b v Wm (kepF S (entF S m (S 4 m) t)))) := by
  refine zC_of (ls0 := [_, _, _, _, _]) zm_M_writesDown (by decide) rfl (Nat.le_of_ble_eq_true rfl) ?_
  generalize hQ : (zP0 (GM L) (fun σ' => stM σ0 σ' b v Wm (kepF S (entF S m (S 4 m) t)))) = Q
  have hb := h0.2.2.1
  have w1 := hWI.1
  have w3 := hWI.2.2.1
  have b11 := hSI.2.1
  have b12 := hSI.2.2.1
  have b00 := hSI.1
  have bm := hSI.2.2.2.2.1 m hm.1 hm.2
  have cut66 : ∀ (σ1 : zv_H) (S1 : zv_H) (told : Int), (stM σ0 σ1 b v Wm S1) → (S1 0 12 = told ∧ 0 ≤ told ∧ told < 60) → (0 ≤ S1 0 11 ∧ S1 0 11 < 60) → (S1 0 0 = S 0 0 ∧ S1 4 m = S 4 m) → (zup (zup S1 10 ((S1 0 11 + told) % 60) (entF S m (S 4 m) t)) 0 12 (told + 1) = kepF S (entF S m (S 4 m) t)) → zV Γ m_M_writesDown 0 0 0 Q (GM L) (0, 0) 66 [some (zR 289), some (zI v), some (zI m), some (zI t), none] [] σ1 := by
    intro σ1 S1 told h1 ht1 ho1 hs1 he1
    have r1 := h1.1.1
    have r4 := (h1.1.2.2.1 m hm.1 hm.2).1
    refine ziconst (k := 39) rfl (by decide) ?_
    refine zbipush (k := 40) rfl rfl ?_
    refine ziload_n (k := 41) rfl rfl ?_
    refine zimulB (k := 42) rfl (by omega) ?_
    refine zaload_n (k := 43) rfl rfl ?_
    refine zgF 55 (k := 44) rfl ob_289 fl_12_180 rfl fx_289_55 ?_
    refine ziload_n (k := 45) rfl rfl ?_
    refine ziaload (k := 46) rfl ar_325 ⟨by omega, by omega⟩ ?_
    rw [r1.2, ht1.1]
    refine ziaddB (k := 47) rfl (by omega) ?_
    refine zimulB (k := 48) rfl (by omega) ?_
    rw [show 4 * (60 * v + told) = 240 * v + 4 * told by omega]
    refine zistore (k := 49) (ls' := [_, _, _, _, _]) rfl (Nat.le_of_ble_eq_true rfl) rfl ?_
    refine zaload_n (k := 50) rfl rfl ?_
    refine zgF 56 (k := 51) rfl ob_289 fl_12_183 rfl fx_289_56 ?_
    refine ziload (k := 52) rfl rfl ?_
    refine zaload_n (k := 53) rfl rfl ?_
    refine zgF 45 (k := 54) rfl ob_289 fl_12_150 rfl fx_289_45 ?_
    refine ziload_n (k := 55) rfl rfl ?_
    refine ziaload (k := 56) rfl ar_315 ⟨by omega, by omega⟩ ?_
    rw [r1.1, hs1.1]
    refine ziastore (k := 57) rfl ar_326 ⟨by omega, by omega⟩ (by omega) ?_
    refine zaload_n (k := 58) rfl rfl ?_
    refine zgF 56 (k := 59) rfl ob_289 fl_12_183 rfl fx_289_56 ?_
    refine ziload (k := 60) rfl rfl ?_
    refine ziconst (k := 61) rfl (by decide) ?_
    refine ziaddB (k := 62) rfl (by omega) ?_
    refine ziload_n (k := 63) rfl rfl ?_
    refine ziastore (k := 64) rfl ar_326 ⟨by omega, by omega⟩ (by omega) ?_
    refine zaload_n (k := 65) rfl rfl ?_
    refine zgF 56 (k := 66) rfl ob_289 fl_12_183 rfl fx_289_56 ?_
    refine ziload (k := 67) rfl rfl ?_
    refine ziconst (k := 68) rfl (by decide) ?_
    refine ziaddB (k := 69) rfl (by omega) ?_
    refine zaload_n (k := 70) rfl rfl ?_
    refine zgF 49 (k := 71) rfl ob_289 fl_12_162 rfl fx_289_49 ?_
    refine zbipush (k := 72) rfl rfl ?_
    refine ziload_n (k := 73) rfl rfl ?_
    refine zimulB (k := 74) rfl (by omega) ?_
    refine ziload_n (k := 75) rfl rfl ?_
    refine ziaddB (k := 76) rfl (by omega) ?_
    refine ziaload (k := 77) rfl ar_319 ⟨by omega, by omega⟩ ?_
    rw [zup_n (by omega), zup_n (by omega), r4, hs1.2]
    refine ziastore (k := 78) rfl ar_326 ⟨by omega, by omega⟩ (by omega) ?_
    refine zaload_n (k := 79) rfl rfl ?_
    refine zgF 56 (k := 80) rfl ob_289 fl_12_183 rfl fx_289_56 ?_
    refine ziload (k := 81) rfl rfl ?_
    refine ziconst (k := 82) rfl (by decide) ?_
    refine ziaddB (k := 83) rfl (by omega) ?_
    refine ziload_n (k := 84) rfl rfl ?_
    refine ziastore (k := 85) rfl ar_326 ⟨by omega, by omega⟩ (by omega) ?_
    refine zaload_n (k := 86) rfl rfl ?_
    refine zgF 55 (k := 87) rfl ob_289 fl_12_180 rfl fx_289_55 ?_
    refine ziload_n (k := 88) rfl rfl ?_
    refine zdup2 (k := 89) rfl rfl rfl ?_
    refine ziaload (k := 90) rfl ar_325 ⟨by omega, by omega⟩ ?_
    rw [zup_n (by omega), zup_n (by omega), zup_n (by omega), zup_n (by omega), r1.2, ht1.1]
    refine ziconst (k := 91) rfl (by decide) ?_
    refine ziaddB (k := 92) rfl (by omega) ?_
    refine ziastore (k := 93) rfl ar_325 ⟨by omega, by omega⟩ (by omega) ?_
    refine zreturn (k := 94) rfl rfl rfl ?_
    rw [← hQ]
    refine ⟨rfl, rfl, ?_⟩
    rw [← he1]
    refine stM_s h1 (rM_k1 h1.1 ho1 ht1.1 ht1.2 rfl b00.1 ⟨by omega, by omega⟩ ⟨by omega, by omega⟩ ht) (mfr_k (fun x k a c => ?_))
    rw [zup_n (by omega), zup_n (by omega), zup_n (by omega), zup_n (by omega), zup_n (by omega)]
  refine zaload_n (k := 0) rfl rfl ?_
  refine zgF 55 (k := 1) rfl ob_289 fl_12_180 rfl fx_289_55 ?_
  refine ziload_n (k := 2) rfl rfl ?_
  refine ziaload (k := 3) rfl ar_325 ⟨by omega, by omega⟩ ?_
  rw [h0.1.1.2]
  refine zbipush (k := 4) rfl rfl ?_
  refine zicmp_ne (k := 5) rfl rfl (fun c1 => ?_) (fun c1 => ?_)
  · skip
    first
    | exact cut66 σ S (S 0 12) h0 ⟨rfl, by omega, by omega⟩ b11 ⟨rfl, rfl⟩ (by unfold kepF; rw [if_pos (by omega)])
    | (have e60 : S 0 12 = 60 := by omega
       refine cut66 _ (zup (zup S 0 11 ((S 0 11 + 1) % 60)) 0 12 59) 59 (stM_s h0 (rM_k2 h0.1 b11 e60) (mfr_k (fun x k a c => by rw [zup_n c]; unfold shf; rw [if_neg (by omega)]))) ⟨zup_s _ _ _ _, by omega, by omega⟩ (by rw [zup_n (by omega), zup_s]; omega) ⟨by rw [zup_n (by omega), zup_n (by omega)], by rw [zup_n (by omega), zup_n (by omega)]⟩ (kep_2 b11 e60))
  · skip
    refine zsipush (k := 6) rfl rfl ?_
    refine ziload_n (k := 7) rfl rfl ?_
    refine zimulB (k := 8) rfl (by omega) ?_
    refine zistore (k := 9) (ls' := [_, _, _, _, _]) rfl (Nat.le_of_ble_eq_true rfl) rfl ?_
    have lp18 : ∀ (g : Nat) (j : Nat), (236 - j) < g → (j ≤ 236) → zV Γ m_M_writesDown 0 0 0 Q (GM L) (0, 0) 18 [some (zR 289), some (zI v), some (zI m), some (zI t), some (zI (240 * v + j))] [] (shf σ v j) := by
      intro g
      induction g with
      | zero => intro j hg; exact absurd hg (Nat.not_lt_zero _)
      | succ g ih18 =>
        intro j hg hj
        refine ziload (k := 10) rfl rfl ?_
        refine zsipush (k := 11) rfl rfl ?_
        refine ziload_n (k := 12) rfl rfl ?_
        refine zimulB (k := 13) rfl (by omega) ?_
        refine zsipush (k := 14) rfl rfl ?_
        refine ziaddB (k := 15) rfl (by omega) ?_
        refine ziconst (k := 16) rfl (by decide) ?_
        refine zisubB (k := 17) rfl (by omega) ?_
        refine zicmp_ge (k := 18) rfl rfl (fun c2 => ?_) (fun c2 => ?_)
        · skip
          rw [show (j : Nat) = 236 by omega]
          refine zaload_n (k := 31) rfl rfl ?_
          refine zgF 55 (k := 32) rfl ob_289 fl_12_180 rfl fx_289_55 ?_
          refine ziload_n (k := 33) rfl rfl ?_
          refine zdup2 (k := 34) rfl rfl rfl ?_
          refine ziaload (k := 35) rfl ar_325 ⟨by omega, by omega⟩ ?_
          rw [shf_n (by omega), h0.1.1.2, show S 0 12 = 60 by omega]
          refine ziconst (k := 36) rfl (by decide) ?_
          refine zisubB (k := 37) rfl (by omega) ?_
          skip
          refine ziastore (k := 38) rfl ar_325 ⟨by omega, by omega⟩ (by omega) ?_
          refine zforget (ls' := [_, _, _, _, _]) 4 rfl ?_
          first
          | exact cut66 σ S (S 0 12) h0 ⟨rfl, by omega, by omega⟩ b11 ⟨rfl, rfl⟩ (by unfold kepF; rw [if_pos (by omega)])
          | (have e60 : S 0 12 = 60 := by omega
             refine cut66 _ (zup (zup S 0 11 ((S 0 11 + 1) % 60)) 0 12 59) 59 (stM_s h0 (rM_k2 h0.1 b11 e60) (mfr_k (fun x k a c => by rw [zup_n c]; unfold shf; rw [if_neg (by omega)]))) ⟨zup_s _ _ _ _, by omega, by omega⟩ (by rw [zup_n (by omega), zup_s]; omega) ⟨by rw [zup_n (by omega), zup_n (by omega)], by rw [zup_n (by omega), zup_n (by omega)]⟩ (kep_2 b11 e60))
        · skip
          refine zaload_n (k := 19) rfl rfl ?_
          refine zgF 56 (k := 20) rfl ob_289 fl_12_183 rfl fx_289_56 ?_
          refine ziload (k := 21) rfl rfl ?_
          refine zaload_n (k := 22) rfl rfl ?_
          refine zgF 56 (k := 23) rfl ob_289 fl_12_183 rfl fx_289_56 ?_
          refine ziload (k := 24) rfl rfl ?_
          refine ziconst (k := 25) rfl (by decide) ?_
          refine ziaddB (k := 26) rfl (by omega) ?_
          refine ziaload (k := 27) rfl ar_326 ⟨by omega, by omega⟩ ?_
          refine ziastore (k := 28) rfl ar_326 ⟨by omega, by omega⟩ (by omega) ?_
          refine ziincB (k := 29) (ls' := [_, _, _, _, _]) rfl rfl (by decide) (by omega) rfl ?_
          refine zgoto (k := 30) rfl rfl ?_
          rw [shf_s]
          have rr := ih18 (j + 1) (by omega) (by omega)
          rw [show 240 * v + ((j + 1 : Nat) : Int) = 240 * v + j + 1 by omega] at rr
          exact rr
    have rr := lp18 237 0 (by omega) (by omega)
    rw [shf_0, show 240 * v + ((0 : Nat) : Int) = 240 * v by omega] at rr
    exact rr
