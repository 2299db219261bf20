theorem zshr_by {x s : Int} (k : Nat) (hx : -2147483648 ≤ x ∧ x ≤ 2147483647) (hs : s = k) (hk : k ≤ 31) : zshr x s % 256 = x / 2 ^ k % 256 := by rw [zshr_k k hx hs hk]
theorem zby_shr {z : Int} {j : Nat} (hz : -2147483648 ≤ z ∧ z ≤ 2147483647) (h : j < 4) {s : Int} (hs : s = 24 - 8 * (j : Int)) : zshr z s % 256 = zby z j := by
  have hh : j = 0 ∨ j = 1 ∨ j = 2 ∨ j = 3 := by omega
  rcases hh with rfl | rfl | rfl | rfl
  · rw [zshr_by 24 hz (by rw [hs]; rfl) (by omega)]; rfl
  · rw [zshr_by 16 hz (by rw [hs]; rfl) (by omega)]; rfl
  · rw [zshr_by 8 hz (by rw [hs]; rfl) (by omega)]; rfl
  · rw [zshr_by 0 hz (by rw [hs]; rfl) (by omega)]; show z / 1 % 256 = z % 256; rw [Int.ediv_one]
set_option maxHeartbeats 4000000 in
set_option maxRecDepth 20000 in
theorem c_M_put {Γ : zv_M} {L : Int} {σ : zv_H} {z : Int} (h : 0 ≤ σ 289 1 ∧ σ 289 1 ≤ 1780) (hz : -2147483648 ≤ z ∧ z ≤ 2147483647)  : zC Γ m_M_put 0 0 0 (GM L) [zR 289, zI z] σ (zFn none (GM L) (zab σ 290 289 1 z 4)) := by
  refine zC_of (ls0 := [_, _, _]) zm_M_put (by decide) rfl (Nat.le_of_ble_eq_true rfl) ?_
  generalize hQ : (zFn none (GM L) (zab σ 290 289 1 z 4)) = Q
  refine zbipush (k := 0) rfl rfl ?_
  refine zistore_n (k := 1) (ls' := [_, _, _]) rfl (Nat.le_of_ble_eq_true rfl) rfl ?_
  have lp3_q : ∀ (g : Nat) (j : Nat), (4 - j) < g → (j ≤ 4) → zV Γ m_M_put 0 0 0 Q (GM L) (0, 0) 3 [some (zR 289), some (zI z), some (zI (24 - 8 * j))] [] (zab σ 290 289 1 z (j : Int)) := by
    intro g
    induction g with
    | zero => intro j hg; exact absurd hg (Nat.not_lt_zero _)
    | succ g ih3_q =>
      intro j hg h1_q
      have hl := @zab_l σ 290 289 1 z j (by omega)
      refine ziload_n (k := 2) rfl rfl ?_
      refine zif_lt (k := 3) rfl rfl (fun c1_q => ?_) (fun c1_q => ?_)
      · skip
        refine zreturn (k := 22) rfl rfl rfl ?_
        rw [← hQ]
        exact ⟨rfl, rfl, by rw [show (j : Int) = 4 by omega]⟩
      · skip
        refine zaload_n (k := 4) rfl rfl ?_
        refine zgF 0 (k := 5) rfl ob_289 fl_12_7 rfl fx_289_0 ?_
        refine zaload_n (k := 6) rfl rfl ?_
        refine zgI 1 (k := 7) rfl ob_289 fl_12_13 rfl fx_289_1 ?_
        rw [hl]
        refine ziload_n (k := 8) rfl rfl ?_
        refine ziload_n (k := 9) rfl rfl ?_
        refine zishr (k := 10) rfl ?_
        refine zsipush (k := 11) rfl rfl ?_
        refine ziandM (k := 12) 8 rfl (by decide) rfl 256 rfl ?_
        rw [zby_shr hz (j := j) (by omega) rfl]
        refine ziastore (k := 13) rfl ar_290 ⟨by omega, by omega⟩ (by omega) ?_
        refine zaload_n (k := 14) rfl rfl ?_
        refine zdup (k := 15) rfl rfl ?_
        refine zgI 1 (k := 16) rfl ob_289 fl_12_13 rfl fx_289_1 ?_
        rw [zup_n (by omega), hl]
        refine ziconst (k := 17) rfl (by decide) ?_
        refine ziaddB (k := 18) rfl (by omega) ?_
        refine zpI 1 (k := 19) rfl ob_289 fl_12_13 ⟨_, rfl, rfl⟩ rfl (by omega) rfl fx_289_1 ?_
        rw [zab_s (by omega) (by omega), show (j : Int) + 1 = ((j + 1 : Nat) : Int) by omega]
        refine ziincB (k := 20) (ls' := [_, _, _]) rfl rfl (by decide) (by omega) rfl ?_
        refine zgoto (k := 21) rfl rfl ?_
        rw [show (24 : Int) - 8 * (j : Int) + -8 = 24 - 8 * ((j + 1 : Nat) : Int) by omega]
        exact ih3_q (j + 1) (by omega) (by omega)
  rw [← zab_0 σ 290 289 1 z]
  exact lp3_q _ 0 (Nat.lt_succ_self _) (by omega)
def feM (σ : zv_H) (a b c d e : Int) : zv_H := zab (zab (zab (zab (zab σ 290 289 1 a 4) 290 289 1 b 4) 290 289 1 c 4) 290 289 1 d 4) 290 289 1 e 4
theorem zam_4 (σ : zv_H) (z : Int) : zab σ 290 289 1 z 4 289 1 = σ 289 1 + 4 := zab_l (by omega)
theorem fem_l (σ : zv_H) (a b c d e : Int) : feM σ a b c d e 289 1 = σ 289 1 + 20 := by
  unfold feM
  rw [zam_4, zam_4, zam_4, zam_4, zam_4]
  omega
set_option maxHeartbeats 4000000 in
set_option maxRecDepth 20000 in
theorem c_M_feed {Γ : zv_M} {L : Int} {σ : zv_H} {a b c d e : Int} (h : 0 ≤ σ 289 1 ∧ σ 289 1 ≤ 1600) (hz : (-2147483648 ≤ a ∧ a ≤ 2147483647) ∧ (-2147483648 ≤ b ∧ b ≤ 2147483647) ∧ (-2147483648 ≤ c ∧ c ≤ 2147483647) ∧ (-2147483648 ≤ d ∧ d ≤ 2147483647) ∧ (-2147483648 ≤ e ∧ e ≤ 2147483647))  : zC Γ m_M_feed 1 0 0 (GM L) [zR 289, zI a, zI b, zI c, zI d, zI e] σ (zPI (GM L) (fun z σ' => (σ 289 1 + 20 ≤ 1600 ∧ z = σ 289 1 + 20 ∧ σ' = feM σ a b c d e) ∨ (1600 < σ 289 1 + 20 ∧ z = -1 ∧ σ' = rfM σ 0))) := by
  refine zC_of (ls0 := [_, _, _, _, _, _]) zm_M_feed (by decide) rfl (Nat.le_of_ble_eq_true rfl) ?_
  generalize hQ : (zPI (GM L) (fun z σ' => (σ 289 1 + 20 ≤ 1600 ∧ z = σ 289 1 + 20 ∧ σ' = feM σ a b c d e) ∨ (1600 < σ 289 1 + 20 ∧ z = -1 ∧ σ' = rfM σ 0))) = Q
  refine zaload_n (k := 0) rfl rfl ?_
  refine zgI 1 (k := 1) rfl ob_289 fl_12_13 rfl fx_289_1 ?_
  refine zbipush (k := 2) rfl rfl ?_
  refine ziaddB (k := 3) rfl (by omega) ?_
  refine zsipush (k := 4) rfl rfl ?_
  refine zicmp_le (k := 5) rfl rfl (fun c1_q => ?_) (fun c1_q => ?_)
  · skip
    refine zaload_n (k := 10) rfl rfl ?_
    refine ziload_n (k := 11) rfl rfl ?_
    refine zfV0 (k := 12) rfl (c_M_put (by first | omega | (simp only [zam_4]; omega)) (by omega)) fm_M_put lk_12_235 rfl rfl ob_289 ⟨_, rfl, rfl⟩ (Nat.le_of_ble_eq_true rfl) (by decide) ⟨by decide, by decide⟩ ?_
    refine zaload_n (k := 13) rfl rfl ?_
    refine ziload_n (k := 14) rfl rfl ?_
    refine zfV0 (k := 15) rfl (c_M_put (by first | omega | (simp only [zam_4]; omega)) (by omega)) fm_M_put lk_12_235 rfl rfl ob_289 ⟨_, rfl, rfl⟩ (Nat.le_of_ble_eq_true rfl) (by decide) ⟨by decide, by decide⟩ ?_
    refine zaload_n (k := 16) rfl rfl ?_
    refine ziload_n (k := 17) rfl rfl ?_
    refine zfV0 (k := 18) rfl (c_M_put (by first | omega | (simp only [zam_4]; omega)) (by omega)) fm_M_put lk_12_235 rfl rfl ob_289 ⟨_, rfl, rfl⟩ (Nat.le_of_ble_eq_true rfl) (by decide) ⟨by decide, by decide⟩ ?_
    refine zaload_n (k := 19) rfl rfl ?_
    refine ziload (k := 20) rfl rfl ?_
    refine zfV0 (k := 21) rfl (c_M_put (by first | omega | (simp only [zam_4]; omega)) (by omega)) fm_M_put lk_12_235 rfl rfl ob_289 ⟨_, rfl, rfl⟩ (Nat.le_of_ble_eq_true rfl) (by decide) ⟨by decide, by decide⟩ ?_
    refine zaload_n (k := 22) rfl rfl ?_
    refine ziload (k := 23) rfl rfl ?_
    refine zfV0 (k := 24) rfl (c_M_put (by first | omega | (simp only [zam_4]; omega)) (by omega)) fm_M_put lk_12_235 rfl rfl ob_289 ⟨_, rfl, rfl⟩ (Nat.le_of_ble_eq_true rfl) (by decide) ⟨by decide, by decide⟩ ?_
    refine zaload_n (k := 25) rfl rfl ?_
    refine zgI 1 (k := 26) rfl ob_289 fl_12_13 rfl fx_289_1 ?_
    rw [show zab (zab (zab (zab (zab σ 290 289 1 a 4) 290 289 1 b 4) 290 289 1 c 4) 290 289 1 d 4) 290 289 1 e 4 289 1 = σ 289 1 + 20 from fem_l σ a b c d e]
    refine zireturn (k := 27) rfl rfl rfl ?_
    rw [← hQ]
    exact ⟨rfl, _, rfl, Or.inl ⟨by omega, rfl, rfl⟩⟩
  · skip
    refine zaload_n (k := 6) rfl rfl ?_
    refine ziconst (k := 7) rfl (by decide) ?_
    refine zfV1 (k := 8) rfl (c_M_refuses (by omega)) fm_M_refuses lk_12_231 rfl rfl ob_289 ⟨_, rfl, rfl⟩ (Nat.le_of_ble_eq_true rfl) (by decide) ⟨by decide, by decide⟩ ?_
    refine zireturn (k := 9) rfl rfl rfl ?_
    rw [← hQ]
    exact ⟨rfl, _, rfl, Or.inr ⟨by omega, rfl, rfl⟩⟩
set_option maxHeartbeats 4000000 in
set_option maxRecDepth 20000 in
theorem c_M_end {Γ : zv_M} {L : Int} {σ : zv_H} {n : Int}  : zC Γ m_M_end 1 0 0 (GM L) [zR 289, zI n] σ (zPI (GM L) (fun z σ' => ((0 ≤ n ∧ n ≤ σ 289 1) ∧ z = 1 ∧ σ' = zup σ 289 1 n) ∨ (¬ (0 ≤ n ∧ n ≤ σ 289 1) ∧ z = 0 ∧ σ' = rfM σ 0))) := by
  refine zC_of (ls0 := [_, _]) zm_M_end (by decide) rfl (Nat.le_of_ble_eq_true rfl) ?_
  generalize hQ : (zPI (GM L) (fun z σ' => ((0 ≤ n ∧ n ≤ σ 289 1) ∧ z = 1 ∧ σ' = zup σ 289 1 n) ∨ (¬ (0 ≤ n ∧ n ≤ σ 289 1) ∧ z = 0 ∧ σ' = rfM σ 0))) = Q
  refine ziload_n (k := 0) rfl rfl ?_
  refine zif_lt (k := 1) rfl rfl (fun c1_q => ?_) (fun c1_q => ?_)
  · skip
    refine zaload_n (k := 6) rfl rfl ?_
    refine ziconst (k := 7) rfl (by decide) ?_
    refine zfV1 (k := 8) rfl (c_M_refuses (by omega)) fm_M_refuses lk_12_231 rfl rfl ob_289 ⟨_, rfl, rfl⟩ (Nat.le_of_ble_eq_true rfl) (by decide) ⟨by decide, by decide⟩ ?_
    refine zif_lt (k := 9) rfl rfl (fun c2_q => ?_) (fun c2_q => ?_)
    · skip
      refine ziconst (k := 12) rfl (by decide) ?_
      refine zzreturn (k := 13) rfl rfl (by first | exact Or.inl rfl | exact Or.inr rfl | omega) rfl ?_
      rw [← hQ]
      first | (exfalso; omega) | exact ⟨rfl, _, rfl, Or.inr ⟨by omega, rfl, rfl⟩⟩
    · skip
      refine ziconst (k := 10) rfl (by decide) ?_
      refine zgoto (k := 11) rfl rfl ?_
      refine zzreturn (k := 13) rfl rfl (by first | exact Or.inl rfl | exact Or.inr rfl | omega) rfl ?_
      rw [← hQ]
      first | (exfalso; omega) | exact ⟨rfl, _, rfl, Or.inr ⟨by omega, rfl, rfl⟩⟩
  · skip
    refine ziload_n (k := 2) rfl rfl ?_
    refine zaload_n (k := 3) rfl rfl ?_
    refine zgI 1 (k := 4) rfl ob_289 fl_12_13 rfl fx_289_1 ?_
    refine zicmp_le (k := 5) rfl rfl (fun c3_q => ?_) (fun c3_q => ?_)
    · skip
      refine zaload_n (k := 14) rfl rfl ?_
      refine ziload_n (k := 15) rfl rfl ?_
      refine zpI 1 (k := 16) rfl ob_289 fl_12_13 ⟨_, rfl, rfl⟩ rfl (by omega) rfl fx_289_1 ?_
      refine ziconst (k := 17) rfl (by decide) ?_
      refine zzreturn (k := 18) rfl rfl (by first | exact Or.inl rfl | exact Or.inr rfl | omega) rfl ?_
      rw [← hQ]
      exact ⟨rfl, _, rfl, Or.inl ⟨⟨by omega, by omega⟩, rfl, rfl⟩⟩
    · skip
      refine zaload_n (k := 6) rfl rfl ?_
      refine ziconst (k := 7) rfl (by decide) ?_
      refine zfV1 (k := 8) rfl (c_M_refuses (by omega)) fm_M_refuses lk_12_231 rfl rfl ob_289 ⟨_, rfl, rfl⟩ (Nat.le_of_ble_eq_true rfl) (by decide) ⟨by decide, by decide⟩ ?_
      refine zif_lt (k := 9) rfl rfl (fun c4_q => ?_) (fun c4_q => ?_)
      · skip
        refine ziconst (k := 12) rfl (by decide) ?_
        refine zzreturn (k := 13) rfl rfl (by first | exact Or.inl rfl | exact Or.inr rfl | omega) rfl ?_
        rw [← hQ]
        first | (exfalso; omega) | exact ⟨rfl, _, rfl, Or.inr ⟨by omega, rfl, rfl⟩⟩
      · skip
        refine ziconst (k := 10) rfl (by decide) ?_
        refine zgoto (k := 11) rfl rfl ?_
        refine zzreturn (k := 13) rfl rfl (by first | exact Or.inl rfl | exact Or.inr rfl | omega) rfl ?_
        rw [← hQ]
        first | (exfalso; omega) | exact ⟨rfl, _, rfl, Or.inr ⟨by omega, rfl, rfl⟩⟩
