/-! the model's states change as the class's do -/
def mfr (v : Int) (σ σ' : zv_H) : Prop := ∀ x k, ¬ inV v x k → x ≠ 327 → x ≠ 328 → σ' x k = σ x k
theorem mfr_tr {v : Int} {σ0 σ1 σ2 : zv_H} (h1 : mfr v σ0 σ1) (h2 : mfr v σ1 σ2) : mfr v σ0 σ2 := fun x k a b c => by rw [h2 x k a b c]; exact h1 x k a b c
theorem rM_c {σ S : zv_H} {nc nm v f i x : Int} (h : rM σ nc nm v S) (hf : 1 ≤ f ∧ f ≤ 3) (hi : 0 ≤ i ∧ i < 7) (hc : nc ≤ 7) : rM (zup σ (315 + f) (7 * v + i) x) nc nm v (zup S f i x) := by
  obtain ⟨⟨a1, a2⟩, b, c, d, e⟩ := h
  have z : ∀ g k, g ≠ f → zup S f i x g k = S g k := fun g k hg => zup_n (by omega)
  have y : ∀ g k, g ≠ 315 + f → zup σ (315 + f) (7 * v + i) x g k = σ g k := fun g k hg => zup_n (by omega)
  refine ⟨⟨by rw [z 0 0 (by omega), y 315 v (by omega)]; exact a1, by rw [z 0 12 (by omega), y 325 v (by omega)]; exact a2⟩, fun k h1 h2 => ?_, fun m h1 h2 => ?_, fun m k h1 h2 h3 h4 => ?_, fun k h1 h2 => ?_⟩
  · have q := b k h1 h2
    refine ⟨?_, ?_, ?_⟩
    · unfold zup; split <;> split <;> first | rfl | (exfalso; omega) | exact q.1
    · unfold zup; split <;> split <;> first | rfl | (exfalso; omega) | exact q.2.1
    · unfold zup; split <;> split <;> first | rfl | (exfalso; omega) | exact q.2.2
  · rw [z 4 m (by omega), z 5 m (by omega), z 6 m (by omega), z 7 m (by omega), z 8 m (by omega), y 319 _ (by omega), y 320 _ (by omega), y 321 _ (by omega), y 322 _ (by omega), y 323 _ (by omega)]; exact c m h1 h2
  · rw [z 9 _ (by omega), y 324 _ (by omega)]; exact d m k h1 h2 h3 h4
  · rw [z 0 12 (by omega)] at h2
    rw [z 0 11 (by omega), z 10 _ (by omega), y 326 _ (by omega), y 326 _ (by omega), y 326 _ (by omega), y 326 _ (by omega)]; exact e k h1 h2
theorem rM_m {σ S : zv_H} {nc nm v f i x : Int} (h : rM σ nc nm v S) (hf : 4 ≤ f ∧ f ≤ 8) (hi : 0 ≤ i ∧ i < 6) (hm : nm ≤ 6) : rM (zup σ (315 + f) (6 * v + i) x) nc nm v (zup S f i x) := by
  obtain ⟨⟨a1, a2⟩, b, c, d, e⟩ := h
  have z : ∀ g k, g ≠ f → zup S f i x g k = S g k := fun g k hg => zup_n (by omega)
  have y : ∀ g k, g ≠ 315 + f → zup σ (315 + f) (6 * v + i) x g k = σ g k := fun g k hg => zup_n (by omega)
  refine ⟨⟨by rw [z 0 0 (by omega), y 315 v (by omega)]; exact a1, by rw [z 0 12 (by omega), y 325 v (by omega)]; exact a2⟩, fun k h1 h2 => ?_, fun m h1 h2 => ?_, fun m k h1 h2 h3 h4 => ?_, fun k h1 h2 => ?_⟩
  · rw [z 1 k (by omega), z 2 k (by omega), z 3 k (by omega), y 316 _ (by omega), y 317 _ (by omega), y 318 _ (by omega)]; exact b k h1 h2
  · have q := c m h1 h2
    refine ⟨?_, ?_, ?_, ?_, ?_⟩
    · unfold zup; split <;> split <;> first | rfl | (exfalso; omega) | exact q.1
    · unfold zup; split <;> split <;> first | rfl | (exfalso; omega) | exact q.2.1
    · unfold zup; split <;> split <;> first | rfl | (exfalso; omega) | exact q.2.2.1
    · unfold zup; split <;> split <;> first | rfl | (exfalso; omega) | exact q.2.2.2.1
    · unfold zup; split <;> split <;> first | rfl | (exfalso; omega) | exact q.2.2.2.2
  · rw [z 9 _ (by omega), y 324 _ (by omega)]; exact d m k h1 h2 h3 h4
  · rw [z 0 12 (by omega)] at h2
    rw [z 0 11 (by omega), z 10 _ (by omega), y 326 _ (by omega), y 326 _ (by omega), y 326 _ (by omega), y 326 _ (by omega)]; exact e k h1 h2
theorem rM_x {σ σ' S : zv_H} {nc nm v : Int} (h : rM σ nc nm v S) (he : ∀ x k, 315 ≤ x → x ≤ 326 → σ' x k = σ x k) : rM σ' nc nm v S := by
  obtain ⟨⟨a1, a2⟩, b, c, d, e⟩ := h
  refine ⟨⟨by rw [he 315 v (by omega) (by omega)]; exact a1, by rw [he 325 v (by omega) (by omega)]; exact a2⟩, fun k h1 h2 => ?_, fun m h1 h2 => ?_, fun m k h1 h2 h3 h4 => ?_, fun k h1 h2 => ?_⟩
  · rw [he 316 _ (by omega) (by omega), he 317 _ (by omega) (by omega), he 318 _ (by omega) (by omega)]; exact b k h1 h2
  · rw [he 319 _ (by omega) (by omega), he 320 _ (by omega) (by omega), he 321 _ (by omega) (by omega), he 322 _ (by omega) (by omega), he 323 _ (by omega) (by omega)]; exact c m h1 h2
  · rw [he 324 _ (by omega) (by omega)]; exact d m k h1 h2 h3 h4
  · rw [he 326 _ (by omega) (by omega), he 326 _ (by omega) (by omega), he 326 _ (by omega) (by omega), he 326 _ (by omega) (by omega)]; exact e k h1 h2
theorem wM_x {σ σ' Wm : zv_H} {b v : Int} (h : wM σ b Wm) (he : mfr v σ σ') : wM σ' b Wm := by
  have y : ∀ x k, 291 ≤ x → x ≤ 307 → σ' x k = σ x k := fun x k h1 h2 => he x k (by unfold inV; omega) (by omega) (by omega)
  have yf : ∀ x, 291 ≤ x → x ≤ 307 → σ' x = σ x := fun x h1 h2 => funext (fun k => y x k h1 h2)
  unfold wM fmM at h ⊢
  rw [yf 291 (by omega) (by omega), yf 292 (by omega) (by omega), yf 293 (by omega) (by omega), yf 294 (by omega) (by omega), yf 295 (by omega) (by omega), yf 297 (by omega) (by omega), yf 298 (by omega) (by omega), yf 299 (by omega) (by omega), yf 300 (by omega) (by omega), yf 301 (by omega) (by omega), yf 302 (by omega) (by omega), yf 303 (by omega) (by omega), yf 304 (by omega) (by omega), yf 305 (by omega) (by omega), yf 306 (by omega) (by omega), yf 307 (by omega) (by omega)]
  exact h
/-- the model holds S at v, its war is Wm in bank b -/
def stM (σ0 σ : zv_H) (b v : Int) (Wm S : zv_H) : Prop := rM σ (Wm 0 1) (Wm 0 3) v S ∧ wM σ b Wm ∧ σ 289 13 = b ∧ mfr v σ0 σ
theorem stM_s {σ0 σ σ' Wm S S' : zv_H} {b v : Int} (h : stM σ0 σ b v Wm S) (h1 : rM σ' (Wm 0 1) (Wm 0 3) v S') (h2 : mfr v σ σ') : stM σ0 σ' b v Wm S' := ⟨h1, wM_x h.2.1 h2, by rw [h2 289 13 (by unfold inV; omega) (by omega) (by omega)]; exact h.2.2.1, mfr_tr h.2.2.2 h2⟩
theorem mfr_c {σ : zv_H} {v f i x : Int} (hf : 1 ≤ f ∧ f ≤ 3) (hi : 0 ≤ i ∧ i < 7) : mfr v σ (zup σ (315 + f) (7 * v + i) x) := fun g k a b c => zup_n (fun q => a (by unfold inV; omega))
theorem mfr_m {σ : zv_H} {v f i x : Int} (hf : 4 ≤ f ∧ f ≤ 8) (hi : 0 ≤ i ∧ i < 6) : mfr v σ (zup σ (315 + f) (6 * v + i) x) := fun g k a b c => zup_n (fun q => a (by unfold inV; omega))
theorem stM_c {σ0 σ Wm S : zv_H} {b v f i x : Int} (h : stM σ0 σ b v Wm S) (hf : 1 ≤ f ∧ f ≤ 3) (hi : 0 ≤ i ∧ i < 7) (hc : Wm 0 1 ≤ 7) : stM σ0 (zup σ (315 + f) (7 * v + i) x) b v Wm (zup S f i x) := stM_s h (rM_c h.1 hf hi hc) (mfr_c hf hi)
theorem stM_m {σ0 σ Wm S : zv_H} {b v f i x : Int} (h : stM σ0 σ b v Wm S) (hf : 4 ≤ f ∧ f ≤ 8) (hi : 0 ≤ i ∧ i < 6) (hm : Wm 0 3 ≤ 6) : stM σ0 (zup σ (315 + f) (6 * v + i) x) b v Wm (zup S f i x) := stM_s h (rM_m h.1 hf hi hm) (mfr_m hf hi)
theorem knw_iff {Wm S : zv_H} {m c t : Int} : knwF Wm S m c t = true ↔ ∃ o : Nat, o < (Wm 0 3).toNat ∧ Wm 7 o = Wm 7 m ∧ S 9 ((o : Int) * 7 + c) ≤ t := zknB_iff _ _ _ _ _ _
set_option maxHeartbeats 4000000 in
set_option maxRecDepth 20000 in
theorem c_M_isKnown {Γ : zv_M} {L : Int} {σ0 σ Wm S : zv_H} {b v : Int} (hb1 : b = 0 ∨ b = 1) (hv : 0 ≤ v ∧ v < 22) (h0 : stM σ0 σ b v Wm S) (hSI : SI (Wm 0 1) (Wm 0 3) S) (hWI : WI Wm) {m c t : Int} (hm : 0 ≤ m ∧ m < Wm 0 3) (hc : 0 ≤ c ∧ c < Wm 0 1) (ht : t < 1000000) : zC Γ m_M_isKnown 1 0 0 (GM L) [zR 289, zI v, zI m, zI c, zI t] σ (zFn (some (zI (zB (knwF Wm S m c t)))) (GM L) σ) := by
  refine zC_of (ls0 := [_, _, _, _, _, _]) zm_M_isKnown (by decide) rfl (Nat.le_of_ble_eq_true rfl) ?_
  generalize hQ : (zFn (some (zI (zB (knwF Wm S m c t)))) (GM L) σ) = Q
  have hb := h0.2.2.1
  have w1 := hWI.1
  have w3 := hWI.2.2.1
  have bl := hSI.2.2.2.2.2.1
  refine ziconst (k := 0) rfl (by decide) ?_
  refine zistore (k := 1) (ls' := [_, _, _, _, _, _]) rfl (Nat.le_of_ble_eq_true rfl) rfl ?_
  have lp3 : ∀ (g : Nat) (o : Nat), ((Wm 0 3).toNat - o) < g → ((o : Int) ≤ Wm 0 3) → (∀ u : Nat, u < o → ¬ (Wm 7 u = Wm 7 m ∧ S 9 ((u : Int) * 7 + c) ≤ t)) → zV Γ m_M_isKnown 1 0 0 Q (GM L) (0, 0) 3 [some (zR 289), some (zI v), some (zI m), some (zI c), some (zI t), some (zI o)] [] σ := by
    intro g
    induction g with
    | zero => intro o hg; exact absurd hg (Nat.not_lt_zero _)
    | succ g ih3 =>
      intro o hg hj hf
      refine ziload (k := 2) rfl rfl ?_
      refine zaload_n (k := 3) rfl rfl ?_
      refine zgF 21 (k := 4) rfl ob_289 fl_12_75 rfl fx_289_21 ?_
      refine zaload_n (k := 5) rfl rfl ?_
      refine zgI 13 (k := 6) rfl ob_289 fl_12_51 rfl fx_289_13 ?_
      rw [hb]
      refine ziaload (k := 7) rfl ar_298 ⟨by omega, by omega⟩ ?_
      rw [h0.2.1.1.2.2.1]
      refine zicmp_ge (k := 8) rfl rfl (fun c1 => ?_) (fun c1 => ?_)
      · skip
        refine ziconst (k := 34) rfl (by decide) ?_
        refine zzreturn (k := 35) rfl rfl (by first | exact Or.inl rfl | exact Or.inr rfl | omega) rfl ?_
        rw [← hQ]
        have e : knwF Wm S m c t = false := by
          cases hh : knwF Wm S m c t
          · rfl
          · obtain ⟨u, u1, u2⟩ := knw_iff.mp hh
            exact absurd u2 (hf u (by omega))
        exact ⟨by rw [e]; rfl, rfl, rfl⟩
      · skip
        refine zaload_n (k := 9) rfl rfl ?_
        refine ziload (k := 10) rfl rfl ?_
        refine zfV1 (k := 11) rfl (c_M_signs hb hb1 (by omega)) fm_M_signs lk_12_459 rfl rfl ob_289 ⟨_, rfl, rfl⟩ (Nat.le_of_ble_eq_true rfl) (by decide) ⟨by decide, by decide⟩ ?_
        rw [(h0.2.1.2.2.1 _ (by omega) (by omega)).2.1]
        refine zaload_n (k := 12) rfl rfl ?_
        refine ziload_n (k := 13) rfl rfl ?_
        refine zfV1 (k := 14) rfl (c_M_signs hb hb1 (by omega)) fm_M_signs lk_12_459 rfl rfl ob_289 ⟨_, rfl, rfl⟩ (Nat.le_of_ble_eq_true rfl) (by decide) ⟨by decide, by decide⟩ ?_
        rw [(h0.2.1.2.2.1 _ hm.1 hm.2).2.1]
        refine zicmp_ne (k := 15) rfl rfl (fun c2 => ?_) (fun c2 => ?_)
        · skip
          refine ziincB (k := 32) (ls' := [_, _, _, _, _, _]) rfl rfl (by decide) (by omega) rfl ?_
          refine zgoto (k := 33) rfl rfl ?_
          refine ih3 (o + 1) (by omega) (by omega) (fun u hu => ?_)
          by_cases e : u = o
          · rw [e]; omega
          · exact hf u (by omega)
        · skip
          refine zaload_n (k := 16) rfl rfl ?_
          refine ziload_n (k := 17) rfl rfl ?_
          refine ziload (k := 18) rfl rfl ?_
          refine ziload_n (k := 19) rfl rfl ?_
          refine zfV1 (k := 20) rfl (c_M_due hv (by omega) (by omega)) fm_M_due lk_12_462 rfl rfl ob_289 ⟨_, rfl, rfl⟩ (Nat.le_of_ble_eq_true rfl) (by decide) ⟨by decide, by decide⟩ ?_
          have bo := bl ((o : Int) * 7 + c) (by omega) (by omega)
          rw [h0.1.2.2.2.1 (o : Int) c (by omega) (by omega) hc.1 hc.2]
          have dd : dueM (S 9 ((o : Int) * 7 + c)) = if S 9 ((o : Int) * 7 + c) = 1000000 then -1 else S 9 ((o : Int) * 7 + c) := rfl
          refine ziconst (k := 21) rfl (by decide) ?_
          refine zicmp_eq (k := 22) rfl rfl (fun c3 => ?_) (fun c3 => ?_)
          · skip
            refine ziincB (k := 32) (ls' := [_, _, _, _, _, _]) rfl rfl (by decide) (by omega) rfl ?_
            refine zgoto (k := 33) rfl rfl ?_
            refine ih3 (o + 1) (by omega) (by omega) (fun u hu => ?_)
            by_cases e : u = o
            · rw [e]; omega
            · exact hf u (by omega)
          · skip
            refine zaload_n (k := 23) rfl rfl ?_
            refine ziload_n (k := 24) rfl rfl ?_
            refine ziload (k := 25) rfl rfl ?_
            refine ziload_n (k := 26) rfl rfl ?_
            refine zfV1 (k := 27) rfl (c_M_due hv (by omega) (by omega)) fm_M_due lk_12_462 rfl rfl ob_289 ⟨_, rfl, rfl⟩ (Nat.le_of_ble_eq_true rfl) (by decide) ⟨by decide, by decide⟩ ?_
            rw [h0.1.2.2.2.1 (o : Int) c (by omega) (by omega) hc.1 hc.2]
            refine ziload (k := 28) rfl rfl ?_
            refine zicmp_gt (k := 29) rfl rfl (fun c4 => ?_) (fun c4 => ?_)
            · skip
              refine ziincB (k := 32) (ls' := [_, _, _, _, _, _]) rfl rfl (by decide) (by omega) rfl ?_
              refine zgoto (k := 33) rfl rfl ?_
              refine ih3 (o + 1) (by omega) (by omega) (fun u hu => ?_)
              by_cases e : u = o
              · rw [e]; omega
              · exact hf u (by omega)
            · skip
              refine ziconst (k := 30) rfl (by decide) ?_
              refine zzreturn (k := 31) rfl rfl (by first | exact Or.inl rfl | exact Or.inr rfl | omega) rfl ?_
              rw [← hQ]
              have e : knwF Wm S m c t = true := knw_iff.mpr ⟨o, by omega, by omega, by omega⟩
              exact ⟨by rw [e]; rfl, rfl, rfl⟩
  exact lp3 _ 0 (Nat.lt_succ_self _) (by omega) (fun u hu => absurd hu (Nat.not_lt_zero _))
