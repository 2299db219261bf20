/-! reckon: the whole formula -/
def rfr (σ σ' : zv_H) : Prop := ∀ x k, x ≠ 57 → ¬ (x = 56 ∧ k = 1) → σ' x k = σ x k
theorem gst_c {v : Int} {r : List Int} (h : gst (v :: r)) : (-1000000 ≤ v ∧ v ≤ 1000000) ∧ gst r := ⟨h v List.mem_cons_self, fun w hw => h w (List.mem_cons_of_mem _ hw)⟩
theorem zC_mono {Γ : zv_M} {y : zv_Y} {f mc ms : Nat} {G : zv_W} {as : List zv_A} {σ : zv_H} {Q Q2 : zv_P} (h : ∀ r G' σ', Q2 r G' σ' → Q r G' σ') (hC : zC Γ y f mc ms G as σ Q2) : zC Γ y f mc ms G as σ Q := by
  intro he l p e ha hc hk s m args below hf happ hP hK
  obtain ⟨k, o, h1, h2, h3, ⟨r, G', σ', g1, g2⟩, hL⟩ := hC he l p e ha hc hk s m args below hf happ hP hK
  exact ⟨k, o, h1, h2, h3, ⟨r, G', σ', h _ _ _ g1, g2⟩, hL⟩
def rst (σ σ1 : zv_H) (st : List Int) : Prop := σ1 56 1 = (st.length : Int) ∧ srr σ1 57 st ∧ rfr σ σ1
theorem rst_e {σ σ1 : zv_H} {st : List Int} (h : rst σ σ1 st) {x k : Int} (h1 : x ≠ 57) (h2 : ¬ (x = 56 ∧ k = 1)) : σ1 x k = σ x k := h.2.2 x k h1 h2
theorem c_pop {Γ : zv_M} {L : Int} {σ σ1 : zv_H} {v : Int} {r : List Int} (h : rst σ σ1 (v :: r)) (h6 : (v :: r).length ≤ 64) : zC Γ m_Reckoner_pop 0 0 0 (GM L) [zR 56] σ1 (zPL (GM L) (fun z σ' => z = v ∧ rst σ σ' r)) := by
  obtain ⟨h1, h2, h3⟩ := h
  have e : σ1 56 1 = (r.length : Int) + 1 := by rw [h1]; simp
  have h6 : r.length + 1 ≤ 64 := h6
  refine zC_mono (fun q G' σ' hq => ?_) (c_Reckoner_pop (by omega))
  obtain ⟨rfl, rfl, rfl⟩ := hq
  refine ⟨rfl, _, rfl, ?_, ?_, ?_, ?_⟩
  · rw [e, Int.add_sub_cancel]; exact h2.1
  · rw [zup_s, e]; omega
  · exact srr_of (fun k => zup_n (by omega)) h2.2
  · intro x k g1 g2
    rw [zup_n g2]; exact h3 x k g1 g2
theorem c_push {Γ : zv_M} {L : Int} {σ σ1 : zv_H} {v : Int} {r : List Int} (h : rst σ σ1 r) (h6 : r.length < 64) : zC Γ m_Reckoner_push 0 0 0 (GM L) [zR 56, zL v] σ1 (zP0 (GM L) (fun σ' => rst σ σ' (v :: r))) := by
  obtain ⟨h1, h2, h3⟩ := h
  refine zC_mono (fun q G' σ' hq => ?_) (c_Reckoner_push (by omega))
  obtain ⟨rfl, rfl, rfl⟩ := hq
  refine ⟨rfl, rfl, ?_, ⟨?_, ?_⟩, ?_⟩
  · rw [zup_s, h1]; simp
  · rw [zup_n (by omega), h1, zup_s]
  · exact srr_of (fun k => zup_n (by omega)) (srr_up (by omega) h2)
  · intro x k g1 g2
    rw [zup_n g2, zup_n (fun q => g1 q.1)]; exact h3 x k g1 g2
theorem evs_8 (E : Int → Int) (v : Int) (r : List Int) : evs E (-8) (v :: r) = (1 - v) :: r := rfl
theorem evs_9 (E : Int → Int) (w t v : Int) (r : List Int) : evs E (-9) (w :: t :: v :: r) = (if v ≠ 0 then t else w) :: r := rfl
theorem evs_n {E : Int → Int} {s : Int} (h : 0 ≤ s) (r : List Int) : evs E s r = s :: r := if_pos h
theorem evs_a {E : Int → Int} {s : Int} (h : -7 ≤ s ∧ s < 0) (r : List Int) : evs E s r = E s :: r := by unfold evs; rw [if_neg (by omega), if_pos h.1]
theorem evs_j {E : Int → Int} {s : Int} (h : s < -9) (y x : Int) (r : List Int) : evs E s (y :: x :: r) = max (-1000000) (min 1000000 (jn s x y)) :: r := by
  unfold evs
  rw [if_neg (by omega), if_neg (by omega), if_neg (by omega), if_neg (by omega)]
set_option maxHeartbeats 4000000 in
set_option maxRecDepth 20000 in
theorem c_Reckoner_reckon {Γ : zv_M} {L : Int} {a : Int} {σ : zv_H} (hf : a ∈ fmL) (N : Nat) (hN : σ a 1 = N) (hN2 : N ≤ 1600) (E : Int → Int) (hE : ∀ s : Int, -7 ≤ s → s ≤ -1 → E s = σ 56 (1 - s)) (hok : crok E (σ (a + 1)) N) : zC Γ m_Reckoner_reckon 2 0 0 (GM L) [zR 56, zR a] σ (zPL (GM L) (fun z σ' => (∃ r, crun E (σ (a + 1)) N = z :: r) ∧ rfr σ σ')) := by
  refine zC_of (ls0 := [_, _, _, _, _, _, _, _, _, _]) zm_Reckoner_reckon (by decide) rfl (Nat.le_of_ble_eq_true rfl) ?_
  generalize hQ : (zPL (GM L) (fun z σ' => (∃ r, crun E (σ (a + 1)) N = z :: r) ∧ rfr σ σ')) = Q
  have hpos := fm_pos hf
  have h56 : a ≠ 56 ∧ a ≠ 57 ∧ a + 1 ≠ 56 ∧ a + 1 ≠ 57 := by
    simp only [fmL, List.mem_cons, List.not_mem_nil, or_false] at hf
    omega
  refine zaload_n (k := 0) rfl rfl ?_
  refine ziconst (k := 1) rfl (by decide) ?_
  refine zpI 1 (k := 2) rfl ob_56 fl_5_15 ⟨_, rfl, rfl⟩ rfl (by omega) rfl fx_56_1 ?_
  refine ziconst (k := 3) rfl (by decide) ?_
  refine zistore_n (k := 4) (ls' := [_, _, _, _, _, _, _, _, _, _]) rfl (Nat.le_of_ble_eq_true rfl) rfl ?_
  have lp7 : ∀ (g : Nat) (j : Nat) (σ1 : zv_H), (N - j) < g → (j ≤ N) → (rst σ σ1 (crun E (σ (a + 1)) j)) → zV Γ m_Reckoner_reckon 2 0 0 Q (GM L) (0, 0) 7 [some (zR 56), some (zR a), some (zI j), none, none, none, none, none, none, none] [] σ1 := by
    intro g
    induction g with
    | zero => intro j σ1 hg; exact absurd hg (Nat.not_lt_zero _)
    | succ g ih7 =>
      intro j σ1 hg hj hst0
      have hlen := (hok.2.1 j hj).1
      have hg := (hok.2.1 j hj).2
      have e1 : σ1 a 1 = N := by rw [rst_e hst0 (by omega) (by omega)]; exact hN
      have es : ∀ k, σ1 (a + 1) k = σ (a + 1) k := fun k => rst_e hst0 (by omega) (by omega)
      have eE : ∀ s : Int, -7 ≤ s → s ≤ -1 → E s = σ1 56 (1 - s) := fun s h1 h2 => by rw [rst_e hst0 (by omega) (by omega)]; exact hE s h1 h2
      refine ziload_n (k := 5) rfl rfl ?_
      refine zaload_n (k := 6) rfl rfl ?_
      refine zgI 1 (k := 7) rfl (fm_ob hf) fl_5_19 rfl (fm_fx_1 hf) ?_
      rw [e1]
      refine zicmp_ge (k := 8) rfl rfl (fun c1 => ?_) (fun c1 => ?_)
      · skip
        have hN2 : j = N := by omega
        subst hN2
        obtain ⟨v1, r1, hcr⟩ : ∃ v r, crun E (σ (a + 1)) j = v :: r := by
          have hn := hok.2.2
          generalize crun E (σ (a + 1)) j = cr at hn
          cases cr with
          | nil => exact absurd hn (by decide)
          | cons v r => exact ⟨v, r, rfl⟩
        rw [hcr] at hst0 hlen
        refine zaload_n (k := 84) rfl rfl ?_
        refine zpVL (k := 85) rfl (c_pop hst0 (by simp only [List.length_cons] at *; omega)) fm_Reckoner_pop lk_5_36 rfl rfl ob_56 ⟨_, rfl, rfl⟩ (Nat.le_of_ble_eq_true rfl) (by decide) ⟨by decide, by decide⟩ (fun z σ2 hz => ?_)
        clear hst0
        obtain ⟨hz, hst0⟩ := hz
        rw [hz]
        refine zlreturn (k := 86) rfl rfl rfl ?_
        rw [← hQ]
        exact ⟨rfl, _, rfl, ⟨_, hcr⟩, hst0.2.2⟩
      · skip
        refine ziload_n (k := 9) rfl rfl ?_
        refine zaload_n (k := 10) rfl rfl ?_
        refine zgF 0 (k := 11) rfl (fm_ob hf) fl_5_24 rfl (fm_fx_0 hf) ?_
        refine zarraylength (k := 12) rfl ((fm_ar_1 hf)).1 ?_
        refine zicmp_ge (k := 13) rfl rfl (fun c2 => ?_) (fun c2 => ?_)
        · skip
          have hN2 : j = N := by omega
          subst hN2
          obtain ⟨v1, r1, hcr⟩ : ∃ v r, crun E (σ (a + 1)) j = v :: r := by
            have hn := hok.2.2
            generalize crun E (σ (a + 1)) j = cr at hn
            cases cr with
            | nil => exact absurd hn (by decide)
            | cons v r => exact ⟨v, r, rfl⟩
          rw [hcr] at hst0 hlen
          refine zaload_n (k := 84) rfl rfl ?_
          refine zpVL (k := 85) rfl (c_pop hst0 (by simp only [List.length_cons] at *; omega)) fm_Reckoner_pop lk_5_36 rfl rfl ob_56 ⟨_, rfl, rfl⟩ (Nat.le_of_ble_eq_true rfl) (by decide) ⟨by decide, by decide⟩ (fun z σ2 hz => ?_)
          clear hst0
          obtain ⟨hz, hst0⟩ := hz
          rw [hz]
          refine zlreturn (k := 86) rfl rfl rfl ?_
          rw [← hQ]
          exact ⟨rfl, _, rfl, ⟨_, hcr⟩, hst0.2.2⟩
        · skip
          refine zaload_n (k := 14) rfl rfl ?_
          refine zgF 0 (k := 15) rfl (fm_ob hf) fl_5_24 rfl (fm_fx_0 hf) ?_
          refine ziload_n (k := 16) rfl rfl ?_
          refine ziaload (k := 17) rfl (fm_ar_1 hf) ⟨by omega, by omega⟩ ?_
          rw [es]
          have hst := hok.1 j (by omega)
          have hst2 := hok.2.1 (j + 1) (by omega)
          rw [crun_s] at hst2
          generalize hs : σ (a + 1) j = s at hst hst2
          generalize hc : crun E (σ (a + 1)) j = cr at hst hst2 hst0 hlen hg
          refine zistore_n (k := 18) (ls' := [_, _, _, _, _, _, _, _, _, _]) rfl (Nat.le_of_ble_eq_true rfl) rfl ?_
          refine ziload_n (k := 19) rfl rfl ?_
          refine zbipush (k := 20) rfl rfl ?_
          refine zicmp_lt (k := 21) rfl rfl (fun c3 => ?_) (fun c3 => ?_)
          · skip
            refine ziload_n (k := 34) rfl rfl ?_
            refine zbipush (k := 35) rfl rfl ?_
            refine zicmp_ne (k := 36) rfl rfl (fun c4 => ?_) (fun c4 => ?_)
            · skip
              refine ziload_n (k := 44) rfl rfl ?_
              refine zbipush (k := 45) rfl rfl ?_
              refine zicmp_ne (k := 46) rfl rfl (fun c5 => ?_) (fun c5 => ?_)
              · skip
                obtain ⟨y1, x1, r1, rfl⟩ : ∃ y x r, cr = y :: x :: r := by
                  have hn : 2 ≤ cr.length := by
                    have := hst.1
                    unfold ned at this
                    rw [if_neg (by omega), if_neg (by omega), if_neg (by omega)] at this
                    exact this
                  match cr, hn with
                  | y :: x :: r, _ => exact ⟨y, x, r, rfl⟩
                have hg1 := gst_c hg
                have hg2 := gst_c hg1.2
                refine zaload_n (k := 64) rfl rfl ?_
                refine zpVL (k := 65) rfl (c_pop hst0 (by simp only [List.length_cons] at *; omega)) fm_Reckoner_pop lk_5_36 rfl rfl ob_56 ⟨_, rfl, rfl⟩ (Nat.le_of_ble_eq_true rfl) (by decide) ⟨by decide, by decide⟩ (fun z σ2 hz => ?_)
                clear hst0
                obtain ⟨hz, hst0⟩ := hz
                rw [hz]
                refine zlstore (k := 66) (ls' := [_, _, _, _, _, _, _, _, _, _]) rfl (Nat.le_of_ble_eq_true rfl) rfl ?_
                refine zaload_n (k := 67) rfl rfl ?_
                refine zpVL (k := 68) rfl (c_pop hst0 (by simp only [List.length_cons] at *; omega)) fm_Reckoner_pop lk_5_36 rfl rfl ob_56 ⟨_, rfl, rfl⟩ (Nat.le_of_ble_eq_true rfl) (by decide) ⟨by decide, by decide⟩ (fun z σ2 hz => ?_)
                clear hst0
                obtain ⟨hz, hst0⟩ := hz
                rw [hz]
                refine zlstore (k := 69) (ls' := [_, _, _, _, _, _, _, _, _, _]) rfl (Nat.le_of_ble_eq_true rfl) rfl ?_
                refine ziload_n (k := 70) rfl rfl ?_
                refine zlload (k := 71) rfl rfl ?_
                refine zlload (k := 72) rfl rfl ?_
                refine zfS1 (k := 73) rfl (c_Reckoner_joined (by omega) (by omega) (by omega)) fm_Reckoner_joined lk_5_40 rfl rfl (Nat.le_of_ble_eq_true rfl) (by decide) ⟨by decide, by decide⟩ ?_
                refine zlstore (k := 74) (ls' := [_, _, _, _, _, _, _, _, _, _]) rfl (Nat.le_of_ble_eq_true rfl) rfl ?_
                refine zaload_n (k := 75) rfl rfl ?_
                refine zldc2 (k := 76) (z := -1000000) rfl kc_5_44 rfl ?_
                refine zldc2 (k := 77) (z := 1000000) rfl kc_5_46 rfl ?_
                refine zlload (k := 78) rfl rfl ?_
                refine zfS1 (k := 79) rfl c_J_minL fm_J_minL lk_5_48 rfl rfl (Nat.le_of_ble_eq_true rfl) (by decide) ⟨by decide, by decide⟩ ?_
                refine zfS1 (k := 80) rfl c_J_maxL fm_J_maxL lk_5_54 rfl rfl (Nat.le_of_ble_eq_true rfl) (by decide) ⟨by decide, by decide⟩ ?_
                refine zpV0 (k := 81) rfl (c_push (r := r1) hst0 (by simp only [List.length_cons] at *; omega)) fm_Reckoner_push lk_5_32 rfl rfl ob_56 ⟨_, rfl, rfl⟩ (Nat.le_of_ble_eq_true rfl) (by decide) ⟨by decide, by decide⟩ (fun σ2 hst0 => ?_)
                first
                | (rw [show s :: cr = evs E s cr from (evs_n (by omega) cr).symm] at hst0)
                | (rw [show E s :: cr = evs E s cr from (evs_a (by omega) cr).symm] at hst0)
                | (have e : s = -8 := by omega
                   subst e
                   rw [← evs_8 E] at hst0)
                | (have e : s = -9 := by omega
                   subst e
                   rw [show t1 :: r1 = evs E (-9) (w1 :: t1 :: v1 :: r1) by rw [evs_9, if_pos (by simp only [ne_eq, zcc2] at *; assumption)]] at hst0)
                | (have e : s = -9 := by omega
                   subst e
                   rw [show w1 :: r1 = evs E (-9) (w1 :: t1 :: v1 :: r1) by rw [evs_9, if_neg (by simp only [ne_eq, zcc2, Decidable.not_not] at *; assumption)]] at hst0)
                | (rw [← evs_j (E := E) (by omega) y1 x1 r1] at hst0)
                refine ziincB (k := 82) (ls' := [_, _, _, _, _, _, _, _, _, _]) rfl rfl (by decide) (by omega) rfl ?_
                refine zgoto (k := 83) rfl rfl ?_
                refine zforget (ls' := [_, _, _, _, _, _, _, _, _, _]) 3 rfl ?_
                refine zforget (ls' := [_, _, _, _, _, _, _, _, _, _]) 4 rfl ?_
                refine zforget (ls' := [_, _, _, _, _, _, _, _, _, _]) 6 rfl ?_
                refine zforget (ls' := [_, _, _, _, _, _, _, _, _, _]) 8 rfl ?_
                have hst9 : rst σ _ (crun E (σ (a + 1)) (j + 1)) := (by rw [crun_s, hs, hc]; exact hst0)
                exact ih7 (j + 1) _ (by omega) (by omega) hst9
              · skip
                obtain ⟨w1, t1, v1, r1, rfl⟩ : ∃ w t v r, cr = w :: t :: v :: r := by
                  have hn : 3 ≤ cr.length := by have := hst.1; rw [show s = -9 by omega] at this; exact this
                  match cr, hn with
                  | w :: t :: v :: r, _ => exact ⟨w, t, v, r, rfl⟩
                refine zaload_n (k := 47) rfl rfl ?_
                refine zpVL (k := 48) rfl (c_pop hst0 (by simp only [List.length_cons] at *; omega)) fm_Reckoner_pop lk_5_36 rfl rfl ob_56 ⟨_, rfl, rfl⟩ (Nat.le_of_ble_eq_true rfl) (by decide) ⟨by decide, by decide⟩ (fun z σ2 hz => ?_)
                clear hst0
                obtain ⟨hz, hst0⟩ := hz
                rw [hz]
                refine zlstore (k := 49) (ls' := [_, _, _, _, _, _, _, _, _, _]) rfl (Nat.le_of_ble_eq_true rfl) rfl ?_
                refine zaload_n (k := 50) rfl rfl ?_
                refine zpVL (k := 51) rfl (c_pop hst0 (by simp only [List.length_cons] at *; omega)) fm_Reckoner_pop lk_5_36 rfl rfl ob_56 ⟨_, rfl, rfl⟩ (Nat.le_of_ble_eq_true rfl) (by decide) ⟨by decide, by decide⟩ (fun z σ2 hz => ?_)
                clear hst0
                obtain ⟨hz, hst0⟩ := hz
                rw [hz]
                refine zlstore (k := 52) (ls' := [_, _, _, _, _, _, _, _, _, _]) rfl (Nat.le_of_ble_eq_true rfl) rfl ?_
                refine zaload_n (k := 53) rfl rfl ?_
                refine zaload_n (k := 54) rfl rfl ?_
                refine zpVL (k := 55) rfl (c_pop hst0 (by simp only [List.length_cons] at *; omega)) fm_Reckoner_pop lk_5_36 rfl rfl ob_56 ⟨_, rfl, rfl⟩ (Nat.le_of_ble_eq_true rfl) (by decide) ⟨by decide, by decide⟩ (fun z σ2 hz => ?_)
                clear hst0
                obtain ⟨hz, hst0⟩ := hz
                rw [hz]
                refine zlconst (k := 56) (z := 0) rfl rfl ?_
                refine zlcmp (k := 57) rfl ?_
                refine zif_eq (k := 58) rfl rfl (fun c6 => ?_) (fun c6 => ?_)
                · skip
                  refine zlload (k := 61) rfl rfl ?_
                  refine zpV0 (k := 62) rfl (c_push (r := r1) hst0 (by simp only [List.length_cons] at *; omega)) fm_Reckoner_push lk_5_32 rfl rfl ob_56 ⟨_, rfl, rfl⟩ (Nat.le_of_ble_eq_true rfl) (by decide) ⟨by decide, by decide⟩ (fun σ2 hst0 => ?_)
                  refine zgoto (k := 63) rfl rfl ?_
                  first
                  | (rw [show s :: cr = evs E s cr from (evs_n (by omega) cr).symm] at hst0)
                  | (rw [show E s :: cr = evs E s cr from (evs_a (by omega) cr).symm] at hst0)
                  | (have e : s = -8 := by omega
                     subst e
                     rw [← evs_8 E] at hst0)
                  | (have e : s = -9 := by omega
                     subst e
                     rw [show t1 :: r1 = evs E (-9) (w1 :: t1 :: v1 :: r1) by rw [evs_9, if_pos (by simp only [ne_eq, zcc2] at *; assumption)]] at hst0)
                  | (have e : s = -9 := by omega
                     subst e
                     rw [show w1 :: r1 = evs E (-9) (w1 :: t1 :: v1 :: r1) by rw [evs_9, if_neg (by simp only [ne_eq, zcc2, Decidable.not_not] at *; assumption)]] at hst0)
                  | (rw [← evs_j (E := E) (by omega) y1 x1 r1] at hst0)
                  refine ziincB (k := 82) (ls' := [_, _, _, _, _, _, _, _, _, _]) rfl rfl (by decide) (by omega) rfl ?_
                  refine zgoto (k := 83) rfl rfl ?_
                  refine zforget (ls' := [_, _, _, _, _, _, _, _, _, _]) 3 rfl ?_
                  refine zforget (ls' := [_, _, _, _, _, _, _, _, _, _]) 4 rfl ?_
                  refine zforget (ls' := [_, _, _, _, _, _, _, _, _, _]) 6 rfl ?_
                  have hst9 : rst σ _ (crun E (σ (a + 1)) (j + 1)) := (by rw [crun_s, hs, hc]; exact hst0)
                  exact ih7 (j + 1) _ (by omega) (by omega) hst9
                · skip
                  refine zlload (k := 59) rfl rfl ?_
                  refine zgoto (k := 60) rfl rfl ?_
                  refine zpV0 (k := 62) rfl (c_push (r := r1) hst0 (by simp only [List.length_cons] at *; omega)) fm_Reckoner_push lk_5_32 rfl rfl ob_56 ⟨_, rfl, rfl⟩ (Nat.le_of_ble_eq_true rfl) (by decide) ⟨by decide, by decide⟩ (fun σ2 hst0 => ?_)
                  refine zgoto (k := 63) rfl rfl ?_
                  first
                  | (rw [show s :: cr = evs E s cr from (evs_n (by omega) cr).symm] at hst0)
                  | (rw [show E s :: cr = evs E s cr from (evs_a (by omega) cr).symm] at hst0)
                  | (have e : s = -8 := by omega
                     subst e
                     rw [← evs_8 E] at hst0)
                  | (have e : s = -9 := by omega
                     subst e
                     rw [show t1 :: r1 = evs E (-9) (w1 :: t1 :: v1 :: r1) by rw [evs_9, if_pos (by simp only [ne_eq, zcc2] at *; assumption)]] at hst0)
                  | (have e : s = -9 := by omega
                     subst e
                     rw [show w1 :: r1 = evs E (-9) (w1 :: t1 :: v1 :: r1) by rw [evs_9, if_neg (by simp only [ne_eq, zcc2, Decidable.not_not] at *; assumption)]] at hst0)
                  | (rw [← evs_j (E := E) (by omega) y1 x1 r1] at hst0)
                  refine ziincB (k := 82) (ls' := [_, _, _, _, _, _, _, _, _, _]) rfl rfl (by decide) (by omega) rfl ?_
                  refine zgoto (k := 83) rfl rfl ?_
                  refine zforget (ls' := [_, _, _, _, _, _, _, _, _, _]) 3 rfl ?_
                  refine zforget (ls' := [_, _, _, _, _, _, _, _, _, _]) 4 rfl ?_
                  refine zforget (ls' := [_, _, _, _, _, _, _, _, _, _]) 6 rfl ?_
                  have hst9 : rst σ _ (crun E (σ (a + 1)) (j + 1)) := (by rw [crun_s, hs, hc]; exact hst0)
                  exact ih7 (j + 1) _ (by omega) (by omega) hst9
            · skip
              obtain ⟨v1, r1, rfl⟩ : ∃ v r, cr = v :: r := by
                cases cr with
                | nil => exact absurd hst.1 (by rw [show s = -8 by omega]; decide)
                | cons v r => exact ⟨v, r, rfl⟩
              have hg1 := gst_c hg
              refine zaload_n (k := 37) rfl rfl ?_
              refine zlconst (k := 38) (z := 1) rfl rfl ?_
              refine zaload_n (k := 39) rfl rfl ?_
              refine zpVL (k := 40) rfl (c_pop hst0 (by simp only [List.length_cons] at *; omega)) fm_Reckoner_pop lk_5_36 rfl rfl ob_56 ⟨_, rfl, rfl⟩ (Nat.le_of_ble_eq_true rfl) (by decide) ⟨by decide, by decide⟩ (fun z σ2 hz => ?_)
              clear hst0
              obtain ⟨hz, hst0⟩ := hz
              rw [hz]
              refine zlsubB (k := 41) rfl (by omega) ?_
              refine zpV0 (k := 42) rfl (c_push (r := r1) hst0 (by simp only [List.length_cons] at *; omega)) fm_Reckoner_push lk_5_32 rfl rfl ob_56 ⟨_, rfl, rfl⟩ (Nat.le_of_ble_eq_true rfl) (by decide) ⟨by decide, by decide⟩ (fun σ2 hst0 => ?_)
              refine zgoto (k := 43) rfl rfl ?_
              first
              | (rw [show s :: cr = evs E s cr from (evs_n (by omega) cr).symm] at hst0)
              | (rw [show E s :: cr = evs E s cr from (evs_a (by omega) cr).symm] at hst0)
              | (have e : s = -8 := by omega
                 subst e
                 rw [← evs_8 E] at hst0)
              | (have e : s = -9 := by omega
                 subst e
                 rw [show t1 :: r1 = evs E (-9) (w1 :: t1 :: v1 :: r1) by rw [evs_9, if_pos (by simp only [ne_eq, zcc2] at *; assumption)]] at hst0)
              | (have e : s = -9 := by omega
                 subst e
                 rw [show w1 :: r1 = evs E (-9) (w1 :: t1 :: v1 :: r1) by rw [evs_9, if_neg (by simp only [ne_eq, zcc2, Decidable.not_not] at *; assumption)]] at hst0)
              | (rw [← evs_j (E := E) (by omega) y1 x1 r1] at hst0)
              refine ziincB (k := 82) (ls' := [_, _, _, _, _, _, _, _, _, _]) rfl rfl (by decide) (by omega) rfl ?_
              refine zgoto (k := 83) rfl rfl ?_
              refine zforget (ls' := [_, _, _, _, _, _, _, _, _, _]) 3 rfl ?_
              have hst9 : rst σ _ (crun E (σ (a + 1)) (j + 1)) := (by rw [crun_s, hs, hc]; exact hst0)
              exact ih7 (j + 1) _ (by omega) (by omega) hst9
          · skip
            refine zaload_n (k := 22) rfl rfl ?_
            refine ziload_n (k := 23) rfl rfl ?_
            refine zif_lt (k := 24) rfl rfl (fun c7 => ?_) (fun c7 => ?_)
            · skip
              refine zaload_n (k := 28) rfl rfl ?_
              refine ziload_n (k := 29) rfl rfl ?_
              refine zfV1 (k := 30) rfl (c_Reckoner_asked (by omega)) fm_Reckoner_asked lk_5_28 rfl rfl ob_56 ⟨_, rfl, rfl⟩ (Nat.le_of_ble_eq_true rfl) (by decide) ⟨by decide, by decide⟩ ?_
              rw [← eE _ (by omega) (by omega)]
              refine zi2l (k := 31) rfl ?_
              first | (rw [evs_n (by omega)] at hst2) | (rw [evs_a (by omega)] at hst2)
              refine zpV0 (k := 32) rfl (c_push (r := cr) hst0 (by simp only [List.length_cons] at *; omega)) fm_Reckoner_push lk_5_32 rfl rfl ob_56 ⟨_, rfl, rfl⟩ (Nat.le_of_ble_eq_true rfl) (by decide) ⟨by decide, by decide⟩ (fun σ2 hst0 => ?_)
              refine zgoto (k := 33) rfl rfl ?_
              first
              | (rw [show s :: cr = evs E s cr from (evs_n (by omega) cr).symm] at hst0)
              | (rw [show E s :: cr = evs E s cr from (evs_a (by omega) cr).symm] at hst0)
              | (have e : s = -8 := by omega
                 subst e
                 rw [← evs_8 E] at hst0)
              | (have e : s = -9 := by omega
                 subst e
                 rw [show t1 :: r1 = evs E (-9) (w1 :: t1 :: v1 :: r1) by rw [evs_9, if_pos (by simp only [ne_eq, zcc2] at *; assumption)]] at hst0)
              | (have e : s = -9 := by omega
                 subst e
                 rw [show w1 :: r1 = evs E (-9) (w1 :: t1 :: v1 :: r1) by rw [evs_9, if_neg (by simp only [ne_eq, zcc2, Decidable.not_not] at *; assumption)]] at hst0)
              | (rw [← evs_j (E := E) (by omega) y1 x1 r1] at hst0)
              refine ziincB (k := 82) (ls' := [_, _, _, _, _, _, _, _, _, _]) rfl rfl (by decide) (by omega) rfl ?_
              refine zgoto (k := 83) rfl rfl ?_
              refine zforget (ls' := [_, _, _, _, _, _, _, _, _, _]) 3 rfl ?_
              have hst9 : rst σ _ (crun E (σ (a + 1)) (j + 1)) := (by rw [crun_s, hs, hc]; exact hst0)
              exact ih7 (j + 1) _ (by omega) (by omega) hst9
            · skip
              refine ziload_n (k := 25) rfl rfl ?_
              refine zi2l (k := 26) rfl ?_
              refine zgoto (k := 27) rfl rfl ?_
              first | (rw [evs_n (by omega)] at hst2) | (rw [evs_a (by omega)] at hst2)
              refine zpV0 (k := 32) rfl (c_push (r := cr) hst0 (by simp only [List.length_cons] at *; omega)) fm_Reckoner_push lk_5_32 rfl rfl ob_56 ⟨_, rfl, rfl⟩ (Nat.le_of_ble_eq_true rfl) (by decide) ⟨by decide, by decide⟩ (fun σ2 hst0 => ?_)
              refine zgoto (k := 33) rfl rfl ?_
              first
              | (rw [show s :: cr = evs E s cr from (evs_n (by omega) cr).symm] at hst0)
              | (rw [show E s :: cr = evs E s cr from (evs_a (by omega) cr).symm] at hst0)
              | (have e : s = -8 := by omega
                 subst e
                 rw [← evs_8 E] at hst0)
              | (have e : s = -9 := by omega
                 subst e
                 rw [show t1 :: r1 = evs E (-9) (w1 :: t1 :: v1 :: r1) by rw [evs_9, if_pos (by simp only [ne_eq, zcc2] at *; assumption)]] at hst0)
              | (have e : s = -9 := by omega
                 subst e
                 rw [show w1 :: r1 = evs E (-9) (w1 :: t1 :: v1 :: r1) by rw [evs_9, if_neg (by simp only [ne_eq, zcc2, Decidable.not_not] at *; assumption)]] at hst0)
              | (rw [← evs_j (E := E) (by omega) y1 x1 r1] at hst0)
              refine ziincB (k := 82) (ls' := [_, _, _, _, _, _, _, _, _, _]) rfl rfl (by decide) (by omega) rfl ?_
              refine zgoto (k := 83) rfl rfl ?_
              refine zforget (ls' := [_, _, _, _, _, _, _, _, _, _]) 3 rfl ?_
              have hst9 : rst σ _ (crun E (σ (a + 1)) (j + 1)) := (by rw [crun_s, hs, hc]; exact hst0)
              exact ih7 (j + 1) _ (by omega) (by omega) hst9
  refine lp7 _ 0 _ (Nat.lt_succ_self _) (by omega) ⟨?_, trivial, ?_⟩
  · rw [zup_s]; rfl
  · intro x k h1 h2
    rw [zup_n (by omega)]
