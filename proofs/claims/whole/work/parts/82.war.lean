/-! the whole text -/
def AZ : zv_H := fun f i => if f = 0 ∧ i = 4 then 2 else 0
def warR (T : Int → Int) (n : Int) : Nat → Int → zv_H → List (Int × Int) → List (Int × Int) → zX (zv_H × List (Int × Int) × List (Int × Int)) → Prop
  | 0, _, _, _, _, _ => False
  | g + 1, p, A, J, K, res => (tK T p = 0 ∧ res = Sum.inl (A, J, K)) ∨ (tK T p ≠ 0 ∧ ((80 ≤ A 0 0 ∧ res = Sum.inr (6, tQ T p)) ∨ (A 0 0 < 80 ∧ ((∃ k pl, stR T n p A J K (Sum.inr (k, pl)) ∧ res = Sum.inr (k, pl)) ∨ ∃ (p' : Int) (A' : zv_H) (J' K' : List (Int × Int)), stR T n p A J K (Sum.inl (p', A', J', K')) ∧ ((¬ isSg T p' 59 ∧ res = Sum.inr (1, tP T p')) ∨ (isSg T p' 59 ∧ warR T n g (tN T p') (zup A' 0 0 (A 0 0 + 1)) J' K' res))))))
theorem tkSign_l {T : Int → Int} {u p X : Int} (h : tkSign T u p = Sum.inl X) : isSg T p u ∧ X = tN T p := by
  unfold tkSign at h
  split at h
  · cases h; exact ⟨by assumption, rfl⟩
  · cases h
theorem tkSign_r {T : Int → Int} {u p k pl : Int} (h : tkSign T u p = Sum.inr (k, pl)) : ¬ isSg T p u ∧ k = 1 ∧ pl = tP T p := by
  unfold tkSign at h
  split at h
  · cases h
  · cases h; exact ⟨by assumption, rfl, rfl⟩
theorem stJ_t {σ0 σ σ' : zv_H} {T : Int → Int} {n w p p' : Int} {A : zv_H} {J K : List (Int × Int)} (h : stJ σ0 σ T n w A J K p) (t : tks σ σ') (hs : SCp σ' T p') : stJ σ0 σ' T n w A J K p' := N_stJ h (stN_t (stJ_N h) t hs)
theorem stJ_0 {σ0 σ : zv_H} {T : Int → Int} {n w p v : Int} {A : zv_H} {J K : List (Int × Int)} (h : stJ σ0 σ T n w A J K p) (hA : AI T A) (hv : 0 ≤ v ∧ v ≤ 80) : stJ σ0 (zup σ w 0 v) T n w (zup A 0 0 v) J K p ∧ AI T (zup A 0 0 v) := by
  have hwf := wr_far h.1.2.2.2.2.1
  obtain ⟨a0, a1, a2, a3, a4, a5, a6, a7⟩ := hA
  have r0 : ∀ k, k ≠ 0 → zup A 0 0 v 0 k = A 0 k := fun k hk => zup_n (by omega)
  have rx : ∀ x k, x ≠ 0 → zup A 0 0 v x k = A x k := fun x k hk => zup_n (by omega)
  have hN : stN σ (zup σ w 0 v) T n w (zup A 0 0 v) p := by
    obtain ⟨g1, g2, ⟨a, b, c, d⟩, _, _, _⟩ := h
    refine ⟨RW_w g1 (fun x k q => zup_n (by omega)), SC_x g2 (fun k => zup_n (by omega)), ⟨fun k q1 q2 => ?_, fun i q1 q2 => ?_, fun i q1 q2 => ?_, fun i q1 q2 => ?_⟩, fun x k a b c d => zup_n (by omega)⟩
    · by_cases e : k = 0
      · rw [e, zup_s, zup_s]
      · rw [zup_n (by omega), r0 k e]; exact a k q1 q2
    · rw [r0 1 (by omega)] at q2
      rw [rx 1 i (by omega), rx 2 i (by omega), rx 3 i (by omega), rx 4 i (by omega), zup_n (by omega), zup_n (by omega), zup_n (by omega), zup_n (by omega)]; exact b i q1 q2
    · rw [r0 3 (by omega)] at q2
      rw [rx 5 i (by omega), rx 6 i (by omega), rx 7 i (by omega), zup_n (by omega), zup_n (by omega), zup_n (by omega)]; exact c i q1 q2
    · rw [rx 12 i (by omega), zup_n (by omega)]; exact d i q1 q2
  refine ⟨N_stJ h hN, by rw [zup_s]; exact hv, by rw [r0 1 (by omega)]; exact a1, by rw [r0 2 (by omega)]; exact a2, by rw [r0 3 (by omega)]; exact a3, by rw [r0 4 (by omega)]; exact a4, fun i q1 q2 => ?_, fun i q1 q2 => ?_, fun i q1 q2 => by rw [rx 12 i (by omega)]; exact a7 i q1 q2⟩
  · rw [r0 1 (by omega)] at q2
    rw [rx 1 i (by omega), rx 2 i (by omega), rx 3 i (by omega), rx 4 i (by omega)]; exact a5 i q1 q2
  · rw [r0 3 (by omega)] at q2
    rw [rx 5 i (by omega), rx 6 i (by omega), rx 7 i (by omega), r0 1 (by omega)]; exact a6 i q1 q2
theorem AZ_I (T : Int → Int) : AI T AZ := ⟨⟨by decide, by decide⟩, ⟨by decide, by decide⟩, ⟨by decide, by decide⟩, ⟨by decide, by decide⟩, ⟨by decide, by decide⟩, fun c h1 h2 => by rw [show AZ 0 1 = 0 from rfl] at h2; omega, fun c h1 h2 => by rw [show AZ 0 3 = 0 from rfl] at h2; omega, fun i _ _ => by
  have e : AZ 12 i = 0 := if_neg (by omega)
  rw [e]; omega⟩
/-- behind the clearing -/
theorem clr_f {σ : zv_H} {T : Int → Int} {n w : Int} (hw : w ∈ wrL) (hT : tA σ = T) (hl : σ 2 1 = n) (ho : ∀ k, 0 ≤ k → k < 24 → σ 54 k = ownR k) : (tA (zup (zup (zfil (zup (zup (zup (zup (zup (zup (zup (zup σ 52 1 w) w 0 0) w 1 0) w 2 0) w 3 0) w 4 2) (w + 8) 1 0) (w + 10) 1 0) (w + 12) 49 1000000) 52 7 0) 52 8 (-1)) = T ∧ (zup (zup (zfil (zup (zup (zup (zup (zup (zup (zup (zup σ 52 1 w) w 0 0) w 1 0) w 2 0) w 3 0) w 4 2) (w + 8) 1 0) (w + 10) 1 0) (w + 12) 49 1000000) 52 7 0) 52 8 (-1)) 52 7 = 0 ∧ (zup (zup (zfil (zup (zup (zup (zup (zup (zup (zup (zup σ 52 1 w) w 0 0) w 1 0) w 2 0) w 3 0) w 4 2) (w + 8) 1 0) (w + 10) 1 0) (w + 12) 49 1000000) 52 7 0) 52 8 (-1)) 52 8 = -1) ∧ (zup (zup (zfil (zup (zup (zup (zup (zup (zup (zup (zup σ 52 1 w) w 0 0) w 1 0) w 2 0) w 3 0) w 4 2) (w + 8) 1 0) (w + 10) 1 0) (w + 12) 49 1000000) 52 7 0) 52 8 (-1)) 2 1 = n ∧ (∀ k, 0 ≤ k → k < 24 → (zup (zup (zfil (zup (zup (zup (zup (zup (zup (zup (zup σ 52 1 w) w 0 0) w 1 0) w 2 0) w 3 0) w 4 2) (w + 8) 1 0) (w + 10) 1 0) (w + 12) 49 1000000) 52 7 0) 52 8 (-1)) 54 k = ownR k) ∧ (zup (zup (zfil (zup (zup (zup (zup (zup (zup (zup (zup σ 52 1 w) w 0 0) w 1 0) w 2 0) w 3 0) w 4 2) (w + 8) 1 0) (w + 10) 1 0) (w + 12) 49 1000000) 52 7 0) 52 8 (-1)) 52 1 = w ∧ wrN (zup (zup (zfil (zup (zup (zup (zup (zup (zup (zup (zup σ 52 1 w) w 0 0) w 1 0) w 2 0) w 3 0) w 4 2) (w + 8) 1 0) (w + 10) 1 0) (w + 12) 49 1000000) 52 7 0) 52 8 (-1)) w T AZ ∧ wrF (zup (zup (zfil (zup (zup (zup (zup (zup (zup (zup (zup σ 52 1 w) w 0 0) w 1 0) w 2 0) w 3 0) w 4 2) (w + 8) 1 0) (w + 10) 1 0) (w + 12) 49 1000000) 52 7 0) 52 8 (-1)) (w + 8) [] ∧ wrF (zup (zup (zfil (zup (zup (zup (zup (zup (zup (zup (zup σ 52 1 w) w 0 0) w 1 0) w 2 0) w 3 0) w 4 2) (w + 8) 1 0) (w + 10) 1 0) (w + 12) 49 1000000) 52 7 0) 52 8 (-1)) (w + 10) [] ∧ wfj (zup σ 52 1 w) (zup (zup (zfil (zup (zup (zup (zup (zup (zup (zup (zup σ 52 1 w) w 0 0) w 1 0) w 2 0) w 3 0) w 4 2) (w + 8) 1 0) (w + 10) 1 0) (w + 12) 49 1000000) 52 7 0) 52 8 (-1)) w := by
  have hwf := wr_far hw
  refine ⟨⟨?_, ?_, zup_s _ _ _ _⟩, ?_, fun k h1 h2 => ?_, ?_, ⟨fun k h1 h2 => ?_, fun i h1 h2 => ?_, fun i h1 h2 => ?_, fun i h1 h2 => ?_⟩, ⟨?_, fun i hi => absurd hi (Nat.not_lt_zero _)⟩, ⟨?_, fun i hi => absurd hi (Nat.not_lt_zero _)⟩, fun x k a b c => ?_⟩
  · rw [← hT]
    funext k
    unfold tA
    have e2 : (zup (zup (zfil (zup (zup (zup (zup (zup (zup (zup (zup σ 52 1 w) w 0 0) w 1 0) w 2 0) w 3 0) w 4 2) (w + 8) 1 0) (w + 10) 1 0) (w + 12) 49 1000000) 52 7 0) 52 8 (-1)) 2 1 = σ 2 1 := by repeat (first | rw [zup_n (by omega)] | rw [zfil_n (by omega)])
    have e3 : (zup (zup (zfil (zup (zup (zup (zup (zup (zup (zup (zup σ 52 1 w) w 0 0) w 1 0) w 2 0) w 3 0) w 4 2) (w + 8) 1 0) (w + 10) 1 0) (w + 12) 49 1000000) 52 7 0) 52 8 (-1)) 3 k = σ 3 k := by repeat (first | rw [zup_n (by omega)] | rw [zfil_n (by omega)])
    rw [e2, e3]
  · rw [zup_n (by omega), zup_s]
  · rw [← hl]; repeat (first | rw [zup_n (by omega)] | rw [zfil_n (by omega)])
  · rw [← ho k h1 h2]; repeat (first | rw [zup_n (by omega)] | rw [zfil_n (by omega)])
  · rw [zup_n (by omega), zup_n (by omega), zfil_n (by omega), zup_n (by omega), zup_n (by omega), zup_n (by omega), zup_n (by omega), zup_n (by omega), zup_n (by omega), zup_n (by omega), zup_s]
  · rw [zup_n (by omega), zup_n (by omega), zfil_n (by omega), zup_n (by omega), zup_n (by omega)]
    have e : k = 0 ∨ k = 1 ∨ k = 2 ∨ k = 3 ∨ k = 4 := by omega
    rcases e with rfl | rfl | rfl | rfl | rfl
    · rw [zup_n (by omega), zup_n (by omega), zup_n (by omega), zup_n (by omega), zup_s]; rfl
    · rw [zup_n (by omega), zup_n (by omega), zup_n (by omega), zup_s]; rfl
    · rw [zup_n (by omega), zup_n (by omega), zup_s]; rfl
    · rw [zup_n (by omega), zup_s]; rfl
    · rw [zup_s]; rfl
  · rw [show AZ 0 1 = 0 from rfl] at h2; omega
  · rw [show AZ 0 3 = 0 from rfl] at h2; omega
  · rw [zup_n (by omega), zup_n (by omega), show AZ 12 i = 0 from if_neg (by omega), if_pos rfl]
    exact if_pos ⟨rfl, h1, h2⟩
  · rw [zup_n (by omega), zup_n (by omega), zfil_n (by omega), zup_n (by omega), zup_s]; rfl
  · rw [zup_n (by omega), zup_n (by omega), zfil_n (by omega), zup_s]; rfl
  · rw [zup_n (by omega), zup_n (by omega), zfil_n (by omega), zup_n (by omega), zup_n (by omega), zup_n (by omega), zup_n (by omega), zup_n (by omega), zup_n (by omega), zup_n (by omega)]
theorem start_J {σ σc σ2 : zv_H} {T : Int → Int} {n w : Int} (hw : w ∈ wrL) (hn0 : TT T n) (cl : (tA σc = T ∧ σc 52 7 = 0 ∧ σc 52 8 = -1) ∧ σc 2 1 = n ∧ (∀ k, 0 ≤ k → k < 24 → σc 54 k = ownR k) ∧ σc 52 1 = w ∧ wrN σc w T AZ ∧ wrF σc (w + 8) [] ∧ wrF σc (w + 10) [] ∧ wfj (zup σ 52 1 w) σc w) (h1 : SCp σ2 T 0) (h2 : ∀ x k, x ≠ 53 → σ2 x k = σc x k) : stJ (zup σ 52 1 w) σ2 T n w AZ [] [] 0 := by
  obtain ⟨a, b, c, d, e, f, g, j⟩ := cl
  have hwf := wr_far hw
  obtain ⟨⟨a1, a2, a3⟩, b, c, d, ⟨e1, e2, e3, e4⟩, f, g, j⟩ := (⟨a, b, c, d, e, f, g, j⟩ : _ ∧ _ ∧ _ ∧ _ ∧ _ ∧ _ ∧ _ ∧ _)
  refine ⟨⟨⟨?_, by rw [h2 52 7 (by omega)]; exact a2, by rw [h2 52 8 (by omega)]; exact a3⟩, by rw [h2 2 1 (by omega)]; exact b, hn0, fun k q1 q2 => by rw [h2 54 k (by omega)]; exact c k q1 q2, hw, by rw [h2 52 1 (by omega)]; exact d⟩, h1, ⟨fun k q1 q2 => by rw [h2 w k (by omega)]; exact e1 k q1 q2, fun i q1 q2 => ?_, fun i q1 q2 => ?_, fun i q1 q2 => by rw [h2 (w + 12) i (by omega)]; exact e4 i q1 q2⟩, ⟨by rw [h2 (w + 8) 1 (by omega)]; exact f.1, fun i hi => absurd hi (Nat.not_lt_zero _)⟩, ⟨by rw [h2 (w + 10) 1 (by omega)]; exact g.1, fun i hi => absurd hi (Nat.not_lt_zero _)⟩, fun x k q1 q2 q3 => by rw [h2 x k q2]; exact j x k q1 q2 q3⟩
  · rw [← a1]
    funext k
    unfold tA
    rw [h2 2 1 (by omega), h2 3 k (by omega)]
  · rw [show AZ 0 1 = 0 from rfl] at q2; omega
  · rw [show AZ 0 3 = 0 from rfl] at q2; omega
set_option maxHeartbeats 4000000 in
set_option maxRecDepth 20000 in
theorem c_Reader_readWar {Γ : zv_M} {L : Int} {σ : zv_H} {T : Int → Int} {n w : Int} (hw : w ∈ wrL) (hT : tA σ = T) (hl : σ 2 1 = n) (hn0 : TT T n) (ho : ∀ k, 0 ≤ k → k < 24 → σ 54 k = ownR k) : zC Γ m_Reader_readWar 122 0 0 (GM L) [zR 52, zR w] σ (zPI (GM L) (fun z σ' => (z = 1 ∧ ∃ (A : zv_H) (J K : List (Int × Int)) (p : Int) (σ5 : zv_H), warR T n 82 0 AZ [] [] (Sum.inl (A, J, K)) ∧ AI T A ∧ stJ (zup σ 52 1 w) σ5 T n w A J K p ∧ σ' = zrow σ5 (w + 12) (fwB (fwD (σ5 (w + 12)) (A 0 1).toNat) (A 0 1).toNat (A 0 1).toNat)) ∨ (z = 0 ∧ ∃ k pl, warR T n 82 0 AZ [] [] (Sum.inr (k, pl)) ∧ flt σ' k pl ∧ wfj (zup σ 52 1 w) σ' w))) := by
  refine zC_of (ls0 := [_, _, _]) zm_Reader_readWar (by decide) rfl (Nat.le_of_ble_eq_true rfl) ?_
  generalize hQ : (zPI (GM L) (fun z σ' => (z = 1 ∧ ∃ (A : zv_H) (J K : List (Int × Int)) (p : Int) (σ5 : zv_H), warR T n 82 0 AZ [] [] (Sum.inl (A, J, K)) ∧ AI T A ∧ stJ (zup σ 52 1 w) σ5 T n w A J K p ∧ σ' = zrow σ5 (w + 12) (fwB (fwD (σ5 (w + 12)) (A 0 1).toNat) (A 0 1).toNat (A 0 1).toNat)) ∨ (z = 0 ∧ ∃ k pl, warR T n 82 0 AZ [] [] (Sum.inr (k, pl)) ∧ flt σ' k pl ∧ wfj (zup σ 52 1 w) σ' w))) = Q
  have hn16 := hn0.1
  have cl := clr_f hw hT hl ho
  refine zaload_n (k := 0) rfl rfl ?_
  refine zaload_n (k := 1) rfl rfl ?_
  refine zpR 1 (k := 2) rfl ob_52 fl_4_20 ⟨_, rfl, rfl⟩ rfl (by omega) rfl fx_52_1 ?_
  refine zaload_n (k := 3) rfl rfl ?_
  refine zgR 1 (k := 4) rfl ob_52 fl_4_20 rfl fx_52_1 ?_
  rw [zup_s]
  refine zfV0 (k := 5) rfl (c_War_clear hw) fm_War_clear lk_4_37 rfl rfl (wr_ob hw) ⟨_, rfl, rfl⟩ (Nat.le_of_ble_eq_true rfl) (by decide) ⟨by decide, by decide⟩ ?_
  refine zaload_n (k := 6) rfl rfl ?_
  refine ziconst (k := 7) rfl (by decide) ?_
  refine zpI 7 (k := 8) rfl ob_52 fl_4_40 ⟨_, rfl, rfl⟩ rfl (by omega) rfl fx_52_7 ?_
  refine zaload_n (k := 9) rfl rfl ?_
  refine ziconst (k := 10) rfl (by decide) ?_
  refine zpI 8 (k := 11) rfl ob_52 fl_4_33 ⟨_, rfl, rfl⟩ rfl (by omega) rfl fx_52_8 ?_
  refine zaload_n (k := 12) rfl rfl ?_
  refine zgF 0 (k := 13) rfl ob_52 fl_4_14 rfl fx_52_0 ?_
  refine zpV0 (k := 14) rfl (c_Scanner_start cl.1.1 cl.2.1 hn0 cl.2.2.1) fm_Scanner_start lk_4_43 rfl rfl ob_53 ⟨_, rfl, rfl⟩ (Nat.le_of_ble_eq_true rfl) (by decide) ⟨by decide, by decide⟩ (fun σ2 h2 => ?_)
  have h0 : stJ (zup σ 52 1 w) σ2 T n w AZ [] [] 0 := start_J hw hn0 cl h2.1 h2.2
  clear cl h2
  refine ziconst (k := 15) rfl (by decide) ?_
  refine zistore_n (k := 16) (ls' := [_, _, _]) rfl (Nat.le_of_ble_eq_true rfl) rfl ?_
  have lp31 : ∀ (g : Nat) (k : Nat) (p : Int) (A : zv_H) (J K : List (Int × Int)) (σ5 : zv_H), (81 - k) < g → (k ≤ 80 ∧ A 0 0 = k) → (stJ (zup σ 52 1 w) σ5 T n w A J K p) → (0 ≤ p ∧ p ≤ n) → (AI T A) → (∀ res, warR T n (82 - k) p A J K res → warR T n 82 0 AZ [] [] res) → zV Γ m_Reader_readWar 122 0 0 Q (GM L) (0, 0) 31 [some (zR 52), some (zR w), some (zI k)] [] σ5 := by
    intro g
    induction g with
    | zero => intro k p A J K σ5 hg; exact absurd hg (Nat.not_lt_zero _)
    | succ g ih31 =>
      intro k p A J K σ5 hg hk h0 hp hA hR
      refine ziload_n (k := 17) rfl rfl ?_
      refine zbipush (k := 18) rfl rfl ?_
      refine zicmp_gt (k := 19) rfl rfl (fun c1 => ?_) (fun c1 => ?_)
      · exfalso; omega
      refine zaload_n (k := 20) rfl rfl ?_
      refine zgF 0 (k := 21) rfl ob_52 fl_4_14 rfl fx_52_0 ?_
      refine zgI 3 (k := 22) rfl ob_53 fl_4_46 rfl fx_53_3 ?_
      rw [h0.2.1.2.1]
      refine zif_eq (k := 23) rfl rfl (fun c2 => ?_) (fun c2 => ?_)
      · skip
        have a1 := hA.2.1
        have hok : fwok (σ5 (w + 12)) := fun i q1 q2 => by
          rw [h0.2.2.1.2.2.2 i q1 q2]
          have := hA.2.2.2.2.2.2.2 i q1 q2
          split <;> omega
        refine zaload_n (k := 42) rfl rfl ?_
        refine zgR 1 (k := 43) rfl ob_52 fl_4_20 rfl fx_52_1 ?_
        rw [h0.1.2.2.2.2.2]
        refine zfV0 (k := 44) rfl (c_War_findWays hw (A 0 1).toNat (by rw [h0.2.2.1.1 1 (by omega) (by omega)]; omega) (by omega) hok) fm_War_findWays lk_4_60 rfl rfl (wr_ob hw) ⟨_, rfl, rfl⟩ (Nat.le_of_ble_eq_true rfl) (by decide) ⟨by decide, by decide⟩ ?_
        refine ziconst (k := 45) rfl (by decide) ?_
        refine zzreturn (k := 46) rfl rfl (by first | exact Or.inl rfl | exact Or.inr rfl | omega) rfl ?_
        rw [← hQ]
        exact ⟨rfl, _, rfl, Or.inl ⟨rfl, A, J, K, p, σ5, hR _ (by rw [show 82 - k = 82 - (k + 1) + 1 by omega]; exact Or.inl ⟨by assumption, rfl⟩), hA, h0, rfl⟩⟩
      · skip
        refine zaload_n (k := 24) rfl rfl ?_
        refine zpVI (k := 25) rfl (c_Reader_readStatement hw h0 hp hA) fm_Reader_readStatement lk_4_49 rfl rfl ob_52 ⟨_, rfl, rfl⟩ (Nat.le_of_ble_eq_true rfl) (by decide) ⟨by decide, by decide⟩ (fun z3 σ3 h3 => ?_)
        refine zif_eq (k := 26) rfl rfl (fun c3 => ?_) (fun c3 => ?_)
        · skip
          refine ziconst (k := 31) rfl (by decide) ?_
          refine zzreturn (k := 32) rfl rfl (by first | exact Or.inl rfl | exact Or.inr rfl | omega) rfl ?_
          rw [← hQ]
          have e82 : 82 - k = 82 - (k + 1) + 1 := by omega
          first
          | (obtain ⟨k4, pl4, e4, f4, t4⟩ := or_0 h4 (by assumption)
             obtain ⟨hs4, ek, epl⟩ := tkSign_r e4
             subst ek epl
             exact ⟨rfl, _, rfl, Or.inr ⟨rfl, _, _, hR _ (by rw [e82]; exact Or.inr ⟨by assumption, Or.inr ⟨ha8, Or.inr ⟨p3, A3, J3, K3, r3, Or.inl ⟨hs4, rfl⟩⟩⟩⟩), f4, fun x k a b c => by rw [t4 x k b (by omega)]; exact s3.2.2.2.2.2 x k a b c⟩⟩)
          | (obtain ⟨k4, pl4, e4, f4, t4⟩ := or_0 h3 (by assumption)
             refine ⟨rfl, _, rfl, Or.inr ⟨rfl, k4, pl4, hR _ ?_, f4, t4⟩⟩
             rw [e82]
             refine Or.inr ⟨by assumption, ?_⟩
             rcases e4 with ⟨q1, q2, q3⟩ | ⟨q1, q2⟩
             · exact Or.inl ⟨q1, by rw [q2, q3]⟩
             · exact Or.inr ⟨q1, Or.inl ⟨k4, pl4, q2, rfl⟩⟩)
        · skip
          obtain ⟨ha8, p3, A3, J3, K3, r3, s3, i3, b3, z30⟩ := or_1 h3 (by assumption)
          clear h3
          have hk3 := s3
          refine zaload_n (k := 27) rfl rfl ?_
          refine zbipush (k := 28) rfl rfl ?_
          refine zpVI (k := 29) rfl (d_Reader_takeSign s3.1 s3.2.1 ⟨by omega, by omega⟩) fm_Reader_takeSign lk_4_53 rfl rfl ob_52 ⟨_, rfl, rfl⟩ (Nat.le_of_ble_eq_true rfl) (by decide) ⟨by decide, by decide⟩ (fun z4 σ4 h4 => ?_)
          refine zif_ne (k := 30) rfl rfl (fun c4 => ?_) (fun c4 => ?_)
          · skip
            obtain ⟨X, e4, sc4, b4, t4⟩ := or_1 h4 (by assumption)
            clear h4
            obtain ⟨hs4, eX⟩ := tkSign_l e4
            subst eX
            clear h0
            have h0 := stJ_t s3 t4 sc4
            refine zaload_n (k := 33) rfl rfl ?_
            refine zgR 1 (k := 34) rfl ob_52 fl_4_20 rfl fx_52_1 ?_
            rw [h0.1.2.2.2.2.2]
            refine zdup (k := 35) rfl rfl ?_
            refine zgI 0 (k := 36) rfl (wr_ob hw) fl_4_57 rfl (wr_fx_0 hw) ?_
            rw [h0.2.2.1.1 0 (by omega) (by omega)]
            refine ziconst (k := 37) rfl (by decide) ?_
            refine ziaddB (k := 38) rfl (by omega) ?_
            refine zpI 0 (k := 39) rfl (wr_ob hw) fl_4_57 ⟨_, rfl, rfl⟩ rfl (wr_pos hw) rfl (wr_fx_0 hw) ?_
            refine ziincB (k := 40) (ls' := [_, _, _]) rfl rfl (by decide) (by omega) rfl ?_
            refine zgoto (k := 41) rfl rfl ?_
            have sj := stJ_0 h0 i3 (v := A3 0 0 + 1) (by omega)
            refine ih31 (k + 1) (tN T p3) (zup A3 0 0 (A3 0 0 + 1)) J3 K3 _ (by omega) ⟨by omega, by rw [zup_s]; omega⟩ sj.1 ⟨by omega, by omega⟩ sj.2 (fun res q => hR res ?_)
            rw [show 82 - k = 82 - (k + 1) + 1 by omega]
            refine Or.inr ⟨by assumption, Or.inr ⟨ha8, Or.inr ⟨p3, A3, J3, K3, r3, Or.inr ⟨hs4, ?_⟩⟩⟩⟩
            rw [← z30]
            exact q
          · skip
            refine ziconst (k := 31) rfl (by decide) ?_
            refine zzreturn (k := 32) rfl rfl (by first | exact Or.inl rfl | exact Or.inr rfl | omega) rfl ?_
            rw [← hQ]
            have e82 : 82 - k = 82 - (k + 1) + 1 := by omega
            first
            | (obtain ⟨k4, pl4, e4, f4, t4⟩ := or_0 h4 (by assumption)
               obtain ⟨hs4, ek, epl⟩ := tkSign_r e4
               subst ek epl
               exact ⟨rfl, _, rfl, Or.inr ⟨rfl, _, _, hR _ (by rw [e82]; exact Or.inr ⟨by assumption, Or.inr ⟨ha8, Or.inr ⟨p3, A3, J3, K3, r3, Or.inl ⟨hs4, rfl⟩⟩⟩⟩), f4, fun x k a b c => by rw [t4 x k b (by omega)]; exact s3.2.2.2.2.2 x k a b c⟩⟩)
            | (obtain ⟨k4, pl4, e4, f4, t4⟩ := or_0 h3 (by assumption)
               refine ⟨rfl, _, rfl, Or.inr ⟨rfl, k4, pl4, hR _ ?_, f4, t4⟩⟩
               rw [e82]
               refine Or.inr ⟨by assumption, ?_⟩
               rcases e4 with ⟨q1, q2, q3⟩ | ⟨q1, q2⟩
               · exact Or.inl ⟨q1, by rw [q2, q3]⟩
               · exact Or.inr ⟨q1, Or.inl ⟨k4, pl4, q2, rfl⟩⟩)
  exact lp31 _ 0 0 AZ [] [] _ (Nat.lt_succ_self _) ⟨by omega, rfl⟩ h0 ⟨by omega, by omega⟩ (AZ_I T) (fun _ q => q)
