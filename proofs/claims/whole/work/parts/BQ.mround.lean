theorem pow_2401 {x : Int} {n : Nat} (hx : 0 ≤ x ∧ x ≤ 7) (hn : n ≤ 4) : 0 ≤ x ^ n ∧ x ^ n ≤ 2401 := by
  obtain ⟨y, rfl⟩ : ∃ y : Nat, x = (y : Int) := ⟨x.toNat, by omega⟩
  have h1_q : y ^ n ≤ 7 ^ n := Nat.pow_le_pow_left (by omega) n
  have h2_q : 7 ^ n ≤ 7 ^ 4 := Nat.pow_le_pow_right (by decide) hn
  rw [show ((y : Int) ^ n) = ((y ^ n : Nat) : Int) from (by simp)]
  omega
theorem bsR_x {σ σ' : zv_H} {B : zB3} (h : bsR σ B) (h6_q : σ' 289 66 = σ 289 66) (h3_q : ∀ k, σ' 331 k = σ 331 k) : bsR σ' B := by
  obtain ⟨a, b, c⟩ := h
  exact ⟨h6_q.trans a, b, fun q => ⟨fun i hi => (h3_q _).trans ((c q).1 i hi), (h3_q _).trans (c q).2.1, (h3_q _).trans (c q).2.2⟩⟩
theorem rowX_5 {Wm S : zv_H} {m : Int} (hal : 0 ≤ Wm 0 1) (q : List (Int × Int)) : rowX Wm S m 5 0 q ↔ rowP Wm S m q := by
  constructor
  · rintro ⟨h1_q, h2_q, h3_q⟩
    refine ⟨h1_q, h2_q, ?_⟩
    rcases h3_q with h3_q | ⟨h3_q, h4_q⟩
    · omega
    · exfalso
      rcases nm_b hal (vOK_r h1_q) with b | ⟨b, _⟩
      · omega
      · rw [b] at h2_q; exact absurd h2_q (by decide)
  · rintro ⟨h1_q, h2_q, h3_q⟩
    exact ⟨h1_q, h2_q, Or.inl (by omega)⟩
theorem stM_scr {σ σ1 Wm S : zv_H} {b : Int} (h : stM σ σ b 0 Wm S) (hs : scrM σ σ1) (hW : WI Wm) (h12_q : S 0 12 ≤ 60) : stM σ1 σ1 b 0 Wm S := ⟨rM_v h.1 hW.1.2 hW.2.2.1.2 h12_q (fun x k q => hs x k (inV_d q (by omega)) (by unfold inV at q; omega) (by unfold inV at q; omega)), wM_fr h.2.1 (fun x k q1_q q2_q => hs x k (by unfold inV; omega) (by omega) (by omega)), by rw [hs 289 13 (by unfold inV; omega) (by omega) (by omega)]; exact h.2.2.1, fun _ _ _ _ _ => rfl⟩
set_option maxHeartbeats 4000000 in
set_option maxRecDepth 20000 in
theorem c_M_round {Γ : zv_M} {L : Int} {σ Wm S : zv_H} {b : Int} (hb1_q : b = 0 ∨ b = 1) (h0_q : stM σ σ b 0 Wm S) (hSI : SI (Wm 0 1) (Wm 0 3) S) (hWI : WI Wm) (hT : WT Wm) {m k : Int}  : zC Γ m_M_round 4 0 0 (GM L) [zR 289, zI m, zI k] σ (zPI (GM L) (fun z σ' => z = rouQ Wm S m k ∧ scrM σ σ')) := by
  refine zC_of (ls0 := [_, _, _, _, _, _, _, _, _, _]) zm_M_round (by decide) rfl (Nat.le_of_ble_eq_true rfl) ?_
  generalize hQ : (zPI (GM L) (fun z σ' => z = rouQ Wm S m k ∧ scrM σ σ')) = Q
  have hb := h0_q.2.2.1
  have w1_q := hWI.1
  have w3_q := hWI.2.2.1
  have r0_q := rM_0 h0_q.1
  have b00_q := hSI.1
  have b12_q := hSI.2.2.1
  have bc := hSI.2.2.2.1
  have bm := hSI.2.2.2.2.1
  have bl := hSI.2.2.2.2.2.1
  have g0_q := h0_q
  refine zaload_n (k := 0) rfl rfl ?_
  refine ziload_n (k := 1) rfl rfl ?_
  refine zfV1 (k := 2) rfl (c_M_isMan hb hb1_q) fm_M_isMan lk_12_495 rfl rfl ob_289 ⟨_, rfl, rfl⟩ (Nat.le_of_ble_eq_true rfl) (by decide) ⟨by decide, by decide⟩ ?_
  rw [h0_q.2.1.1.2.2.1]
  refine zif_eq (k := 3) rfl rfl (fun c1_q => ?_) (fun c1_q => ?_)
  · skip
    refine ziconst (k := 14) rfl (by decide) ?_
    refine zireturn (k := 15) rfl rfl rfl ?_
    rw [← hQ]
    refine ⟨rfl, _, rfl, ?_, scrM_rf σ⟩
    unfold rouQ
    rw [if_pos (by omega)]
  · skip
    have hmm : 0 ≤ m ∧ m < Wm 0 3 := by omega
    have rm := r0_q.2.2.1 m hmm.1 hmm.2
    refine zaload_n (k := 4) rfl rfl ?_
    refine zgF 50 (k := 5) rfl ob_289 fl_12_165 rfl fx_289_50 ?_
    refine ziload_n (k := 6) rfl rfl ?_
    refine ziaload (k := 7) rfl ar_320 ⟨by omega, by omega⟩ ?_
    rw [rm.2.1]
    refine zif_ne (k := 8) rfl rfl (fun c2_q => ?_) (fun c2_q => ?_)
    · skip
      refine ziconst (k := 14) rfl (by decide) ?_
      refine zireturn (k := 15) rfl rfl rfl ?_
      rw [← hQ]
      refine ⟨rfl, _, rfl, ?_, scrM_rf σ⟩
      unfold rouQ
      rw [if_pos (by omega)]
    · skip
      refine ziload_n (k := 9) rfl rfl ?_
      refine ziconst (k := 10) rfl (by decide) ?_
      refine ziconst (k := 11) rfl (by decide) ?_
      refine zfS1 (k := 12) rfl c_M_is fm_M_is lk_12_315 rfl rfl (Nat.le_of_ble_eq_true rfl) (by decide) ⟨by decide, by decide⟩ ?_
      refine zif_ne (k := 13) rfl rfl (fun c3_q => ?_) (fun c3_q => ?_)
      · skip
        have hkk : 0 ≤ k ∧ k ≤ 5 := by omega
        refine zaload_n (k := 16) rfl rfl ?_
        refine ziconst (k := 17) rfl (by decide) ?_
        refine zpI 66 (k := 18) rfl ob_289 fl_12_213 ⟨_, rfl, rfl⟩ rfl (by omega) rfl fx_289_66 ?_
        have sa : scrM σ (zup σ 289 66 0) := fun x k a c d => zup_n (by omega)
        refine zaload_n (k := 19) rfl rfl ?_
        refine zgF 14 (k := 20) rfl ob_289 fl_12_54 rfl fx_289_14 ?_
        refine zaload_n (k := 21) rfl rfl ?_
        refine zgI 13 (k := 22) rfl ob_289 fl_12_51 rfl fx_289_13 ?_
        rw [zup_n (by omega), hb]
        refine ziaload (k := 23) rfl ar_291 ⟨by omega, by omega⟩ ?_
        rw [zup_n (by omega), h0_q.2.1.1.1]
        refine zistore_n (k := 24) (ls' := [_, _, _, _, _, _, _, _, _, _]) rfl (Nat.le_of_ble_eq_true rfl) rfl ?_
        refine ziconst (k := 25) rfl (by decide) ?_
        refine zistore (k := 26) (ls' := [_, _, _, _, _, _, _, _, _, _]) rfl (Nat.le_of_ble_eq_true rfl) rfl ?_
        refine ziconst (k := 27) rfl (by decide) ?_
        refine zistore (k := 28) (ls' := [_, _, _, _, _, _, _, _, _, _]) rfl (Nat.le_of_ble_eq_true rfl) rfl ?_
        have lp49_q : ∀ (g : Nat) (n : Nat) (σ1 : zv_H) (B : zB3), (4 - n) < g → (n ≤ 4) → (scrM σ σ1) → (Bst S (rowX Wm S m (n + 1) 0) B) → (bsR σ1 B) → zV Γ m_M_round 4 0 0 Q (GM L) (0, 0) 49 [some (zR 289), some (zI m), some (zI k), some (zI (Wm 0 1)), some (zI (Wm 0 1 ^ n)), some (zI (n + 1)), none, none, none, none] [] σ1 := by
          intro g
          induction g with
          | zero => intro n σ1 B hg; exact absurd hg (Nat.not_lt_zero _)
          | succ g ih49_q =>
            intro n σ1 B hg hn4_q hs hB hr
            refine ziload (k := 29) rfl rfl ?_
            refine ziconst (k := 30) rfl (by decide) ?_
            refine zicmp_gt (k := 31) rfl rfl (fun c4_q => ?_) (fun c4_q => ?_)
            · skip
              refine zaload_n (k := 141) rfl rfl ?_
              refine zgI 66 (k := 142) rfl ob_289 fl_12_213 rfl fx_289_66 ?_
              rw [hr.1]
              refine zif_ne (k := 143) rfl rfl (fun c5_q => ?_) (fun c5_q => ?_)
              · skip
                refine zaload_n (k := 146) rfl rfl ?_
                refine zgF 65 (k := 147) rfl ob_289 fl_12_210 rfl fx_289_65 ?_
                refine ziload_n (k := 148) rfl rfl ?_
                refine ziaload (k := 149) rfl ar_331 ⟨by omega, by omega⟩ ?_
                refine zireturn (k := 150) rfl rfl rfl ?_
                rw [← hQ]
                refine ⟨rfl, _, rfl, ?_, hs⟩
                have hB5 : Bst S (rowP Wm S m) B := Bst_i (X := rowX Wm S m 5 0) (by rw [show n = 4 by omega] at hB; exact hB) (rowX_5 w1_q.1)
                unfold rouQ
                rw [if_neg (by omega)]
                rcases Bst_u hB5 rou_Bst with ⟨u1_q, u2_q⟩ | ⟨u1_q, u2_q⟩
                · have l0_q : B.1.length = 0 := congrArg List.length u1_q
                  first
                  | (rw [if_pos (show (rouB Wm S m).1.length = 0 from congrArg List.length u2_q)]; done)
                  | (exfalso; omega)
                · have l0_q : 0 < B.1.length := List.length_pos_iff.mpr u2_q
                  have br := hr.2.2 u2_q
                  rw [← u1_q, if_neg (by omega)]
                  first
                  | (exfalso; omega)
                  | (by_cases e4_q : k = 4
                     · rw [if_pos e4_q, e4_q]; exact br.2.1
                     · rw [if_neg e4_q]
                       by_cases e5_q : k = 5
                       · rw [if_pos e5_q, e5_q]; exact br.2.2
                       · rw [if_neg e5_q]
                         have q := br.1 k.toNat (by omega)
                         rw [show ((k.toNat : Nat) : Int) = k by omega] at q
                         rw [q]
                         by_cases e6_q : k.toNat < B.1.length
                         · rw [if_pos e6_q, if_pos (by omega)]
                         · rw [if_neg e6_q, if_neg (by omega)])
              · skip
                refine ziconst (k := 144) rfl (by decide) ?_
                refine zgoto (k := 145) rfl rfl ?_
                refine zireturn (k := 150) rfl rfl rfl ?_
                rw [← hQ]
                refine ⟨rfl, _, rfl, ?_, hs⟩
                have hB5 : Bst S (rowP Wm S m) B := Bst_i (X := rowX Wm S m 5 0) (by rw [show n = 4 by omega] at hB; exact hB) (rowX_5 w1_q.1)
                unfold rouQ
                rw [if_neg (by omega)]
                rcases Bst_u hB5 rou_Bst with ⟨u1_q, u2_q⟩ | ⟨u1_q, u2_q⟩
                · have l0_q : B.1.length = 0 := congrArg List.length u1_q
                  first
                  | (rw [if_pos (show (rouB Wm S m).1.length = 0 from congrArg List.length u2_q)]; done)
                  | (exfalso; omega)
                · have l0_q : 0 < B.1.length := List.length_pos_iff.mpr u2_q
                  have br := hr.2.2 u2_q
                  rw [← u1_q, if_neg (by omega)]
                  first
                  | (exfalso; omega)
                  | (by_cases e4_q : k = 4
                     · rw [if_pos e4_q, e4_q]; exact br.2.1
                     · rw [if_neg e4_q]
                       by_cases e5_q : k = 5
                       · rw [if_pos e5_q, e5_q]; exact br.2.2
                       · rw [if_neg e5_q]
                         have q := br.1 k.toNat (by omega)
                         rw [show ((k.toNat : Nat) : Int) = k by omega] at q
                         rw [q]
                         by_cases e6_q : k.toNat < B.1.length
                         · rw [if_pos e6_q, if_pos (by omega)]
                         · rw [if_neg e6_q, if_neg (by omega)])
            · skip
              refine ziload (k := 32) rfl rfl ?_
              refine ziload_n (k := 33) rfl rfl ?_
              refine zimulB (k := 34) rfl (by have := pow_2401 (n := n + 1) w1_q (by omega); rw [Int.pow_succ] at this; omega) ?_
              have p5_q := pow_2401 (n := n + 1) w1_q (by omega)
              rw [show Wm 0 1 ^ n * Wm 0 1 = Wm 0 1 ^ (n + 1) from (Int.pow_succ _ _).symm]
              refine zistore (k := 35) (ls' := [_, _, _, _, _, _, _, _, _, _]) rfl (Nat.le_of_ble_eq_true rfl) rfl ?_
              refine ziconst (k := 36) rfl (by decide) ?_
              refine zistore (k := 37) (ls' := [_, _, _, _, _, _, _, _, _, _]) rfl (Nat.le_of_ble_eq_true rfl) rfl ?_
              have lp64_q : ∀ (g : Nat) (w : Nat) (σ1 : zv_H) (B : zB3), ((Wm 0 1 ^ (n + 1)).toNat - w) < g → ((w : Int) ≤ Wm 0 1 ^ (n + 1)) → (scrM σ σ1) → (Bst S (rowX Wm S m (n + 1) w) B) → (bsR σ1 B) → zV Γ m_M_round 4 0 0 Q (GM L) (0, 0) 64 [some (zR 289), some (zI m), some (zI k), some (zI (Wm 0 1)), some (zI (Wm 0 1 ^ (n + 1))), some (zI (n + 1)), some (zI w), none, none, none] [] σ1 := by
                intro g
                induction g with
                | zero => intro w σ1 B hg; exact absurd hg (Nat.not_lt_zero _)
                | succ g ih64_q =>
                  intro w σ1 B hg hw hs hB hr
                  refine ziload (k := 38) rfl rfl ?_
                  refine ziload (k := 39) rfl rfl ?_
                  refine zicmp_ge (k := 40) rfl rfl (fun c6_q => ?_) (fun c6_q => ?_)
                  · skip
                    refine ziincB (k := 139) (ls' := [_, _, _, _, _, _, _, _, _, _]) rfl rfl (by decide) (by omega) rfl ?_
                    refine zgoto (k := 140) rfl rfl ?_
                    refine zforget (ls' := [_, _, _, _, _, _, _, _, _, _]) 6 rfl ?_
                    exact ih49_q (n + 1) _ _ (by omega) (by omega) hs (Bst_i hB (fun q => by rw [show (w : Int) = Wm 0 1 ^ (n + 1) by omega]; exact rowX_up w1_q.1 q)) hr
                  · skip
                    refine ziload (k := 41) rfl rfl ?_
                    refine zistore (k := 42) (ls' := [_, _, _, _, _, _, _, _, _, _]) rfl (Nat.le_of_ble_eq_true rfl) rfl ?_
                    refine ziload (k := 43) rfl rfl ?_
                    refine ziconst (k := 44) rfl (by decide) ?_
                    refine zisubB (k := 45) rfl (by omega) ?_
                    refine zistore (k := 46) (ls' := [_, _, _, _, _, _, _, _, _, _]) rfl (Nat.le_of_ble_eq_true rfl) rfl ?_
                    have lp81_q : ∀ (g : Nat) (t : Nat) (σ2 : zv_H), (n + 1 - t) < g → (t ≤ n + 1) → (∀ x k, x ≠ 329 → σ2 x k = σ1 x k) → (∀ u : Nat, (n : Int) - t < u → u ≤ n → σ2 329 u = (w : Int) / Wm 0 1 ^ (n - u) % Wm 0 1) → zV Γ m_M_round 4 0 0 Q (GM L) (0, 0) 81 [some (zR 289), some (zI m), some (zI k), some (zI (Wm 0 1)), some (zI (Wm 0 1 ^ (n + 1))), some (zI (n + 1)), some (zI w), some (zI ((w : Int) / Wm 0 1 ^ t)), some (zI (n - t)), none] [] σ2 := by
                      intro g
                      induction g with
                      | zero => intro t σ2 hg; exact absurd hg (Nat.not_lt_zero _)
                      | succ g ih81_q =>
                        intro t σ2 hg ht f2_q hd
                        have hal0_q : 0 < Wm 0 1 := by
                          by_cases e : 0 < Wm 0 1
                          · exact e
                          · exfalso
                            have e2_q : Wm 0 1 = 0 := by omega
                            have e3_q : Wm 0 1 ^ (n + 1) = 0 := by rw [e2_q, Int.pow_succ, Int.mul_zero]
                            omega
                        have hpt : 0 < Wm 0 1 ^ t := Int.pow_pos hal0_q
                        have hq0_q : 0 ≤ (w : Int) / Wm 0 1 ^ t := Int.ediv_nonneg (by omega) (by omega)
                        have hq1_q : (w : Int) / Wm 0 1 ^ t ≤ w := Int.ediv_le_self _ (by omega)
                        refine ziload (k := 47) rfl rfl ?_
                        refine zif_lt (k := 48) rfl rfl (fun c7_q => ?_) (fun c7_q => ?_)
                        · skip
                          have hal : 0 < Wm 0 1 := by omega
                          have hwb : 0 ≤ (w : Int) ∧ (w : Int) < Wm 0 1 ^ (n + 1) := ⟨by omega, by omega⟩
                          have hdg : ∀ u : Nat, u < n + 1 → σ2 329 u = (w : Int) / Wm 0 1 ^ (n + 1 - 1 - u) % Wm 0 1 := fun u hu => by rw [show n + 1 - 1 - u = n - u by omega]; exact hd u (by omega) (by omega)
                          have hrg : ∀ u : Nat, u < n + 1 → 0 ≤ σ2 329 u ∧ σ2 329 u < Wm 0 1 := fun u hu => by rw [hdg u hu]; exact ⟨Int.emod_nonneg _ (by omega), Int.emod_lt_of_pos _ hal⟩
                          have s2_q : stM σ2 σ2 b 0 Wm S := stM_fr (σ := σ1) (stM_scr g0_q hs hWI b12_q.2) (fun x k q1_q q2_q q3_q q4_q => f2_q x k q1_q)
                          have r66_q : σ2 289 66 = σ1 289 66 := f2_q 289 66 (by omega)
                          refine zaload_n (k := 62) rfl rfl ?_
                          refine ziload_n (k := 63) rfl rfl ?_
                          refine ziload (k := 64) rfl rfl ?_
                          refine zpVI (k := 65) rfl (c_M_isRound hb1_q s2_q hSI hWI hT hmm (n := n + 1) ⟨by omega, by omega⟩ hrg) fm_M_isRound lk_12_504 rfl rfl ob_289 ⟨_, rfl, rfl⟩ (Nat.le_of_ble_eq_true rfl) (by decide) ⟨by decide, by decide⟩ (fun z σ3 h2_q => ?_)
                          refine zif_ne (k := 66) rfl rfl (fun c8_q => ?_) (fun c8_q => ?_)
                          · skip
                            obtain ⟨f3_q, h3_q⟩ := h2_q
                            have z1_q : vOK Wm S m (pL Wm S m (σ2 329) (n + 1)) ∧ ∀ j : Nat, j < n + 1 → σ3 330 j = cmA Wm S m (pL Wm S m (σ2 329) j) (σ2 329 j) := by
                              rcases h3_q with q | q
                              · exact q.2
                              · exfalso; exact absurd q.1 (by assumption)
                            have s3_q : stM σ3 σ3 b 0 Wm S := stM_fr s2_q (fun x k q1_q q2_q q3_q q4_q => f3_q x k q2_q)
                            have e329_q : σ3 329 = σ2 329 := funext (fun i => f3_q 329 i (by omega))
                            have wh : σ3 330 n = whF (pL Wm S m (σ2 329) (n + 1)) := z1_q.2 n (by omega)
                            have hr3_q : bsR σ3 B := bsR_x (bsR_x hr r66_q (fun k => f2_q 331 k (by omega))) (f3_q 289 66 (by omega)) (fun k => f3_q 331 k (by omega))
                            have sc3_q : scrM σ σ3 := fun x k a c d => by rw [f3_q x k (by omega), f2_q x k (by omega)]; exact hs x k a c d
                            have cbn := cmA_60 (S := S) (m := m) hWI (R := σ2 329) n
                            have whc : whF (pL Wm S m (σ2 329) (n + 1)) = cmA Wm S m (pL Wm S m (σ2 329) n) (σ2 329 n) := rfl
                            refine zaload_n (k := 68) rfl rfl ?_
                            refine ziload (k := 69) rfl rfl ?_
                            refine zfV1 (k := 70) rfl (c_M_paid (m := m) (n := n + 1) hb1_q s3_q hSI hWI (by omega) (by rw [e329_q]; exact hrg)) fm_M_paid lk_12_507 rfl rfl ob_289 ⟨_, rfl, rfl⟩ (Nat.le_of_ble_eq_true rfl) (by decide) ⟨by decide, by decide⟩ ?_
                            rw [e329_q]
                            refine zistore (k := 71) (ls' := [_, _, _, _, _, _, _, _, _, _]) rfl (Nat.le_of_ble_eq_true rfl) rfl ?_
                            refine zaload_n (k := 72) rfl rfl ?_
                            refine zgI 66 (k := 73) rfl ob_289 fl_12_213 rfl fx_289_66 ?_
                            rw [hr3_q.1]
                            refine zif_le (k := 74) rfl rfl (fun c9_q => ?_) (fun c9_q => ?_)
                            · skip
                              have better : B.1 = [] ∨ B.2.1 < gaF S (pL Wm S m (σ2 329) (n + 1)) ∨ (B.2.1 = gaF S (pL Wm S m (σ2 329) (n + 1)) ∧ whF (pL Wm S m (σ2 329) (n + 1)) < B.2.2) := by
                                by_cases e : B.1 = []
                                · exact Or.inl e
                                · refine Or.inr ?_
                                  have l0_q : 0 < B.1.length := List.length_pos_iff.mpr e
                                  omega
                              have hnew := bst_new (Wm := Wm) (S := S) (m := m) (by omega) hal hwb hdg z1_q.1 hB better
                              refine zaload_n (k := 99) rfl rfl ?_
                              refine ziload (k := 100) rfl rfl ?_
                              refine zpI 66 (k := 101) rfl ob_289 fl_12_213 ⟨_, rfl, rfl⟩ rfl (by omega) rfl fx_289_66 ?_
                              skip
                              refine ziconst (k := 102) rfl (by decide) ?_
                              refine zistore (k := 103) (ls' := [_, _, _, _, _, _, _, _, _, _]) rfl (Nat.le_of_ble_eq_true rfl) rfl ?_
                              refine zforget (ls' := [_, _, _, _, _, _, _, _, _, _]) 7 rfl ?_
                              have lp189_q : ∀ (g : Nat) (i : Nat) (σ5 : zv_H), (4 - i) < g → (i ≤ 4) → (∀ x k, x ≠ 331 → σ5 x k = zup σ3 289 66 (n + 1) x k) → (∀ u : Nat, u < i → σ5 331 u = if u < n + 1 then σ2 329 u else -1) → zV Γ m_M_round 4 0 0 Q (GM L) (0, 0) 189 [some (zR 289), some (zI m), some (zI k), some (zI (Wm 0 1)), some (zI (Wm 0 1 ^ (n + 1))), some (zI (n + 1)), some (zI w), none, some (zI (gaF S (pL Wm S m (σ2 329) (n + 1)))), some (zI i)] [] σ5 := by
                                intro g
                                induction g with
                                | zero => intro i σ5 hg; exact absurd hg (Nat.not_lt_zero _)
                                | succ g ih189_q =>
                                  intro i σ5 hg hi4_q f5_q h331_q
                                  refine ziload (k := 104) rfl rfl ?_
                                  refine ziconst (k := 105) rfl (by decide) ?_
                                  refine zicmp_ge (k := 106) rfl rfl (fun c10_q => ?_) (fun c10_q => ?_)
                                  · skip
                                    refine zaload_n (k := 122) rfl rfl ?_
                                    refine zgF 65 (k := 123) rfl ob_289 fl_12_210 rfl fx_289_65 ?_
                                    refine ziconst (k := 124) rfl (by decide) ?_
                                    refine ziload (k := 125) rfl rfl ?_
                                    refine ziastore (k := 126) rfl ar_331 ⟨by omega, by omega⟩ (by omega) ?_
                                    refine zaload_n (k := 127) rfl rfl ?_
                                    refine zgF 65 (k := 128) rfl ob_289 fl_12_210 rfl fx_289_65 ?_
                                    refine ziconst (k := 129) rfl (by decide) ?_
                                    refine zaload_n (k := 130) rfl rfl ?_
                                    refine zgF 64 (k := 131) rfl ob_289 fl_12_207 rfl fx_289_64 ?_
                                    refine ziload (k := 132) rfl rfl ?_
                                    refine ziconst (k := 133) rfl (by decide) ?_
                                    refine zisubB (k := 134) rfl (by omega) ?_
                                    rw [show (n : Int) + 1 - 1 = n by omega]
                                    refine ziaload (k := 135) rfl ar_330 ⟨by omega, by omega⟩ ?_
                                    refine ziastore (k := 136) rfl ar_331 ⟨by omega, by omega⟩ (by omega) ?_
                                    refine ziincB (k := 137) (ls' := [_, _, _, _, _, _, _, _, _, _]) rfl rfl (by decide) (by omega) rfl ?_
                                    refine zgoto (k := 138) rfl rfl ?_
                                    refine zforget (ls' := [_, _, _, _, _, _, _, _, _, _]) 8 rfl ?_
                                    refine zforget (ls' := [_, _, _, _, _, _, _, _, _, _]) 9 rfl ?_
                                    first
                                    | (have nb : ¬ vOK Wm S m (pL Wm S m (σ2 329) (n + 1)) := by
                                         obtain ⟨f3_q, h3_q⟩ := h2_q
                                         rcases h3_q with q | q
                                         · exfalso; have q1_q := q.1; omega
                                         · exact q.2
                                       exact ih64_q (w + 1) _ B (by omega) (by omega) (fun x k a c d => by rw [h2_q.1 x k (by omega), f2_q x k (by omega)]; exact hs x k a c d) (bst_old (by omega) hal hwb hdg hB (Or.inl nb)) (bsR_x (bsR_x hr r66_q (fun k => f2_q 331 k (by omega))) (h2_q.1 289 66 (by omega)) (fun k => h2_q.1 331 k (by omega))))
                                    | exact ih64_q (w + 1) _ B (by omega) (by omega) sc3_q (bst_old (by omega) hal hwb hdg hB (Or.inr ⟨bne, by omega⟩)) hr3_q
                                    | exact ih64_q (w + 1) _ _ (by omega) (by omega) (fun x k a c d => by
                                         rw [zup_n (by omega), zup_n (by omega), f5_q x k (by omega), zup_n (by omega)]; exact sc3_q x k a c d) hnew ⟨by
                                         rw [zup_n (by omega), zup_n (by omega), f5_q 289 66 (by omega), zup_s, cL_l, pL_l]; rfl, by rw [cL_l, pL_l]; omega, fun _ => ⟨fun u hu => by
                                           dsimp only
                                           rw [zup_n (by omega), zup_n (by omega), h331_q u (by omega), cL_l, pL_l]
                                           by_cases e : u < n + 1
                                           · rw [if_pos e, if_pos e, cL_pL _ _ e]
                                           · rw [if_neg e, if_neg e], by rw [zup_n (by omega), zup_s], by rw [zup_s, zup_n (by omega), f5_q 330 n (by omega), zup_n (by omega), wh]⟩⟩
                                  · skip
                                    refine zaload_n (k := 107) rfl rfl ?_
                                    refine zgF 65 (k := 108) rfl ob_289 fl_12_210 rfl fx_289_65 ?_
                                    refine ziload (k := 109) rfl rfl ?_
                                    refine ziload (k := 110) rfl rfl ?_
                                    refine ziload (k := 111) rfl rfl ?_
                                    refine zicmp_ge (k := 112) rfl rfl (fun c11_q => ?_) (fun c11_q => ?_)
                                    · skip
                                      refine ziconst (k := 118) rfl (by decide) ?_
                                      first
                                      | rw [show zI (σ2 329 i) = zI (if i < n + 1 then σ2 329 i else -1) by rw [if_pos (by omega)]]
                                      | rw [show zI (-1) = zI (if i < n + 1 then σ2 329 i else -1) by rw [if_neg (by omega)]]
                                      refine ziastore (k := 119) rfl ar_331 ⟨by omega, by omega⟩ (by omega) ?_
                                      refine ziincB (k := 120) (ls' := [_, _, _, _, _, _, _, _, _, _]) rfl rfl (by decide) (by omega) rfl ?_
                                      refine zgoto (k := 121) rfl rfl ?_
                                      refine ih189_q (i + 1) _ (by omega) (by omega) (fun x k q => by rw [zup_n (by omega)]; exact f5_q x k q) (fun u hu => ?_)
                                      by_cases e : u = i
                                      · rw [e, zup_s]
                                      · rw [zup_n (by omega)]; exact h331_q u (by omega)
                                    · skip
                                      refine zaload_n (k := 113) rfl rfl ?_
                                      refine zgF 63 (k := 114) rfl ob_289 fl_12_204 rfl fx_289_63 ?_
                                      refine ziload (k := 115) rfl rfl ?_
                                      refine ziaload (k := 116) rfl ar_329 ⟨by omega, by omega⟩ ?_
                                      rw [f5_q 329 _ (by omega), zup_n (by omega), e329_q]
                                      refine zgoto (k := 117) rfl rfl ?_
                                      first
                                      | rw [show zI (σ2 329 i) = zI (if i < n + 1 then σ2 329 i else -1) by rw [if_pos (by omega)]]
                                      | rw [show zI (-1) = zI (if i < n + 1 then σ2 329 i else -1) by rw [if_neg (by omega)]]
                                      refine ziastore (k := 119) rfl ar_331 ⟨by omega, by omega⟩ (by omega) ?_
                                      refine ziincB (k := 120) (ls' := [_, _, _, _, _, _, _, _, _, _]) rfl rfl (by decide) (by omega) rfl ?_
                                      refine zgoto (k := 121) rfl rfl ?_
                                      refine ih189_q (i + 1) _ (by omega) (by omega) (fun x k q => by rw [zup_n (by omega)]; exact f5_q x k q) (fun u hu => ?_)
                                      by_cases e : u = i
                                      · rw [e, zup_s]
                                      · rw [zup_n (by omega)]; exact h331_q u (by omega)
                              exact lp189_q _ 0 _ (Nat.lt_succ_self _) (by omega) (fun _ _ _ => rfl) (fun u hu => absurd hu (Nat.not_lt_zero _))
                            · skip
                              have bne : B.1 ≠ [] := fun e => by have l9_q : B.1.length = 0 := congrArg List.length e; omega
                              have br := hr3_q.2.2 bne
                              refine ziload (k := 75) rfl rfl ?_
                              refine zaload_n (k := 76) rfl rfl ?_
                              refine zgF 65 (k := 77) rfl ob_289 fl_12_210 rfl fx_289_65 ?_
                              refine ziconst (k := 78) rfl (by decide) ?_
                              refine ziaload (k := 79) rfl ar_331 ⟨by omega, by omega⟩ ?_
                              rw [br.2.1]
                              refine zicmp_lt (k := 80) rfl rfl (fun c12_q => ?_) (fun c12_q => ?_)
                              · skip
                                refine ziincB (k := 137) (ls' := [_, _, _, _, _, _, _, _, _, _]) rfl rfl (by decide) (by omega) rfl ?_
                                refine zgoto (k := 138) rfl rfl ?_
                                refine zforget (ls' := [_, _, _, _, _, _, _, _, _, _]) 7 rfl ?_
                                refine zforget (ls' := [_, _, _, _, _, _, _, _, _, _]) 8 rfl ?_
                                first
                                | (have nb : ¬ vOK Wm S m (pL Wm S m (σ2 329) (n + 1)) := by
                                     obtain ⟨f3_q, h3_q⟩ := h2_q
                                     rcases h3_q with q | q
                                     · exfalso; have q1_q := q.1; omega
                                     · exact q.2
                                   exact ih64_q (w + 1) _ B (by omega) (by omega) (fun x k a c d => by rw [h2_q.1 x k (by omega), f2_q x k (by omega)]; exact hs x k a c d) (bst_old (by omega) hal hwb hdg hB (Or.inl nb)) (bsR_x (bsR_x hr r66_q (fun k => f2_q 331 k (by omega))) (h2_q.1 289 66 (by omega)) (fun k => h2_q.1 331 k (by omega))))
                                | exact ih64_q (w + 1) _ B (by omega) (by omega) sc3_q (bst_old (by omega) hal hwb hdg hB (Or.inr ⟨bne, by omega⟩)) hr3_q
                                | exact ih64_q (w + 1) _ _ (by omega) (by omega) (fun x k a c d => by
                                     rw [zup_n (by omega), zup_n (by omega), f5_q x k (by omega), zup_n (by omega)]; exact sc3_q x k a c d) hnew ⟨by
                                     rw [zup_n (by omega), zup_n (by omega), f5_q 289 66 (by omega), zup_s, cL_l, pL_l]; rfl, by rw [cL_l, pL_l]; omega, fun _ => ⟨fun u hu => by
                                       dsimp only
                                       rw [zup_n (by omega), zup_n (by omega), h331_q u (by omega), cL_l, pL_l]
                                       by_cases e : u < n + 1
                                       · rw [if_pos e, if_pos e, cL_pL _ _ e]
                                       · rw [if_neg e, if_neg e], by rw [zup_n (by omega), zup_s], by rw [zup_s, zup_n (by omega), f5_q 330 n (by omega), zup_n (by omega), wh]⟩⟩
                              · skip
                                refine ziload (k := 81) rfl rfl ?_
                                refine zaload_n (k := 82) rfl rfl ?_
                                refine zgF 65 (k := 83) rfl ob_289 fl_12_210 rfl fx_289_65 ?_
                                refine ziconst (k := 84) rfl (by decide) ?_
                                refine ziaload (k := 85) rfl ar_331 ⟨by omega, by omega⟩ ?_
                                rw [br.2.1]
                                refine zicmp_ne (k := 86) rfl rfl (fun c13_q => ?_) (fun c13_q => ?_)
                                · skip
                                  have better : B.1 = [] ∨ B.2.1 < gaF S (pL Wm S m (σ2 329) (n + 1)) ∨ (B.2.1 = gaF S (pL Wm S m (σ2 329) (n + 1)) ∧ whF (pL Wm S m (σ2 329) (n + 1)) < B.2.2) := by
                                    by_cases e : B.1 = []
                                    · exact Or.inl e
                                    · refine Or.inr ?_
                                      have l0_q : 0 < B.1.length := List.length_pos_iff.mpr e
                                      omega
                                  have hnew := bst_new (Wm := Wm) (S := S) (m := m) (by omega) hal hwb hdg z1_q.1 hB better
                                  refine zaload_n (k := 99) rfl rfl ?_
                                  refine ziload (k := 100) rfl rfl ?_
                                  refine zpI 66 (k := 101) rfl ob_289 fl_12_213 ⟨_, rfl, rfl⟩ rfl (by omega) rfl fx_289_66 ?_
                                  skip
                                  refine ziconst (k := 102) rfl (by decide) ?_
                                  refine zistore (k := 103) (ls' := [_, _, _, _, _, _, _, _, _, _]) rfl (Nat.le_of_ble_eq_true rfl) rfl ?_
                                  refine zforget (ls' := [_, _, _, _, _, _, _, _, _, _]) 7 rfl ?_
                                  have lp189_q : ∀ (g : Nat) (i : Nat) (σ5 : zv_H), (4 - i) < g → (i ≤ 4) → (∀ x k, x ≠ 331 → σ5 x k = zup σ3 289 66 (n + 1) x k) → (∀ u : Nat, u < i → σ5 331 u = if u < n + 1 then σ2 329 u else -1) → zV Γ m_M_round 4 0 0 Q (GM L) (0, 0) 189 [some (zR 289), some (zI m), some (zI k), some (zI (Wm 0 1)), some (zI (Wm 0 1 ^ (n + 1))), some (zI (n + 1)), some (zI w), none, some (zI (gaF S (pL Wm S m (σ2 329) (n + 1)))), some (zI i)] [] σ5 := by
                                    intro g
                                    induction g with
                                    | zero => intro i σ5 hg; exact absurd hg (Nat.not_lt_zero _)
                                    | succ g ih189_q =>
                                      intro i σ5 hg hi4_q f5_q h331_q
                                      refine ziload (k := 104) rfl rfl ?_
                                      refine ziconst (k := 105) rfl (by decide) ?_
                                      refine zicmp_ge (k := 106) rfl rfl (fun c14_q => ?_) (fun c14_q => ?_)
                                      · skip
                                        refine zaload_n (k := 122) rfl rfl ?_
                                        refine zgF 65 (k := 123) rfl ob_289 fl_12_210 rfl fx_289_65 ?_
                                        refine ziconst (k := 124) rfl (by decide) ?_
                                        refine ziload (k := 125) rfl rfl ?_
                                        refine ziastore (k := 126) rfl ar_331 ⟨by omega, by omega⟩ (by omega) ?_
                                        refine zaload_n (k := 127) rfl rfl ?_
                                        refine zgF 65 (k := 128) rfl ob_289 fl_12_210 rfl fx_289_65 ?_
                                        refine ziconst (k := 129) rfl (by decide) ?_
                                        refine zaload_n (k := 130) rfl rfl ?_
                                        refine zgF 64 (k := 131) rfl ob_289 fl_12_207 rfl fx_289_64 ?_
                                        refine ziload (k := 132) rfl rfl ?_
                                        refine ziconst (k := 133) rfl (by decide) ?_
                                        refine zisubB (k := 134) rfl (by omega) ?_
                                        rw [show (n : Int) + 1 - 1 = n by omega]
                                        refine ziaload (k := 135) rfl ar_330 ⟨by omega, by omega⟩ ?_
                                        refine ziastore (k := 136) rfl ar_331 ⟨by omega, by omega⟩ (by omega) ?_
                                        refine ziincB (k := 137) (ls' := [_, _, _, _, _, _, _, _, _, _]) rfl rfl (by decide) (by omega) rfl ?_
                                        refine zgoto (k := 138) rfl rfl ?_
                                        refine zforget (ls' := [_, _, _, _, _, _, _, _, _, _]) 8 rfl ?_
                                        refine zforget (ls' := [_, _, _, _, _, _, _, _, _, _]) 9 rfl ?_
                                        first
                                        | (have nb : ¬ vOK Wm S m (pL Wm S m (σ2 329) (n + 1)) := by
                                             obtain ⟨f3_q, h3_q⟩ := h2_q
                                             rcases h3_q with q | q
                                             · exfalso; have q1_q := q.1; omega
                                             · exact q.2
                                           exact ih64_q (w + 1) _ B (by omega) (by omega) (fun x k a c d => by rw [h2_q.1 x k (by omega), f2_q x k (by omega)]; exact hs x k a c d) (bst_old (by omega) hal hwb hdg hB (Or.inl nb)) (bsR_x (bsR_x hr r66_q (fun k => f2_q 331 k (by omega))) (h2_q.1 289 66 (by omega)) (fun k => h2_q.1 331 k (by omega))))
                                        | exact ih64_q (w + 1) _ B (by omega) (by omega) sc3_q (bst_old (by omega) hal hwb hdg hB (Or.inr ⟨bne, by omega⟩)) hr3_q
                                        | exact ih64_q (w + 1) _ _ (by omega) (by omega) (fun x k a c d => by
                                             rw [zup_n (by omega), zup_n (by omega), f5_q x k (by omega), zup_n (by omega)]; exact sc3_q x k a c d) hnew ⟨by
                                             rw [zup_n (by omega), zup_n (by omega), f5_q 289 66 (by omega), zup_s, cL_l, pL_l]; rfl, by rw [cL_l, pL_l]; omega, fun _ => ⟨fun u hu => by
                                               dsimp only
                                               rw [zup_n (by omega), zup_n (by omega), h331_q u (by omega), cL_l, pL_l]
                                               by_cases e : u < n + 1
                                               · rw [if_pos e, if_pos e, cL_pL _ _ e]
                                               · rw [if_neg e, if_neg e], by rw [zup_n (by omega), zup_s], by rw [zup_s, zup_n (by omega), f5_q 330 n (by omega), zup_n (by omega), wh]⟩⟩
                                      · skip
                                        refine zaload_n (k := 107) rfl rfl ?_
                                        refine zgF 65 (k := 108) rfl ob_289 fl_12_210 rfl fx_289_65 ?_
                                        refine ziload (k := 109) rfl rfl ?_
                                        refine ziload (k := 110) rfl rfl ?_
                                        refine ziload (k := 111) rfl rfl ?_
                                        refine zicmp_ge (k := 112) rfl rfl (fun c15_q => ?_) (fun c15_q => ?_)
                                        · skip
                                          refine ziconst (k := 118) rfl (by decide) ?_
                                          first
                                          | rw [show zI (σ2 329 i) = zI (if i < n + 1 then σ2 329 i else -1) by rw [if_pos (by omega)]]
                                          | rw [show zI (-1) = zI (if i < n + 1 then σ2 329 i else -1) by rw [if_neg (by omega)]]
                                          refine ziastore (k := 119) rfl ar_331 ⟨by omega, by omega⟩ (by omega) ?_
                                          refine ziincB (k := 120) (ls' := [_, _, _, _, _, _, _, _, _, _]) rfl rfl (by decide) (by omega) rfl ?_
                                          refine zgoto (k := 121) rfl rfl ?_
                                          refine ih189_q (i + 1) _ (by omega) (by omega) (fun x k q => by rw [zup_n (by omega)]; exact f5_q x k q) (fun u hu => ?_)
                                          by_cases e : u = i
                                          · rw [e, zup_s]
                                          · rw [zup_n (by omega)]; exact h331_q u (by omega)
                                        · skip
                                          refine zaload_n (k := 113) rfl rfl ?_
                                          refine zgF 63 (k := 114) rfl ob_289 fl_12_204 rfl fx_289_63 ?_
                                          refine ziload (k := 115) rfl rfl ?_
                                          refine ziaload (k := 116) rfl ar_329 ⟨by omega, by omega⟩ ?_
                                          rw [f5_q 329 _ (by omega), zup_n (by omega), e329_q]
                                          refine zgoto (k := 117) rfl rfl ?_
                                          first
                                          | rw [show zI (σ2 329 i) = zI (if i < n + 1 then σ2 329 i else -1) by rw [if_pos (by omega)]]
                                          | rw [show zI (-1) = zI (if i < n + 1 then σ2 329 i else -1) by rw [if_neg (by omega)]]
                                          refine ziastore (k := 119) rfl ar_331 ⟨by omega, by omega⟩ (by omega) ?_
                                          refine ziincB (k := 120) (ls' := [_, _, _, _, _, _, _, _, _, _]) rfl rfl (by decide) (by omega) rfl ?_
                                          refine zgoto (k := 121) rfl rfl ?_
                                          refine ih189_q (i + 1) _ (by omega) (by omega) (fun x k q => by rw [zup_n (by omega)]; exact f5_q x k q) (fun u hu => ?_)
                                          by_cases e : u = i
                                          · rw [e, zup_s]
                                          · rw [zup_n (by omega)]; exact h331_q u (by omega)
                                  exact lp189_q _ 0 _ (Nat.lt_succ_self _) (by omega) (fun _ _ _ => rfl) (fun u hu => absurd hu (Nat.not_lt_zero _))
                                · skip
                                  refine zaload_n (k := 87) rfl rfl ?_
                                  refine zgF 64 (k := 88) rfl ob_289 fl_12_207 rfl fx_289_64 ?_
                                  refine ziload (k := 89) rfl rfl ?_
                                  refine ziconst (k := 90) rfl (by decide) ?_
                                  refine zisubB (k := 91) rfl (by omega) ?_
                                  rw [show (n : Int) + 1 - 1 = n by omega]
                                  refine ziaload (k := 92) rfl ar_330 ⟨by omega, by omega⟩ ?_
                                  rw [wh]
                                  refine zaload_n (k := 93) rfl rfl ?_
                                  refine zgF 65 (k := 94) rfl ob_289 fl_12_210 rfl fx_289_65 ?_
                                  refine ziconst (k := 95) rfl (by decide) ?_
                                  refine ziaload (k := 96) rfl ar_331 ⟨by omega, by omega⟩ ?_
                                  rw [br.2.2]
                                  refine zicmp_lt (k := 97) rfl rfl (fun c16_q => ?_) (fun c16_q => ?_)
                                  · skip
                                    have better : B.1 = [] ∨ B.2.1 < gaF S (pL Wm S m (σ2 329) (n + 1)) ∨ (B.2.1 = gaF S (pL Wm S m (σ2 329) (n + 1)) ∧ whF (pL Wm S m (σ2 329) (n + 1)) < B.2.2) := by
                                      by_cases e : B.1 = []
                                      · exact Or.inl e
                                      · refine Or.inr ?_
                                        have l0_q : 0 < B.1.length := List.length_pos_iff.mpr e
                                        omega
                                    have hnew := bst_new (Wm := Wm) (S := S) (m := m) (by omega) hal hwb hdg z1_q.1 hB better
                                    refine zaload_n (k := 99) rfl rfl ?_
                                    refine ziload (k := 100) rfl rfl ?_
                                    refine zpI 66 (k := 101) rfl ob_289 fl_12_213 ⟨_, rfl, rfl⟩ rfl (by omega) rfl fx_289_66 ?_
                                    skip
                                    refine ziconst (k := 102) rfl (by decide) ?_
                                    refine zistore (k := 103) (ls' := [_, _, _, _, _, _, _, _, _, _]) rfl (Nat.le_of_ble_eq_true rfl) rfl ?_
                                    refine zforget (ls' := [_, _, _, _, _, _, _, _, _, _]) 7 rfl ?_
                                    have lp189_q : ∀ (g : Nat) (i : Nat) (σ5 : zv_H), (4 - i) < g → (i ≤ 4) → (∀ x k, x ≠ 331 → σ5 x k = zup σ3 289 66 (n + 1) x k) → (∀ u : Nat, u < i → σ5 331 u = if u < n + 1 then σ2 329 u else -1) → zV Γ m_M_round 4 0 0 Q (GM L) (0, 0) 189 [some (zR 289), some (zI m), some (zI k), some (zI (Wm 0 1)), some (zI (Wm 0 1 ^ (n + 1))), some (zI (n + 1)), some (zI w), none, some (zI (gaF S (pL Wm S m (σ2 329) (n + 1)))), some (zI i)] [] σ5 := by
                                      intro g
                                      induction g with
                                      | zero => intro i σ5 hg; exact absurd hg (Nat.not_lt_zero _)
                                      | succ g ih189_q =>
                                        intro i σ5 hg hi4_q f5_q h331_q
                                        refine ziload (k := 104) rfl rfl ?_
                                        refine ziconst (k := 105) rfl (by decide) ?_
                                        refine zicmp_ge (k := 106) rfl rfl (fun c17_q => ?_) (fun c17_q => ?_)
                                        · skip
                                          refine zaload_n (k := 122) rfl rfl ?_
                                          refine zgF 65 (k := 123) rfl ob_289 fl_12_210 rfl fx_289_65 ?_
                                          refine ziconst (k := 124) rfl (by decide) ?_
                                          refine ziload (k := 125) rfl rfl ?_
                                          refine ziastore (k := 126) rfl ar_331 ⟨by omega, by omega⟩ (by omega) ?_
                                          refine zaload_n (k := 127) rfl rfl ?_
                                          refine zgF 65 (k := 128) rfl ob_289 fl_12_210 rfl fx_289_65 ?_
                                          refine ziconst (k := 129) rfl (by decide) ?_
                                          refine zaload_n (k := 130) rfl rfl ?_
                                          refine zgF 64 (k := 131) rfl ob_289 fl_12_207 rfl fx_289_64 ?_
                                          refine ziload (k := 132) rfl rfl ?_
                                          refine ziconst (k := 133) rfl (by decide) ?_
                                          refine zisubB (k := 134) rfl (by omega) ?_
                                          rw [show (n : Int) + 1 - 1 = n by omega]
                                          refine ziaload (k := 135) rfl ar_330 ⟨by omega, by omega⟩ ?_
                                          refine ziastore (k := 136) rfl ar_331 ⟨by omega, by omega⟩ (by omega) ?_
                                          refine ziincB (k := 137) (ls' := [_, _, _, _, _, _, _, _, _, _]) rfl rfl (by decide) (by omega) rfl ?_
                                          refine zgoto (k := 138) rfl rfl ?_
                                          refine zforget (ls' := [_, _, _, _, _, _, _, _, _, _]) 8 rfl ?_
                                          refine zforget (ls' := [_, _, _, _, _, _, _, _, _, _]) 9 rfl ?_
                                          first
                                          | (have nb : ¬ vOK Wm S m (pL Wm S m (σ2 329) (n + 1)) := by
                                               obtain ⟨f3_q, h3_q⟩ := h2_q
                                               rcases h3_q with q | q
                                               · exfalso; have q1_q := q.1; omega
                                               · exact q.2
                                             exact ih64_q (w + 1) _ B (by omega) (by omega) (fun x k a c d => by rw [h2_q.1 x k (by omega), f2_q x k (by omega)]; exact hs x k a c d) (bst_old (by omega) hal hwb hdg hB (Or.inl nb)) (bsR_x (bsR_x hr r66_q (fun k => f2_q 331 k (by omega))) (h2_q.1 289 66 (by omega)) (fun k => h2_q.1 331 k (by omega))))
                                          | exact ih64_q (w + 1) _ B (by omega) (by omega) sc3_q (bst_old (by omega) hal hwb hdg hB (Or.inr ⟨bne, by omega⟩)) hr3_q
                                          | exact ih64_q (w + 1) _ _ (by omega) (by omega) (fun x k a c d => by
                                               rw [zup_n (by omega), zup_n (by omega), f5_q x k (by omega), zup_n (by omega)]; exact sc3_q x k a c d) hnew ⟨by
                                               rw [zup_n (by omega), zup_n (by omega), f5_q 289 66 (by omega), zup_s, cL_l, pL_l]; rfl, by rw [cL_l, pL_l]; omega, fun _ => ⟨fun u hu => by
                                                 dsimp only
                                                 rw [zup_n (by omega), zup_n (by omega), h331_q u (by omega), cL_l, pL_l]
                                                 by_cases e : u < n + 1
                                                 · rw [if_pos e, if_pos e, cL_pL _ _ e]
                                                 · rw [if_neg e, if_neg e], by rw [zup_n (by omega), zup_s], by rw [zup_s, zup_n (by omega), f5_q 330 n (by omega), zup_n (by omega), wh]⟩⟩
                                        · skip
                                          refine zaload_n (k := 107) rfl rfl ?_
                                          refine zgF 65 (k := 108) rfl ob_289 fl_12_210 rfl fx_289_65 ?_
                                          refine ziload (k := 109) rfl rfl ?_
                                          refine ziload (k := 110) rfl rfl ?_
                                          refine ziload (k := 111) rfl rfl ?_
                                          refine zicmp_ge (k := 112) rfl rfl (fun c18_q => ?_) (fun c18_q => ?_)
                                          · skip
                                            refine ziconst (k := 118) rfl (by decide) ?_
                                            first
                                            | rw [show zI (σ2 329 i) = zI (if i < n + 1 then σ2 329 i else -1) by rw [if_pos (by omega)]]
                                            | rw [show zI (-1) = zI (if i < n + 1 then σ2 329 i else -1) by rw [if_neg (by omega)]]
                                            refine ziastore (k := 119) rfl ar_331 ⟨by omega, by omega⟩ (by omega) ?_
                                            refine ziincB (k := 120) (ls' := [_, _, _, _, _, _, _, _, _, _]) rfl rfl (by decide) (by omega) rfl ?_
                                            refine zgoto (k := 121) rfl rfl ?_
                                            refine ih189_q (i + 1) _ (by omega) (by omega) (fun x k q => by rw [zup_n (by omega)]; exact f5_q x k q) (fun u hu => ?_)
                                            by_cases e : u = i
                                            · rw [e, zup_s]
                                            · rw [zup_n (by omega)]; exact h331_q u (by omega)
                                          · skip
                                            refine zaload_n (k := 113) rfl rfl ?_
                                            refine zgF 63 (k := 114) rfl ob_289 fl_12_204 rfl fx_289_63 ?_
                                            refine ziload (k := 115) rfl rfl ?_
                                            refine ziaload (k := 116) rfl ar_329 ⟨by omega, by omega⟩ ?_
                                            rw [f5_q 329 _ (by omega), zup_n (by omega), e329_q]
                                            refine zgoto (k := 117) rfl rfl ?_
                                            first
                                            | rw [show zI (σ2 329 i) = zI (if i < n + 1 then σ2 329 i else -1) by rw [if_pos (by omega)]]
                                            | rw [show zI (-1) = zI (if i < n + 1 then σ2 329 i else -1) by rw [if_neg (by omega)]]
                                            refine ziastore (k := 119) rfl ar_331 ⟨by omega, by omega⟩ (by omega) ?_
                                            refine ziincB (k := 120) (ls' := [_, _, _, _, _, _, _, _, _, _]) rfl rfl (by decide) (by omega) rfl ?_
                                            refine zgoto (k := 121) rfl rfl ?_
                                            refine ih189_q (i + 1) _ (by omega) (by omega) (fun x k q => by rw [zup_n (by omega)]; exact f5_q x k q) (fun u hu => ?_)
                                            by_cases e : u = i
                                            · rw [e, zup_s]
                                            · rw [zup_n (by omega)]; exact h331_q u (by omega)
                                    exact lp189_q _ 0 _ (Nat.lt_succ_self _) (by omega) (fun _ _ _ => rfl) (fun u hu => absurd hu (Nat.not_lt_zero _))
                                  · skip
                                    skip
                                    refine zgoto (k := 98) rfl rfl ?_
                                    refine ziincB (k := 137) (ls' := [_, _, _, _, _, _, _, _, _, _]) rfl rfl (by decide) (by omega) rfl ?_
                                    refine zgoto (k := 138) rfl rfl ?_
                                    refine zforget (ls' := [_, _, _, _, _, _, _, _, _, _]) 7 rfl ?_
                                    refine zforget (ls' := [_, _, _, _, _, _, _, _, _, _]) 8 rfl ?_
                                    first
                                    | (have nb : ¬ vOK Wm S m (pL Wm S m (σ2 329) (n + 1)) := by
                                         obtain ⟨f3_q, h3_q⟩ := h2_q
                                         rcases h3_q with q | q
                                         · exfalso; have q1_q := q.1; omega
                                         · exact q.2
                                       exact ih64_q (w + 1) _ B (by omega) (by omega) (fun x k a c d => by rw [h2_q.1 x k (by omega), f2_q x k (by omega)]; exact hs x k a c d) (bst_old (by omega) hal hwb hdg hB (Or.inl nb)) (bsR_x (bsR_x hr r66_q (fun k => f2_q 331 k (by omega))) (h2_q.1 289 66 (by omega)) (fun k => h2_q.1 331 k (by omega))))
                                    | exact ih64_q (w + 1) _ B (by omega) (by omega) sc3_q (bst_old (by omega) hal hwb hdg hB (Or.inr ⟨bne, by omega⟩)) hr3_q
                                    | exact ih64_q (w + 1) _ _ (by omega) (by omega) (fun x k a c d => by
                                         rw [zup_n (by omega), zup_n (by omega), f5_q x k (by omega), zup_n (by omega)]; exact sc3_q x k a c d) hnew ⟨by
                                         rw [zup_n (by omega), zup_n (by omega), f5_q 289 66 (by omega), zup_s, cL_l, pL_l]; rfl, by rw [cL_l, pL_l]; omega, fun _ => ⟨fun u hu => by
                                           dsimp only
                                           rw [zup_n (by omega), zup_n (by omega), h331_q u (by omega), cL_l, pL_l]
                                           by_cases e : u < n + 1
                                           · rw [if_pos e, if_pos e, cL_pL _ _ e]
                                           · rw [if_neg e, if_neg e], by rw [zup_n (by omega), zup_s], by rw [zup_s, zup_n (by omega), f5_q 330 n (by omega), zup_n (by omega), wh]⟩⟩
                          · skip
                            refine zgoto (k := 67) rfl rfl ?_
                            refine ziincB (k := 137) (ls' := [_, _, _, _, _, _, _, _, _, _]) rfl rfl (by decide) (by omega) rfl ?_
                            refine zgoto (k := 138) rfl rfl ?_
                            refine zforget (ls' := [_, _, _, _, _, _, _, _, _, _]) 7 rfl ?_
                            refine zforget (ls' := [_, _, _, _, _, _, _, _, _, _]) 8 rfl ?_
                            first
                            | (have nb : ¬ vOK Wm S m (pL Wm S m (σ2 329) (n + 1)) := by
                                 obtain ⟨f3_q, h3_q⟩ := h2_q
                                 rcases h3_q with q | q
                                 · exfalso; have q1_q := q.1; omega
                                 · exact q.2
                               exact ih64_q (w + 1) _ B (by omega) (by omega) (fun x k a c d => by rw [h2_q.1 x k (by omega), f2_q x k (by omega)]; exact hs x k a c d) (bst_old (by omega) hal hwb hdg hB (Or.inl nb)) (bsR_x (bsR_x hr r66_q (fun k => f2_q 331 k (by omega))) (h2_q.1 289 66 (by omega)) (fun k => h2_q.1 331 k (by omega))))
                            | exact ih64_q (w + 1) _ B (by omega) (by omega) sc3_q (bst_old (by omega) hal hwb hdg hB (Or.inr ⟨bne, by omega⟩)) hr3_q
                            | exact ih64_q (w + 1) _ _ (by omega) (by omega) (fun x k a c d => by
                                 rw [zup_n (by omega), zup_n (by omega), f5_q x k (by omega), zup_n (by omega)]; exact sc3_q x k a c d) hnew ⟨by
                                 rw [zup_n (by omega), zup_n (by omega), f5_q 289 66 (by omega), zup_s, cL_l, pL_l]; rfl, by rw [cL_l, pL_l]; omega, fun _ => ⟨fun u hu => by
                                   dsimp only
                                   rw [zup_n (by omega), zup_n (by omega), h331_q u (by omega), cL_l, pL_l]
                                   by_cases e : u < n + 1
                                   · rw [if_pos e, if_pos e, cL_pL _ _ e]
                                   · rw [if_neg e, if_neg e], by rw [zup_n (by omega), zup_s], by rw [zup_s, zup_n (by omega), f5_q 330 n (by omega), zup_n (by omega), wh]⟩⟩
                        · skip
                          refine zaload_n (k := 49) rfl rfl ?_
                          refine zgF 63 (k := 50) rfl ob_289 fl_12_204 rfl fx_289_63 ?_
                          refine ziload (k := 51) rfl rfl ?_
                          refine ziload (k := 52) rfl rfl ?_
                          refine ziload_n (k := 53) rfl rfl ?_
                          refine ziremP (k := 54) rfl (by omega) ?_
                          refine ziastore (k := 55) rfl ar_329 ⟨by omega, by omega⟩ (by omega) ?_
                          refine ziload (k := 56) rfl rfl ?_
                          refine ziload_n (k := 57) rfl rfl ?_
                          refine zidivP (k := 58) rfl (by omega) ?_
                          refine zistore (k := 59) (ls' := [_, _, _, _, _, _, _, _, _, _]) rfl (Nat.le_of_ble_eq_true rfl) rfl ?_
                          refine ziincB (k := 60) (ls' := [_, _, _, _, _, _, _, _, _, _]) rfl rfl (by decide) (by omega) rfl ?_
                          refine zgoto (k := 61) rfl rfl ?_
                          have rr := ih81_q (t + 1) (zup σ2 329 (n - t) ((w : Int) / Wm 0 1 ^ t % Wm 0 1)) (by omega) (by omega) (fun x k q => by rw [zup_n (by omega)]; exact f2_q x k q) (fun u q1_q q2_q => by
                            by_cases e : (u : Int) = n - t
                            · rw [e, zup_s, show n - u = t by omega]
                            · rw [zup_n (by omega)]; exact hd u (by omega) q2_q)
                          rw [show Wm 0 1 ^ (t + 1) = Wm 0 1 ^ t * Wm 0 1 from Int.pow_succ _ _, ← Int.ediv_ediv_of_nonneg (Int.le_of_lt hpt), show (n : Int) - ((t + 1 : Nat) : Int) = (n : Int) - t + -1 by omega] at rr
                          exact rr
                    have rr := lp81_q (n + 2) 0 _ (by omega) (by omega) (fun _ _ _ => rfl) (fun u q1_q q2_q => by omega)
                    rw [show (w : Int) / Wm 0 1 ^ 0 = w by rw [Int.pow_zero]; exact Int.ediv_one _, show (n : Int) - ((0 : Nat) : Int) = n + 1 - 1 by omega] at rr
                    exact rr
              exact lp64_q _ 0 _ _ (Nat.lt_succ_self _) (by omega) hs hB hr
        have rr := lp49_q 5 0 _ ([], 0, 0) (by omega) (by omega) sa (Or.inl ⟨rfl, fun p hp => by
          rcases hp.2.2 with q | q
          · have := hp.2.1; omega
          · rcases nm_b w1_q.1 (vOK_r hp.1) with b | ⟨b, _⟩
            · have := q.2; omega
            · have := hp.2.1; rw [b] at this; exact absurd this (by decide)⟩) ⟨by rw [zup_s]; rfl, by decide, fun q => absurd rfl q⟩
        rw [Int.pow_zero, show ((0 : Nat) : Int) + 1 = 1 from rfl] at rr
        exact rr
      · skip
        refine ziconst (k := 14) rfl (by decide) ?_
        refine zireturn (k := 15) rfl rfl rfl ?_
        rw [← hQ]
        refine ⟨rfl, _, rfl, ?_, scrM_rf σ⟩
        unfold rouQ
        rw [if_pos (by omega)]
