/-! AN IMAGE: all is read -/
def rdC (T : Int → Int) (Wm S : zv_H) : Nat → zv_H
  | 0 => S
  | c + 1 => zup (zup (zup (rdC T Wm S c) 1 c (jv (T (2 + 4 * c)) (Wm 2 c))) 2 c (jv (256 * T (2 + 4 * c + 1) + T (2 + 4 * c + 2)) 999)) 3 c (jv (T (2 + 4 * c + 3)) 9)
def okC (T : Int → Int) (Wm : zv_H) : Nat → Prop
  | 0 => True
  | c + 1 => okC T Wm c ∧ (0 ≤ T (2 + 4 * c) ∧ T (2 + 4 * c) ≤ Wm 2 c) ∧ (0 ≤ 256 * T (2 + 4 * c + 1) + T (2 + 4 * c + 2) ∧ 256 * T (2 + 4 * c + 1) + T (2 + 4 * c + 2) ≤ 999) ∧ (0 ≤ T (2 + 4 * c + 3) ∧ T (2 + 4 * c + 3) ≤ 9)
def pM (nc m : Int) : Int := 2 + 4 * nc + m * (6 + nc)
theorem pM_s (nc m : Int) : pM nc (m + 1) = pM nc m + 6 + nc := by
  unfold pM
  rw [Int.add_mul]
  omega
theorem pM_b {nc m : Int} (h : 0 ≤ nc ∧ nc ≤ 7) (hm : 0 ≤ m ∧ m ≤ 6) : 0 ≤ pM nc m ∧ pM nc m ≤ 200 := by
  unfold pM
  have h1 : 0 ≤ m * (6 + nc) := Int.mul_nonneg hm.1 (by omega)
  have h2 : m * (6 + nc) ≤ 6 * 13 := Int.mul_le_mul hm.2 (by omega) (by omega) (by omega)
  omega
def rdM (T : Int → Int) (nc : Int) (S : zv_H) : Nat → zv_H
  | 0 => S
  | m + 1 => rdK T m (pM nc m + 6) (rdP T nc m (pM nc m) (rdM T nc S m)) nc.toNat
def okM (T : Int → Int) (nc : Int) : Nat → Prop
  | 0 => True
  | m + 1 => okM T nc m ∧ okP T nc (pM nc m) ∧ okK T (pM nc m + 6) nc.toNat
def rdA (T : Int → Int) (Wm S : zv_H) : zv_H := rdM T (Wm 0 1) (rdC T Wm (zup S 0 0 (jv (256 * T 0 + T 1) 999)) (Wm 0 1).toNat) (Wm 0 3).toNat
def okH (T : Int → Int) (Wm : zv_H) (n : Int) : Prop := n = 3 + 4 * Wm 0 1 + Wm 0 3 * (6 + Wm 0 1) ∧ imS T (n - 1).toNat = T (n - 1)
def okA (T : Int → Int) (Wm : zv_H) (n : Int) : Prop := okH T Wm n ∧ (0 ≤ 256 * T 0 + T 1 ∧ 256 * T 0 + T 1 ≤ 999) ∧ okC T Wm (Wm 0 1).toNat ∧ okM T (Wm 0 1) (Wm 0 3).toNat
theorem rdC_n {T : Int → Int} {Wm S : zv_H} : ∀ {c : Nat} {g k : Int}, ¬ (1 ≤ g ∧ g ≤ 3) → rdC T Wm S c g k = S g k
  | 0, _, _, _ => rfl
  | c + 1, g, k, h => by
    show zup (zup (zup (rdC T Wm S c) _ _ _) _ _ _) _ _ _ g k = _
    rw [zup_n (by omega), zup_n (by omega), zup_n (by omega)]
    exact rdC_n h
theorem rdM_0 {T : Int → Int} {nc : Int} {S : zv_H} : ∀ {m : Nat} {g k : Int}, ¬ (4 ≤ g ∧ g ≤ 9) → rdM T nc S m g k = S g k
  | 0, _, _, _ => rfl
  | m + 1, g, k, h => by
    show rdK T m (pM nc m + 6) (rdP T nc m (pM nc m) (rdM T nc S m)) nc.toNat g k = _
    rw [rdK_n (by omega)]
    unfold rdP
    rw [zup_n (by omega), zup_n (by omega), zup_n (by omega), zup_n (by omega), zup_n (by omega)]
    exact rdM_0 h
theorem SZ_rdK {T : Int → Int} {m p : Int} {S : zv_H} (h : SZ S) (hm : 0 ≤ m ∧ m < 6) : ∀ c : Nat, c ≤ 7 → SZ (rdK T m p S c)
  | 0, _ => h
  | c + 1, q => by
    show SZ (if 0 < jv (T (p + c)) 255 then sndF (rdK T m p S c) m c (S 0 0 + jv (T (p + c)) 255 - 1) else rdK T m p S c)
    split
    · exact SZ_snd (SZ_rdK h hm c (by omega)) hm ⟨by omega, by omega⟩
    · exact SZ_rdK h hm c (by omega)
theorem SZ_rdM {T : Int → Int} {nc : Int} {S : zv_H} (h : SZ S) (hc : nc ≤ 7) : ∀ m : Nat, m ≤ 6 → SZ (rdM T nc S m)
  | 0, _ => h
  | m + 1, q => SZ_rdK (SZ_up (SZ_up (SZ_up (SZ_up (SZ_up (SZ_rdM h hc m (by omega)) (by unfold inS; omega)) (by unfold inS; omega)) (by unfold inS; omega)) (by unfold inS; omega)) (by unfold inS; omega)) ⟨by omega, by omega⟩ _ (by omega)
theorem SZ_rdC {T : Int → Int} {Wm S : zv_H} (h : SZ S) : ∀ c : Nat, c ≤ 7 → SZ (rdC T Wm S c)
  | 0, _ => h
  | c + 1, q => SZ_up (SZ_up (SZ_up (SZ_rdC h c (by omega)) (by unfold inS; omega)) (by unfold inS; omega)) (by unfold inS; omega)
theorem SZ_rdA {T : Int → Int} {Wm S : zv_H} (h : SZ S) (w1 : 0 ≤ Wm 0 1 ∧ Wm 0 1 ≤ 7) (w3 : 0 ≤ Wm 0 3 ∧ Wm 0 3 ≤ 6) : SZ (rdA T Wm S) := SZ_rdM (SZ_rdC (SZ_up h (by unfold inS; omega)) _ (by omega)) w1.2 _ (by omega)
set_option maxHeartbeats 4000000 in
set_option maxRecDepth 20000 in
theorem c_Image_read {Γ : zv_M} {L : Int} {σ S : zv_H} (hS : vw 10 σ 41 = S) (ht : 0 ≤ σ 2 1 ∧ σ 2 1 ≤ 1600) (hTT : ∀ k, 0 ≤ k → k < σ 2 1 → 0 ≤ σ 3 k ∧ σ 3 k ≤ 255) {w : Int} {Wm : zv_H} (hw : w ∈ wrL) (hW : vw 12 σ w = Wm) (hWI : WI Wm) : zC Γ m_Image_read 5 0 0 (GM L) [zR 284, zR w, zR 41] σ (zPI (GM L) (fun z σ' => (z = 0 ∨ z = 1) ∧ (z = 1 ↔ okA (tA σ) Wm (σ 2 1)) ∧ vw 10 σ' 41 = rdA (tA σ) Wm S ∧ ∀ x k, ¬ (41 ≤ x ∧ x ≤ 51) → x ≠ 56 → x ≠ 57 → ¬ (x = 284 ∧ (k = 3 ∨ k = 4)) → σ' x k = σ x k)) := by
  refine zC_of (ls0 := [_, _, _, _]) zm_Image_read (by decide) rfl (Nat.le_of_ble_eq_true rfl) ?_
  generalize hQ : (zPI (GM L) (fun z σ' => (z = 0 ∨ z = 1) ∧ (z = 1 ↔ okA (tA σ) Wm (σ 2 1)) ∧ vw 10 σ' 41 = rdA (tA σ) Wm S ∧ ∀ x k, ¬ (41 ≤ x ∧ x ≤ 51) → x ≠ 56 → x ≠ 57 → ¬ (x = 284 ∧ (k = 3 ∨ k = 4)) → σ' x k = σ x k)) = Q
  have w1 := hWI.1
  have w3 := hWI.2.2.1
  have w6 := hWI.2.2.2.2.2.1
  have hT : ∀ k, -1 ≤ tA σ k ∧ tA σ k ≤ 255 := fun k => by
    unfold tA
    split
    · rename_i q
      have := hTT k q.1 q.2
      omega
    · omega
  have ew0 : σ w = Wm 0 := st_e0 hW
  have ew2 : σ (w + 2) = Wm 2 := st_e (f := 2) hW (by omega)
  have hmul1 : 0 ≤ Wm 0 3 * (6 + Wm 0 1) := Int.mul_nonneg w3.1 (by omega)
  have hmul2 : Wm 0 3 * (6 + Wm 0 1) ≤ 6 * 13 := Int.mul_le_mul w3.2 (by omega) (by omega) (by omega)
  have eU : zup σ 284 3 0 w = Wm 0 := by rw [← ew0]; exact funext (fun k => zup_n (by have := wr_far hw; omega))
  have eT : tA (zup σ 284 3 0) = tA σ := by funext k; unfold tA; rw [zup_n (by omega), zup_n (by omega)]
  have cut49 : ∀ (v : Int), ((v = 0 ∨ v = 1) ∧ (v = 1 ↔ okH (tA σ) Wm (σ 2 1))) → zV Γ m_Image_read 5 0 0 Q (GM L) (0, 0) 49 [some (zR 284), some (zR w), some (zR 41), none] [zI v, zR 284] (zup σ 284 3 0) := by
    intro v hv
    refine zpZ 4 (k := 28) rfl ob_284 fl_2_94 ⟨_, rfl, rfl⟩ rfl (by first | exact Or.inl rfl | exact Or.inr rfl | omega) (by omega) rfl fx_284_4 ?_
    have h0 : rdg σ (zup (zup σ 284 3 0) 284 4 v) 0 (okH (tA σ) Wm (σ 2 1)) S := ⟨v, hv.1, hv.2, by rw [← hS]; exact vw_eq (fun x k h1 h2 => by rw [zup_n (by omega), zup_n (by omega)]) (by omega), fun _ _ _ _ _ => rfl⟩
    refine zaload_n (k := 29) rfl rfl ?_
    refine zaload_n (k := 30) rfl rfl ?_
    refine zsipush (k := 31) rfl rfl ?_
    refine zpVI (k := 32) rfl (c_Image_takeTwo h0 (by omega) ht hT) fm_Image_takeTwo lk_2_98 rfl rfl ob_284 ⟨_, rfl, rfl⟩ (Nat.le_of_ble_eq_true rfl) (by decide) ⟨by decide, by decide⟩ (fun z σn hh => ?_)
    rw [hh.1]
    clear h0
    have h0 := hh.2
    clear hh
    refine zpI 0 (k := 33) rfl ob_41 fl_2_23 ⟨_, rfl, rfl⟩ rfl (by omega) rfl fx_41_0 ?_
    have h0 := rdg_st h0 (fun τ hτ => stp_up0 (i := 0) (v := jv (256 * tA σ 0 + tA σ (0 + 1)) 999) hτ)
    simp only [Int.zero_add] at h0
    refine ziconst (k := 34) rfl (by decide) ?_
    refine zistore_n (k := 35) (ls' := [_, _, _, _]) rfl (Nat.le_of_ble_eq_true rfl) rfl ?_
    have lp65 : ∀ (g : Nat) (c : Nat) (σn : zv_H), ((Wm 0 1).toNat - c) < g → ((c : Int) ≤ Wm 0 1) → (rdg σ σn (2 + 4 * c) (okH (tA σ) Wm (σ 2 1) ∧ (0 ≤ 256 * tA σ 0 + tA σ 1 ∧ 256 * tA σ 0 + tA σ 1 ≤ 999) ∧ okC (tA σ) Wm c) (rdC (tA σ) Wm (zup S 0 0 (jv (256 * tA σ 0 + tA σ 1) 999)) c)) → zV Γ m_Image_read 5 0 0 Q (GM L) (0, 0) 65 [some (zR 284), some (zR w), some (zR 41), some (zI c)] [] σn := by
      intro g
      induction g with
      | zero => intro c σn hg; exact absurd hg (Nat.not_lt_zero _)
      | succ g ih65 =>
        intro c σn hg hc h0
        refine ziload_n (k := 36) rfl rfl ?_
        refine zaload_n (k := 37) rfl rfl ?_
        refine zgI 1 (k := 38) rfl (wr_ob hw) fl_2_32 rfl (wr_fx_1 hw) ?_
        rw [show σn w = Wm 0 from st_e0 (rdg_w h0 hw hW)]
        refine zicmp_ge (k := 39) rfl rfl (fun c1 => ?_) (fun c1 => ?_)
        · skip
          rw [show c = (Wm 0 1).toNat by omega] at h0
          refine ziconst (k := 66) rfl (by decide) ?_
          refine zistore_n (k := 67) (ls' := [_, _, _, _]) rfl (Nat.le_of_ble_eq_true rfl) rfl ?_
          have lp130 : ∀ (g : Nat) (m : Nat) (σn : zv_H), ((Wm 0 3).toNat - m) < g → ((m : Int) ≤ Wm 0 3) → (rdg σ σn (pM (Wm 0 1) m) (okH (tA σ) Wm (σ 2 1) ∧ (0 ≤ 256 * tA σ 0 + tA σ 1 ∧ 256 * tA σ 0 + tA σ 1 ≤ 999) ∧ okC (tA σ) Wm (Wm 0 1).toNat ∧ okM (tA σ) (Wm 0 1) m) (rdM (tA σ) (Wm 0 1) (rdC (tA σ) Wm (zup S 0 0 (jv (256 * tA σ 0 + tA σ 1) 999)) (Wm 0 1).toNat) m)) → zV Γ m_Image_read 5 0 0 Q (GM L) (0, 0) 130 [some (zR 284), some (zR w), some (zR 41), some (zI m)] [] σn := by
            intro g
            induction g with
            | zero => intro m σn hg; exact absurd hg (Nat.not_lt_zero _)
            | succ g ih130 =>
              intro m σn hg hm h0
              refine ziload_n (k := 68) rfl rfl ?_
              refine zaload_n (k := 69) rfl rfl ?_
              refine zgI 3 (k := 70) rfl (wr_ob hw) fl_2_53 rfl (wr_fx_3 hw) ?_
              rw [show σn w = Wm 0 from st_e0 (rdg_w h0 hw hW)]
              refine zicmp_ge (k := 71) rfl rfl (fun c2 => ?_) (fun c2 => ?_)
              · skip
                rw [show m = (Wm 0 3).toNat by omega] at h0
                obtain ⟨f, g1, g2, g3⟩ := h0
                rw [show (okH (tA σ) Wm (σ 2 1) ∧ (0 ≤ 256 * tA σ 0 + tA σ 1 ∧ 256 * tA σ 0 + tA σ 1 ≤ 999) ∧ okC (tA σ) Wm (Wm 0 1).toNat ∧ okM (tA σ) (Wm 0 1) (Wm 0 3).toNat) = okA (tA σ) Wm (σ 2 1) from rfl] at g2
                refine zaload_n (k := 79) rfl rfl ?_
                refine zgI 4 (k := 80) rfl ob_284 fl_2_94 rfl fx_284_4 ?_
                rw [show σn 284 4 = f by rw [g3.2 284 4 (by omega) (by omega) (by omega), zup_s]]
                refine zzreturn (k := 81) rfl rfl g1 rfl ?_
                rw [← hQ]
                exact ⟨rfl, _, rfl, g1, g2, g3.1, fun x k q1 q2 q3 q4 => by rw [g3.2 x k q1 q2 q3, zup_n (by omega), zup_n (by omega)]⟩
              · skip
                refine zaload_n (k := 72) rfl rfl ?_
                refine zaload_n (k := 73) rfl rfl ?_
                refine zaload_n (k := 74) rfl rfl ?_
                refine ziload_n (k := 75) rfl rfl ?_
                refine zpV0 (k := 76) rfl (c_Image_readMan h0 (by have := pM_b w1 (m := (m : Int)) (by omega); omega) ht hT hw hW w1 (by omega) (by rw [rdM_0 (by omega), rdC_n (by omega), zup_s]; exact jv_b (by omega))) fm_Image_readMan lk_2_106 rfl rfl ob_284 ⟨_, rfl, rfl⟩ (Nat.le_of_ble_eq_true rfl) (by decide) ⟨by decide, by decide⟩ (fun σn hh => ?_)
                clear h0
                have h0 := hh
                clear hh
                refine ziincB (k := 77) (ls' := [_, _, _, _]) rfl rfl (by decide) (by omega) rfl ?_
                refine zgoto (k := 78) rfl rfl ?_
                refine ih130 (m + 1) _ (by omega) (by omega) ?_
                rw [show pM (Wm 0 1) ((m + 1 : Nat) : Int) = pM (Wm 0 1) m + 6 + Wm 0 1 from pM_s (Wm 0 1) (m : Int)]
                refine rdg_iff h0 ?_
                simp only [okM, and_assoc]
          exact lp130 _ 0 _ (Nat.lt_succ_self _) (by omega) (by rw [show pM (Wm 0 1) ((0 : Nat) : Int) = 2 + 4 * (((Wm 0 1).toNat : Nat) : Int) by unfold pM; rw [show ((0 : Nat) : Int) = 0 from rfl, Int.zero_mul]; omega]; exact rdg_iff h0 (by unfold okM; simp only [and_true]))
        · skip
          have w6c := w6 (c : Int) (by omega) (by omega)
          refine zaload_n (k := 40) rfl rfl ?_
          refine zgF 1 (k := 41) rfl ob_41 fl_2_37 rfl fx_41_1 ?_
          refine ziload_n (k := 42) rfl rfl ?_
          refine zaload_n (k := 43) rfl rfl ?_
          refine zaload_n (k := 44) rfl rfl ?_
          refine zgF 6 (k := 45) rfl (wr_ob hw) fl_2_102 rfl (wr_fx_6 hw) ?_
          refine ziload_n (k := 46) rfl rfl ?_
          refine zfS1 (k := 47) rfl (c_NT_at (wr_ar_2 hw)) fm_NT_at lk_2_40 rfl rfl (Nat.le_of_ble_eq_true rfl) (by decide) ⟨by decide, by decide⟩ ?_
          rw [zat_in (by omega), show σn (w + 2) = Wm 2 from st_e (f := 2) (rdg_w h0 hw hW) (by omega)]
          refine zpVI (k := 48) rfl (c_Image_take h0 (by omega) ht) fm_Image_take lk_2_103 rfl rfl ob_284 ⟨_, rfl, rfl⟩ (Nat.le_of_ble_eq_true rfl) (by decide) ⟨by decide, by decide⟩ (fun z σn hh => ?_)
          rw [hh.1]
          clear h0
          have h0 := hh.2
          clear hh
          refine zpS0 (k := 49) rfl (k_iput (f := 1) ar_42 (by omega) h0 (by omega) (by omega)) fm_NT_put lk_2_80 rfl rfl (Nat.le_of_ble_eq_true rfl) (by decide) ⟨by decide, by decide⟩ (fun σn hh => ?_)
          clear h0
          have h0 := hh
          clear hh
          refine zaload_n (k := 50) rfl rfl ?_
          refine zgF 2 (k := 51) rfl ob_41 fl_2_47 rfl fx_41_2 ?_
          refine ziload_n (k := 52) rfl rfl ?_
          refine zaload_n (k := 53) rfl rfl ?_
          refine zsipush (k := 54) rfl rfl ?_
          refine zpVI (k := 55) rfl (c_Image_takeTwo h0 (by omega) ht hT) fm_Image_takeTwo lk_2_98 rfl rfl ob_284 ⟨_, rfl, rfl⟩ (Nat.le_of_ble_eq_true rfl) (by decide) ⟨by decide, by decide⟩ (fun z σn hh => ?_)
          rw [hh.1]
          clear h0
          have h0 := hh.2
          clear hh
          refine zpS0 (k := 56) rfl (k_iput (f := 2) ar_43 (by omega) h0 (by omega) (by omega)) fm_NT_put lk_2_80 rfl rfl (Nat.le_of_ble_eq_true rfl) (by decide) ⟨by decide, by decide⟩ (fun σn hh => ?_)
          clear h0
          have h0 := hh
          clear hh
          refine zaload_n (k := 57) rfl rfl ?_
          refine zgF 3 (k := 58) rfl ob_41 fl_2_50 rfl fx_41_3 ?_
          refine ziload_n (k := 59) rfl rfl ?_
          refine zaload_n (k := 60) rfl rfl ?_
          refine zbipush (k := 61) rfl rfl ?_
          refine zpVI (k := 62) rfl (c_Image_take h0 (by omega) ht) fm_Image_take lk_2_103 rfl rfl ob_284 ⟨_, rfl, rfl⟩ (Nat.le_of_ble_eq_true rfl) (by decide) ⟨by decide, by decide⟩ (fun z σn hh => ?_)
          rw [hh.1]
          clear h0
          have h0 := hh.2
          clear hh
          refine zpS0 (k := 63) rfl (k_iput (f := 3) ar_44 (by omega) h0 (by omega) (by omega)) fm_NT_put lk_2_80 rfl rfl (Nat.le_of_ble_eq_true rfl) (by decide) ⟨by decide, by decide⟩ (fun σn hh => ?_)
          clear h0
          have h0 := hh
          clear hh
          refine ziincB (k := 64) (ls' := [_, _, _, _]) rfl rfl (by decide) (by omega) rfl ?_
          refine zgoto (k := 65) rfl rfl ?_
          refine ih65 (c + 1) _ (by omega) (by omega) ?_
          rw [show 2 + 4 * ((c + 1 : Nat) : Int) = 2 + 4 * (c : Int) + 1 + 2 + 1 by omega]
          refine rdg_iff h0 ?_
          simp only [okC, and_assoc, Int.add_assoc, Int.reduceAdd]
    exact lp65 _ 0 _ (Nat.lt_succ_self _) (by omega) (rdg_iff h0 (by unfold okC; simp only [and_true]))
  refine zaload_n (k := 0) rfl rfl ?_
  refine ziconst (k := 1) rfl (by decide) ?_
  refine zpI 3 (k := 2) rfl ob_284 fl_2_84 ⟨_, rfl, rfl⟩ rfl (by omega) rfl fx_284_3 ?_
  refine zaload_n (k := 3) rfl rfl ?_
  refine zaload_n (k := 4) rfl rfl ?_
  refine zgF 2 (k := 5) rfl ob_284 fl_2_19 rfl fx_284_2 ?_
  refine zgI 1 (k := 6) rfl ob_2 fl_2_87 rfl fx_2_1 ?_
  rw [zup_n (by omega)]
  refine ziconst (k := 7) rfl (by decide) ?_
  refine ziconst (k := 8) rfl (by decide) ?_
  refine zaload_n (k := 9) rfl rfl ?_
  refine zgI 1 (k := 10) rfl (wr_ob hw) fl_2_32 rfl (wr_fx_1 hw) ?_
  rw [eU]
  refine zimulB (k := 11) rfl (by omega) ?_
  refine ziaddB (k := 12) rfl (by omega) ?_
  refine zaload_n (k := 13) rfl rfl ?_
  refine zgI 3 (k := 14) rfl (wr_ob hw) fl_2_53 rfl (wr_fx_3 hw) ?_
  rw [eU]
  refine zbipush (k := 15) rfl rfl ?_
  refine zaload_n (k := 16) rfl rfl ?_
  refine zgI 1 (k := 17) rfl (wr_ob hw) fl_2_32 rfl (wr_fx_1 hw) ?_
  rw [eU]
  refine ziaddB (k := 18) rfl (by omega) ?_
  refine zimulB (k := 19) rfl (by omega) ?_
  refine ziaddB (k := 20) rfl (by omega) ?_
  refine zicmp_ne (k := 21) rfl rfl (fun c3 => ?_) (fun c3 => ?_)
  · skip
    refine ziconst (k := 27) rfl (by decide) ?_
    refine cut49 _ ⟨by first | exact Or.inl rfl | exact Or.inr rfl, ?_⟩
    unfold okH
    first | exact ⟨fun q => absurd q (by decide), fun q => by have q1 := q.1; have q2 := q.2; omega⟩ | exact ⟨fun _ => ⟨by omega, by omega⟩, fun _ => rfl⟩
  · skip
    refine zaload_n (k := 22) rfl rfl ?_
    refine zfV1 (k := 23) rfl (c_Image_sumFits (by rw [zup_n (by omega)]; exact ht) (fun k h1 h2 => by rw [zup_n (by omega)] at h2 ⊢; exact hTT k h1 h2)) fm_Image_sumFits lk_2_90 rfl rfl ob_284 ⟨_, rfl, rfl⟩ (Nat.le_of_ble_eq_true rfl) (by decide) ⟨by decide, by decide⟩ ?_
    rw [eT, zup_n (a' := 2) (by omega)]
    refine zif_eq (k := 24) rfl rfl (fun c4 => ?_) (fun c4 => ?_)
    · skip
      refine ziconst (k := 27) rfl (by decide) ?_
      refine cut49 _ ⟨by first | exact Or.inl rfl | exact Or.inr rfl, ?_⟩
      unfold okH
      first | exact ⟨fun q => absurd q (by decide), fun q => by have q1 := q.1; have q2 := q.2; omega⟩ | exact ⟨fun _ => ⟨by omega, by omega⟩, fun _ => rfl⟩
    · skip
      refine ziconst (k := 25) rfl (by decide) ?_
      refine zgoto (k := 26) rfl rfl ?_
      refine cut49 _ ⟨by first | exact Or.inl rfl | exact Or.inr rfl, ?_⟩
      unfold okH
      first | exact ⟨fun q => absurd q (by decide), fun q => by have q1 := q.1; have q2 := q.2; omega⟩ | exact ⟨fun _ => ⟨by omega, by omega⟩, fun _ => rfl⟩
