/-! AN IMAGE: a man is read -/
def rdK (T : Int → Int) (m p : Int) (S : zv_H) : Nat → zv_H
  | 0 => S
  | c + 1 => if 0 < jv (T (p + c)) 255 then sndF (rdK T m p S c) m c (S 0 0 + jv (T (p + c)) 255 - 1) else rdK T m p S c
def okK (T : Int → Int) (p : Int) : Nat → Prop
  | 0 => True
  | c + 1 => okK T p c ∧ (0 ≤ T (p + c) ∧ T (p + c) ≤ 255)
def lfm (T : Int → Int) (p : Int) : Int := if jv (T (p + 1)) 4 = 1 then 99 else 0
def rdP (T : Int → Int) (nc m p : Int) (S : zv_H) : zv_H := zup (zup (zup (zup (zup S 4 m (jv (T p) (nc - 1))) 5 m (jv (T (p + 1)) 4)) 6 m (jv (T (p + 2)) (lfm T p))) 7 m (jv (T (p + 3)) 99)) 8 m (jv (256 * T (p + 4) + T (p + 5)) 9999)
def okP (T : Int → Int) (nc p : Int) : Prop := (0 ≤ T p ∧ T p ≤ nc - 1) ∧ (0 ≤ T (p + 1) ∧ T (p + 1) ≤ 4) ∧ (0 ≤ T (p + 2) ∧ T (p + 2) ≤ lfm T p) ∧ (0 < jv (T (p + 2)) (lfm T p) ↔ jv (T (p + 1)) 4 = 1) ∧ (0 ≤ T (p + 3) ∧ T (p + 3) ≤ 99) ∧ (0 ≤ 256 * T (p + 4) + T (p + 5) ∧ 256 * T (p + 4) + T (p + 5) ≤ 9999)
theorem rdK_n {T : Int → Int} {m p : Int} {S : zv_H} : ∀ {c : Nat} {g k : Int}, g ≠ 9 → rdK T m p S c g k = S g k
  | 0, _, _, _ => rfl
  | c + 1, g, k, h => by
    show (if 0 < jv (T (p + c)) 255 then sndF (rdK T m p S c) m c (S 0 0 + jv (T (p + c)) 255 - 1) else rdK T m p S c) g k = _
    split
    · unfold sndF
      split
      · rw [zup_n (by omega)]; exact rdK_n h
      · exact rdK_n h
    · exact rdK_n h
theorem k_iput {Γ : zv_M} {L : Int} {σ0 σ1 : zv_H} {g f n i v p : Int} {P : Prop} {S1 : zv_H} (hA : zv_ar (GM L) g .int n) (hg : g = 41 + f) (h : rdg σ0 σ1 p P S1) (hf : 1 ≤ f ∧ f ≤ 10) (hi : 0 ≤ i ∧ i < n) : zC Γ m_NT_put 0 0 0 (GM L) [zR g, zI i, zI v] σ1 (zP0 (GM L) (fun σ' => rdg σ0 σ' p P (zup S1 f i v))) := by
  subst hg
  refine zC_mono (fun q G' σ' hq => ?_) (c_NT_put hA (by omega))
  obtain ⟨rfl, rfl, rfl⟩ := hq
  refine ⟨rfl, rfl, ?_⟩
  rw [zpt_in hi]
  exact rdg_st h (fun τ hτ => stp_up hτ hf)
theorem k_isend {Γ : zv_M} {L : Int} {σ0 σ1 : zv_H} {m c t p : Int} {P : Prop} {S1 : zv_H} (h : rdg σ0 σ1 p P S1) (hm : 0 ≤ m ∧ m < 6) (hc : 0 ≤ c ∧ c < 7) : zC Γ m_State_send 1 0 0 (GM L) [zR 41, zI m, zI c, zI t] σ1 (zP0 (GM L) (fun σ' => rdg σ0 σ' p P (sndF S1 m c t))) := by
  refine zC_mono (fun q G' σ' hq => ?_) (c_State_send (by decide) hm hc)
  obtain ⟨rfl, rfl, rfl⟩ := hq
  exact ⟨rfl, rfl, rdg_st h (fun τ hτ => stp_snd hτ)⟩
set_option maxHeartbeats 4000000 in
set_option maxRecDepth 20000 in
theorem c_Image_readMan {Γ : zv_M} {L : Int} {σ0 σn S : zv_H} {p : Int} {P : Prop} (h0 : rdg σ0 σn p P S) (hb : 0 ≤ p ∧ p ≤ 3000) (ht : 0 ≤ σ0 2 1 ∧ σ0 2 1 ≤ 1600) {w m : Int} {Wm : zv_H} (hT : ∀ k, -1 ≤ tA σ0 k ∧ tA σ0 k ≤ 255) (hw : w ∈ wrL) (hW : vw 12 σ0 w = Wm) (w1 : 0 ≤ Wm 0 1 ∧ Wm 0 1 ≤ 7) (hm : 0 ≤ m ∧ m < 6) (hwk : 0 ≤ S 0 0 ∧ S 0 0 ≤ 999) : zC Γ m_Image_readMan 4 0 0 (GM L) [zR 284, zR w, zR 41, zI m] σn (zP0 (GM L) (fun σ' => rdg σ0 σ' (p + 6 + Wm 0 1) (P ∧ okP (tA σ0) (Wm 0 1) p ∧ okK (tA σ0) (p + 6) (Wm 0 1).toNat) (rdK (tA σ0) m (p + 6) (rdP (tA σ0) (Wm 0 1) m p S) (Wm 0 1).toNat))) := by
  refine zC_of (ls0 := [_, _, _, _, _, _, _, _]) zm_Image_readMan (by decide) rfl (Nat.le_of_ble_eq_true rfl) ?_
  generalize hQ : (zP0 (GM L) (fun σ' => rdg σ0 σ' (p + 6 + Wm 0 1) (P ∧ okP (tA σ0) (Wm 0 1) p ∧ okK (tA σ0) (p + 6) (Wm 0 1).toNat) (rdK (tA σ0) m (p + 6) (rdP (tA σ0) (Wm 0 1) m p S) (Wm 0 1).toNat))) = Q
  have cut80 : ∀ (v : Int) (σn : zv_H), (rdg σ0 σn (p + 3) (((P ∧ (0 ≤ tA σ0 p ∧ tA σ0 p ≤ Wm 0 1 - 1)) ∧ (0 ≤ tA σ0 (p + 1) ∧ tA σ0 (p + 1) ≤ 4)) ∧ (0 ≤ tA σ0 (p + 2) ∧ tA σ0 (p + 2) ≤ lfm (tA σ0) p)) (zup S 4 m (jv (tA σ0 p) (Wm 0 1 - 1)))) → ((v = 0 ∨ v = 1) ∧ (v = 1 ↔ (((P ∧ (0 ≤ tA σ0 p ∧ tA σ0 p ≤ Wm 0 1 - 1)) ∧ (0 ≤ tA σ0 (p + 1) ∧ tA σ0 (p + 1) ≤ 4)) ∧ (0 ≤ tA σ0 (p + 2) ∧ tA σ0 (p + 2) ≤ lfm (tA σ0) p)) ∧ (0 < jv (tA σ0 (p + 2)) (lfm (tA σ0) p) ↔ jv (tA σ0 (p + 1)) 4 = 1))) → zV Γ m_Image_readMan 4 0 0 Q (GM L) (0, 0) 80 [some (zR 284), some (zR w), some (zR 41), some (zI m), some (zI (jv (tA σ0 (p + 1)) 4)), some (zI (jv (tA σ0 (p + 2)) (lfm (tA σ0) p))), none, none] [zI v, zR 284] σn := by
    intro v σn h0 hv
    refine zpZ 4 (k := 42) rfl ob_284 fl_2_94 ⟨_, rfl, rfl⟩ rfl (by first | exact Or.inl rfl | exact Or.inr rfl | omega) (by omega) rfl fx_284_4 ?_
    have h0 := rdg_f h0 hv.1 hv.2
    refine zaload_n (k := 43) rfl rfl ?_
    refine zgF 5 (k := 44) rfl ob_41 fl_2_59 rfl fx_41_5 ?_
    refine ziload_n (k := 45) rfl rfl ?_
    refine ziload (k := 46) rfl rfl ?_
    refine zpS0 (k := 47) rfl (k_iput (f := 5) ar_46 (by omega) h0 (by omega) (by omega)) fm_NT_put lk_2_80 rfl rfl (Nat.le_of_ble_eq_true rfl) (by decide) ⟨by decide, by decide⟩ (fun σn hh => ?_)
    clear h0
    have h0 := hh
    clear hh
    refine zaload_n (k := 48) rfl rfl ?_
    refine zgF 6 (k := 49) rfl ob_41 fl_2_62 rfl fx_41_6 ?_
    refine ziload_n (k := 50) rfl rfl ?_
    refine ziload (k := 51) rfl rfl ?_
    refine zpS0 (k := 52) rfl (k_iput (f := 6) ar_47 (by omega) h0 (by omega) (by omega)) fm_NT_put lk_2_80 rfl rfl (Nat.le_of_ble_eq_true rfl) (by decide) ⟨by decide, by decide⟩ (fun σn hh => ?_)
    clear h0
    have h0 := hh
    clear hh
    refine zaload_n (k := 53) rfl rfl ?_
    refine zgF 7 (k := 54) rfl ob_41 fl_2_65 rfl fx_41_7 ?_
    refine ziload_n (k := 55) rfl rfl ?_
    refine zaload_n (k := 56) rfl rfl ?_
    refine zbipush (k := 57) rfl rfl ?_
    refine zpVI (k := 58) rfl (c_Image_take h0 (by omega) ht) fm_Image_take lk_2_103 rfl rfl ob_284 ⟨_, rfl, rfl⟩ (Nat.le_of_ble_eq_true rfl) (by decide) ⟨by decide, by decide⟩ (fun z σn hh => ?_)
    rw [hh.1]
    clear h0
    have h0 := hh.2
    clear hh
    try simp only [Int.add_assoc, Int.reduceAdd] at h0
    refine zpS0 (k := 59) rfl (k_iput (f := 7) ar_48 (by omega) h0 (by omega) (by omega)) fm_NT_put lk_2_80 rfl rfl (Nat.le_of_ble_eq_true rfl) (by decide) ⟨by decide, by decide⟩ (fun σn hh => ?_)
    clear h0
    have h0 := hh
    clear hh
    refine zaload_n (k := 60) rfl rfl ?_
    refine zgF 8 (k := 61) rfl ob_41 fl_2_68 rfl fx_41_8 ?_
    refine ziload_n (k := 62) rfl rfl ?_
    refine zaload_n (k := 63) rfl rfl ?_
    refine zsipush (k := 64) rfl rfl ?_
    refine zpVI (k := 65) rfl (c_Image_takeTwo h0 (by omega) ht hT) fm_Image_takeTwo lk_2_98 rfl rfl ob_284 ⟨_, rfl, rfl⟩ (Nat.le_of_ble_eq_true rfl) (by decide) ⟨by decide, by decide⟩ (fun z σn hh => ?_)
    rw [hh.1]
    clear h0
    have h0 := hh.2
    clear hh
    try simp only [Int.add_assoc, Int.reduceAdd] at h0
    refine zpS0 (k := 66) rfl (k_iput (f := 8) ar_49 (by omega) h0 (by omega) (by omega)) fm_NT_put lk_2_80 rfl rfl (Nat.le_of_ble_eq_true rfl) (by decide) ⟨by decide, by decide⟩ (fun σn hh => ?_)
    clear h0
    have h0 := hh
    clear hh
    refine ziconst (k := 67) rfl (by decide) ?_
    refine zistore (k := 68) (ls' := [_, _, _, _, _, _, _, _]) rfl (Nat.le_of_ble_eq_true rfl) rfl ?_
    refine zforget (ls' := [_, _, _, _, _, _, _, _]) 4 rfl ?_
    refine zforget (ls' := [_, _, _, _, _, _, _, _]) 5 rfl ?_
    have lp135 : ∀ (g : Nat) (c : Nat) (σn : zv_H), ((Wm 0 1).toNat - c) < g → ((c : Int) ≤ Wm 0 1) → (rdg σ0 σn (p + (6 + c)) (P ∧ okP (tA σ0) (Wm 0 1) p ∧ okK (tA σ0) (p + 6) c) (rdK (tA σ0) m (p + 6) (rdP (tA σ0) (Wm 0 1) m p S) c)) → zV Γ m_Image_readMan 4 0 0 Q (GM L) (0, 0) 135 [some (zR 284), some (zR w), some (zR 41), some (zI m), none, none, some (zI c), none] [] σn := by
      intro g
      induction g with
      | zero => intro c σn hg; exact absurd hg (Nat.not_lt_zero _)
      | succ g ih135 =>
        intro c σn hg hc h0
        refine ziload (k := 69) rfl rfl ?_
        refine zaload_n (k := 70) rfl rfl ?_
        refine zgI 1 (k := 71) rfl (wr_ob hw) fl_2_32 rfl (wr_fx_1 hw) ?_
        rw [show σn w = Wm 0 from st_e0 (rdg_w h0 hw hW)]
        refine zicmp_ge (k := 72) rfl rfl (fun c1 => ?_) (fun c1 => ?_)
        · skip
          rw [show c = (Wm 0 1).toNat by omega] at h0
          refine zreturn (k := 91) rfl rfl rfl ?_
          rw [← hQ]
          refine ⟨rfl, rfl, ?_⟩
          rw [show p + 6 + Wm 0 1 = p + (6 + (((Wm 0 1).toNat : Nat) : Int)) by omega]
          exact h0
        · skip
          refine zaload_n (k := 73) rfl rfl ?_
          refine zsipush (k := 74) rfl rfl ?_
          refine zpVI (k := 75) rfl (c_Image_take h0 (by omega) ht) fm_Image_take lk_2_103 rfl rfl ob_284 ⟨_, rfl, rfl⟩ (Nat.le_of_ble_eq_true rfl) (by decide) ⟨by decide, by decide⟩ (fun z σn hh => ?_)
          rw [hh.1]
          clear h0
          have h0 := hh.2
          clear hh
          try simp only [Int.add_assoc, Int.reduceAdd] at h0
          refine zistore (k := 76) (ls' := [_, _, _, _, _, _, _, _]) rfl (Nat.le_of_ble_eq_true rfl) rfl ?_
          have jb := jv_b (v := tA σ0 (p + (6 + (c : Int)))) (mo := 255) (by omega)
          refine ziload (k := 77) rfl rfl ?_
          refine zif_le (k := 78) rfl rfl (fun c2 => ?_) (fun c2 => ?_)
          · skip
            refine ziincB (k := 89) (ls' := [_, _, _, _, _, _, _, _]) rfl rfl (by decide) (by omega) rfl ?_
            refine zgoto (k := 90) rfl rfl ?_
            refine zforget (ls' := [_, _, _, _, _, _, _, _]) 7 rfl ?_
            have e6 : p + 6 + (c : Int) = p + (6 + (c : Int)) := by omega
            have eo : (P ∧ okP (tA σ0) (Wm 0 1) p ∧ okK (tA σ0) (p + 6) (c + 1)) ↔ ((P ∧ okP (tA σ0) (Wm 0 1) p ∧ okK (tA σ0) (p + 6) c) ∧ (0 ≤ tA σ0 (p + (6 + (c : Int))) ∧ tA σ0 (p + (6 + (c : Int))) ≤ 255)) := by
              rw [← e6]
              simp only [okK, and_assoc]
            have er : rdK (tA σ0) m (p + 6) (rdP (tA σ0) (Wm 0 1) m p S) (c + 1) = if 0 < jv (tA σ0 (p + 6 + (c : Int))) 255 then sndF (rdK (tA σ0) m (p + 6) (rdP (tA σ0) (Wm 0 1) m p S) c) m c (S 0 0 + jv (tA σ0 (p + 6 + (c : Int))) 255 - 1) else rdK (tA σ0) m (p + 6) (rdP (tA σ0) (Wm 0 1) m p S) c := rfl
            rw [e6] at er
            first
            | (refine ih135 (c + 1) _ (by omega) (by omega) ?_
               rw [er, if_neg (by omega)]
               exact rdg_iff h0 eo.symm)
            | (refine ih135 (c + 1) _ (by omega) (by omega) ?_
               rw [er, if_pos (by omega)]
               exact rdg_iff h0 eo.symm)
          · skip
            refine zaload_n (k := 79) rfl rfl ?_
            refine ziload_n (k := 80) rfl rfl ?_
            refine ziload (k := 81) rfl rfl ?_
            refine zaload_n (k := 82) rfl rfl ?_
            refine zgI 0 (k := 83) rfl ob_41 fl_2_23 rfl fx_41_0 ?_
            rw [show σn 41 0 = S 0 0 by rw [show σn 41 = _ from st_e0 (rdg_v h0), rdK_n (by omega)]; rfl]
            refine ziload (k := 84) rfl rfl ?_
            refine ziaddB (k := 85) rfl (by omega) ?_
            refine ziconst (k := 86) rfl (by decide) ?_
            refine zisubB (k := 87) rfl (by omega) ?_
            refine zpV0 (k := 88) rfl (k_isend h0 (by omega) (by omega)) fm_State_send lk_2_110 rfl rfl ob_41 ⟨_, rfl, rfl⟩ (Nat.le_of_ble_eq_true rfl) (by decide) ⟨by decide, by decide⟩ (fun σn hh => ?_)
            clear h0
            have h0 := hh
            clear hh
            refine ziincB (k := 89) (ls' := [_, _, _, _, _, _, _, _]) rfl rfl (by decide) (by omega) rfl ?_
            refine zgoto (k := 90) rfl rfl ?_
            refine zforget (ls' := [_, _, _, _, _, _, _, _]) 7 rfl ?_
            have e6 : p + 6 + (c : Int) = p + (6 + (c : Int)) := by omega
            have eo : (P ∧ okP (tA σ0) (Wm 0 1) p ∧ okK (tA σ0) (p + 6) (c + 1)) ↔ ((P ∧ okP (tA σ0) (Wm 0 1) p ∧ okK (tA σ0) (p + 6) c) ∧ (0 ≤ tA σ0 (p + (6 + (c : Int))) ∧ tA σ0 (p + (6 + (c : Int))) ≤ 255)) := by
              rw [← e6]
              simp only [okK, and_assoc]
            have er : rdK (tA σ0) m (p + 6) (rdP (tA σ0) (Wm 0 1) m p S) (c + 1) = if 0 < jv (tA σ0 (p + 6 + (c : Int))) 255 then sndF (rdK (tA σ0) m (p + 6) (rdP (tA σ0) (Wm 0 1) m p S) c) m c (S 0 0 + jv (tA σ0 (p + 6 + (c : Int))) 255 - 1) else rdK (tA σ0) m (p + 6) (rdP (tA σ0) (Wm 0 1) m p S) c := rfl
            rw [e6] at er
            first
            | (refine ih135 (c + 1) _ (by omega) (by omega) ?_
               rw [er, if_neg (by omega)]
               exact rdg_iff h0 eo.symm)
            | (refine ih135 (c + 1) _ (by omega) (by omega) ?_
               rw [er, if_pos (by omega)]
               exact rdg_iff h0 eo.symm)
    try simp only [Int.add_assoc, Int.reduceAdd] at h0
    exact lp135 _ 0 _ (Nat.lt_succ_self _) (by omega) (by rw [show p + (6 + ((0 : Nat) : Int)) = p + 6 by omega]; exact rdg_iff h0 (by unfold okP okK; simp only [and_assoc, and_true]))
  refine zaload_n (k := 0) rfl rfl ?_
  refine zgF 4 (k := 1) rfl ob_41 fl_2_56 rfl fx_41_4 ?_
  refine ziload_n (k := 2) rfl rfl ?_
  refine zaload_n (k := 3) rfl rfl ?_
  refine zaload_n (k := 4) rfl rfl ?_
  refine zgI 1 (k := 5) rfl (wr_ob hw) fl_2_32 rfl (wr_fx_1 hw) ?_
  rw [show σn w = Wm 0 from st_e0 (rdg_w h0 hw hW)]
  refine ziconst (k := 6) rfl (by decide) ?_
  refine zisubB (k := 7) rfl (by omega) ?_
  refine zpVI (k := 8) rfl (c_Image_take h0 (by omega) ht) fm_Image_take lk_2_103 rfl rfl ob_284 ⟨_, rfl, rfl⟩ (Nat.le_of_ble_eq_true rfl) (by decide) ⟨by decide, by decide⟩ (fun z σn hh => ?_)
  rw [hh.1]
  clear h0
  have h0 := hh.2
  clear hh
  try simp only [Int.add_assoc, Int.reduceAdd] at h0
  refine zpS0 (k := 9) rfl (k_iput (f := 4) ar_45 (by omega) h0 (by omega) (by omega)) fm_NT_put lk_2_80 rfl rfl (Nat.le_of_ble_eq_true rfl) (by decide) ⟨by decide, by decide⟩ (fun σn hh => ?_)
  clear h0
  have h0 := hh
  clear hh
  refine zaload_n (k := 10) rfl rfl ?_
  refine ziconst (k := 11) rfl (by decide) ?_
  refine zpVI (k := 12) rfl (c_Image_take h0 (by omega) ht) fm_Image_take lk_2_103 rfl rfl ob_284 ⟨_, rfl, rfl⟩ (Nat.le_of_ble_eq_true rfl) (by decide) ⟨by decide, by decide⟩ (fun z σn hh => ?_)
  rw [hh.1]
  clear h0
  have h0 := hh.2
  clear hh
  try simp only [Int.add_assoc, Int.reduceAdd] at h0
  refine zistore (k := 13) (ls' := [_, _, _, _, _, _, _, _]) rfl (Nat.le_of_ble_eq_true rfl) rfl ?_
  refine zaload_n (k := 14) rfl rfl ?_
  refine ziload (k := 15) rfl rfl ?_
  refine ziconst (k := 16) rfl (by decide) ?_
  refine zicmp_ne (k := 17) rfl rfl (fun c3 => ?_) (fun c3 => ?_)
  · skip
    refine ziconst (k := 20) rfl (by decide) ?_
    first | rw [show (zI 99) = zI (lfm (tA σ0) p) by unfold lfm; rw [if_pos (by assumption)]] | rw [show (zI 0) = zI (lfm (tA σ0) p) by unfold lfm; rw [if_neg (by assumption)]]
    have lb0 : 0 ≤ lfm (tA σ0) p := by unfold lfm; split <;> omega
    refine zpVI (k := 21) rfl (c_Image_take h0 (by omega) ht) fm_Image_take lk_2_103 rfl rfl ob_284 ⟨_, rfl, rfl⟩ (Nat.le_of_ble_eq_true rfl) (by decide) ⟨by decide, by decide⟩ (fun z σn hh => ?_)
    rw [hh.1]
    clear h0
    have h0 := hh.2
    clear hh
    try simp only [Int.add_assoc, Int.reduceAdd] at h0
    refine zistore (k := 22) (ls' := [_, _, _, _, _, _, _, _]) rfl (Nat.le_of_ble_eq_true rfl) rfl ?_
    refine zaload_n (k := 23) rfl rfl ?_
    refine zaload_n (k := 24) rfl rfl ?_
    refine zgI 4 (k := 25) rfl ob_284 fl_2_94 rfl fx_284_4 ?_
    refine zif_eq (k := 26) rfl rfl (fun c4 => ?_) (fun c4 => ?_)
    · skip
      refine ziconst (k := 41) rfl (by decide) ?_
      skip
      have ff : ((((P ∧ (0 ≤ tA σ0 p ∧ tA σ0 p ≤ Wm 0 1 - 1)) ∧ (0 ≤ tA σ0 (p + 1) ∧ tA σ0 (p + 1) ≤ 4)) ∧ (0 ≤ tA σ0 (p + 2) ∧ tA σ0 (p + 2) ≤ lfm (tA σ0) p))) ↔ σn 284 4 = 1 := by
        obtain ⟨f, g1, g2, g3⟩ := h0
        rw [g3.2 284 4 (by omega) (by omega) (by omega), zup_s]
        exact g2.symm
      refine cut80 _ _ h0 ⟨by first | exact Or.inl rfl | exact Or.inr rfl, ?_⟩
      rw [ff]
      first
      | (refine ⟨fun q => absurd q (by decide), fun q => ?_⟩; have q1 := q.1; have q2 := q.2; omega)
      | (refine ⟨fun _ => ⟨?_, ?_⟩, fun _ => rfl⟩
         · obtain ⟨f, g1, g2, g3⟩ := h0
           have := g3.2 284 4 (by omega) (by omega) (by omega)
           rw [zup_s] at this
           omega
         · omega)
    · skip
      refine ziload (k := 27) rfl rfl ?_
      refine zif_le (k := 28) rfl rfl (fun c5 => ?_) (fun c5 => ?_)
      · skip
        refine ziconst (k := 31) rfl (by decide) ?_
        refine ziload (k := 32) rfl rfl ?_
        refine ziconst (k := 33) rfl (by decide) ?_
        refine zicmp_ne (k := 34) rfl rfl (fun c6 => ?_) (fun c6 => ?_)
        · skip
          refine ziconst (k := 37) rfl (by decide) ?_
          refine zicmp_ne (k := 38) rfl rfl (fun c7 => ?_) (fun c7 => ?_)
          · exact absurd c7 (by omega)
          refine ziconst (k := 39) rfl (by decide) ?_
          refine zgoto (k := 40) rfl rfl ?_
          skip
          have ff : ((((P ∧ (0 ≤ tA σ0 p ∧ tA σ0 p ≤ Wm 0 1 - 1)) ∧ (0 ≤ tA σ0 (p + 1) ∧ tA σ0 (p + 1) ≤ 4)) ∧ (0 ≤ tA σ0 (p + 2) ∧ tA σ0 (p + 2) ≤ lfm (tA σ0) p))) ↔ σn 284 4 = 1 := by
            obtain ⟨f, g1, g2, g3⟩ := h0
            rw [g3.2 284 4 (by omega) (by omega) (by omega), zup_s]
            exact g2.symm
          refine cut80 _ _ h0 ⟨by first | exact Or.inl rfl | exact Or.inr rfl, ?_⟩
          rw [ff]
          first
          | (refine ⟨fun q => absurd q (by decide), fun q => ?_⟩; have q1 := q.1; have q2 := q.2; omega)
          | (refine ⟨fun _ => ⟨?_, ?_⟩, fun _ => rfl⟩
             · obtain ⟨f, g1, g2, g3⟩ := h0
               have := g3.2 284 4 (by omega) (by omega) (by omega)
               rw [zup_s] at this
               omega
             · omega)
        · skip
          refine ziconst (k := 35) rfl (by decide) ?_
          refine zgoto (k := 36) rfl rfl ?_
          refine zicmp_ne (k := 38) rfl rfl (fun c8 => ?_) (fun c8 => ?_)
          · skip
            refine ziconst (k := 41) rfl (by decide) ?_
            skip
            have ff : ((((P ∧ (0 ≤ tA σ0 p ∧ tA σ0 p ≤ Wm 0 1 - 1)) ∧ (0 ≤ tA σ0 (p + 1) ∧ tA σ0 (p + 1) ≤ 4)) ∧ (0 ≤ tA σ0 (p + 2) ∧ tA σ0 (p + 2) ≤ lfm (tA σ0) p))) ↔ σn 284 4 = 1 := by
              obtain ⟨f, g1, g2, g3⟩ := h0
              rw [g3.2 284 4 (by omega) (by omega) (by omega), zup_s]
              exact g2.symm
            refine cut80 _ _ h0 ⟨by first | exact Or.inl rfl | exact Or.inr rfl, ?_⟩
            rw [ff]
            first
            | (refine ⟨fun q => absurd q (by decide), fun q => ?_⟩; have q1 := q.1; have q2 := q.2; omega)
            | (refine ⟨fun _ => ⟨?_, ?_⟩, fun _ => rfl⟩
               · obtain ⟨f, g1, g2, g3⟩ := h0
                 have := g3.2 284 4 (by omega) (by omega) (by omega)
                 rw [zup_s] at this
                 omega
               · omega)
          · exact absurd c8 (by omega)
      · skip
        refine ziconst (k := 29) rfl (by decide) ?_
        refine zgoto (k := 30) rfl rfl ?_
        refine ziload (k := 32) rfl rfl ?_
        refine ziconst (k := 33) rfl (by decide) ?_
        refine zicmp_ne (k := 34) rfl rfl (fun c9 => ?_) (fun c9 => ?_)
        · skip
          refine ziconst (k := 37) rfl (by decide) ?_
          refine zicmp_ne (k := 38) rfl rfl (fun c10 => ?_) (fun c10 => ?_)
          · skip
            refine ziconst (k := 41) rfl (by decide) ?_
            skip
            have ff : ((((P ∧ (0 ≤ tA σ0 p ∧ tA σ0 p ≤ Wm 0 1 - 1)) ∧ (0 ≤ tA σ0 (p + 1) ∧ tA σ0 (p + 1) ≤ 4)) ∧ (0 ≤ tA σ0 (p + 2) ∧ tA σ0 (p + 2) ≤ lfm (tA σ0) p))) ↔ σn 284 4 = 1 := by
              obtain ⟨f, g1, g2, g3⟩ := h0
              rw [g3.2 284 4 (by omega) (by omega) (by omega), zup_s]
              exact g2.symm
            refine cut80 _ _ h0 ⟨by first | exact Or.inl rfl | exact Or.inr rfl, ?_⟩
            rw [ff]
            first
            | (refine ⟨fun q => absurd q (by decide), fun q => ?_⟩; have q1 := q.1; have q2 := q.2; omega)
            | (refine ⟨fun _ => ⟨?_, ?_⟩, fun _ => rfl⟩
               · obtain ⟨f, g1, g2, g3⟩ := h0
                 have := g3.2 284 4 (by omega) (by omega) (by omega)
                 rw [zup_s] at this
                 omega
               · omega)
          · exact absurd c10 (by omega)
        · skip
          refine ziconst (k := 35) rfl (by decide) ?_
          refine zgoto (k := 36) rfl rfl ?_
          refine zicmp_ne (k := 38) rfl rfl (fun c11 => ?_) (fun c11 => ?_)
          · exact absurd c11 (by omega)
          refine ziconst (k := 39) rfl (by decide) ?_
          refine zgoto (k := 40) rfl rfl ?_
          skip
          have ff : ((((P ∧ (0 ≤ tA σ0 p ∧ tA σ0 p ≤ Wm 0 1 - 1)) ∧ (0 ≤ tA σ0 (p + 1) ∧ tA σ0 (p + 1) ≤ 4)) ∧ (0 ≤ tA σ0 (p + 2) ∧ tA σ0 (p + 2) ≤ lfm (tA σ0) p))) ↔ σn 284 4 = 1 := by
            obtain ⟨f, g1, g2, g3⟩ := h0
            rw [g3.2 284 4 (by omega) (by omega) (by omega), zup_s]
            exact g2.symm
          refine cut80 _ _ h0 ⟨by first | exact Or.inl rfl | exact Or.inr rfl, ?_⟩
          rw [ff]
          first
          | (refine ⟨fun q => absurd q (by decide), fun q => ?_⟩; have q1 := q.1; have q2 := q.2; omega)
          | (refine ⟨fun _ => ⟨?_, ?_⟩, fun _ => rfl⟩
             · obtain ⟨f, g1, g2, g3⟩ := h0
               have := g3.2 284 4 (by omega) (by omega) (by omega)
               rw [zup_s] at this
               omega
             · omega)
  · skip
    refine zbipush (k := 18) rfl rfl ?_
    refine zgoto (k := 19) rfl rfl ?_
    first | rw [show (zI 99) = zI (lfm (tA σ0) p) by unfold lfm; rw [if_pos (by assumption)]] | rw [show (zI 0) = zI (lfm (tA σ0) p) by unfold lfm; rw [if_neg (by assumption)]]
    have lb0 : 0 ≤ lfm (tA σ0) p := by unfold lfm; split <;> omega
    refine zpVI (k := 21) rfl (c_Image_take h0 (by omega) ht) fm_Image_take lk_2_103 rfl rfl ob_284 ⟨_, rfl, rfl⟩ (Nat.le_of_ble_eq_true rfl) (by decide) ⟨by decide, by decide⟩ (fun z σn hh => ?_)
    rw [hh.1]
    clear h0
    have h0 := hh.2
    clear hh
    try simp only [Int.add_assoc, Int.reduceAdd] at h0
    refine zistore (k := 22) (ls' := [_, _, _, _, _, _, _, _]) rfl (Nat.le_of_ble_eq_true rfl) rfl ?_
    refine zaload_n (k := 23) rfl rfl ?_
    refine zaload_n (k := 24) rfl rfl ?_
    refine zgI 4 (k := 25) rfl ob_284 fl_2_94 rfl fx_284_4 ?_
    refine zif_eq (k := 26) rfl rfl (fun c12 => ?_) (fun c12 => ?_)
    · skip
      refine ziconst (k := 41) rfl (by decide) ?_
      skip
      have ff : ((((P ∧ (0 ≤ tA σ0 p ∧ tA σ0 p ≤ Wm 0 1 - 1)) ∧ (0 ≤ tA σ0 (p + 1) ∧ tA σ0 (p + 1) ≤ 4)) ∧ (0 ≤ tA σ0 (p + 2) ∧ tA σ0 (p + 2) ≤ lfm (tA σ0) p))) ↔ σn 284 4 = 1 := by
        obtain ⟨f, g1, g2, g3⟩ := h0
        rw [g3.2 284 4 (by omega) (by omega) (by omega), zup_s]
        exact g2.symm
      refine cut80 _ _ h0 ⟨by first | exact Or.inl rfl | exact Or.inr rfl, ?_⟩
      rw [ff]
      first
      | (refine ⟨fun q => absurd q (by decide), fun q => ?_⟩; have q1 := q.1; have q2 := q.2; omega)
      | (refine ⟨fun _ => ⟨?_, ?_⟩, fun _ => rfl⟩
         · obtain ⟨f, g1, g2, g3⟩ := h0
           have := g3.2 284 4 (by omega) (by omega) (by omega)
           rw [zup_s] at this
           omega
         · omega)
    · skip
      refine ziload (k := 27) rfl rfl ?_
      refine zif_le (k := 28) rfl rfl (fun c13 => ?_) (fun c13 => ?_)
      · skip
        refine ziconst (k := 31) rfl (by decide) ?_
        refine ziload (k := 32) rfl rfl ?_
        refine ziconst (k := 33) rfl (by decide) ?_
        refine zicmp_ne (k := 34) rfl rfl (fun c14 => ?_) (fun c14 => ?_)
        · skip
          refine ziconst (k := 37) rfl (by decide) ?_
          refine zicmp_ne (k := 38) rfl rfl (fun c15 => ?_) (fun c15 => ?_)
          · exact absurd c15 (by omega)
          refine ziconst (k := 39) rfl (by decide) ?_
          refine zgoto (k := 40) rfl rfl ?_
          skip
          have ff : ((((P ∧ (0 ≤ tA σ0 p ∧ tA σ0 p ≤ Wm 0 1 - 1)) ∧ (0 ≤ tA σ0 (p + 1) ∧ tA σ0 (p + 1) ≤ 4)) ∧ (0 ≤ tA σ0 (p + 2) ∧ tA σ0 (p + 2) ≤ lfm (tA σ0) p))) ↔ σn 284 4 = 1 := by
            obtain ⟨f, g1, g2, g3⟩ := h0
            rw [g3.2 284 4 (by omega) (by omega) (by omega), zup_s]
            exact g2.symm
          refine cut80 _ _ h0 ⟨by first | exact Or.inl rfl | exact Or.inr rfl, ?_⟩
          rw [ff]
          first
          | (refine ⟨fun q => absurd q (by decide), fun q => ?_⟩; have q1 := q.1; have q2 := q.2; omega)
          | (refine ⟨fun _ => ⟨?_, ?_⟩, fun _ => rfl⟩
             · obtain ⟨f, g1, g2, g3⟩ := h0
               have := g3.2 284 4 (by omega) (by omega) (by omega)
               rw [zup_s] at this
               omega
             · omega)
        · skip
          refine ziconst (k := 35) rfl (by decide) ?_
          refine zgoto (k := 36) rfl rfl ?_
          refine zicmp_ne (k := 38) rfl rfl (fun c16 => ?_) (fun c16 => ?_)
          · skip
            refine ziconst (k := 41) rfl (by decide) ?_
            skip
            have ff : ((((P ∧ (0 ≤ tA σ0 p ∧ tA σ0 p ≤ Wm 0 1 - 1)) ∧ (0 ≤ tA σ0 (p + 1) ∧ tA σ0 (p + 1) ≤ 4)) ∧ (0 ≤ tA σ0 (p + 2) ∧ tA σ0 (p + 2) ≤ lfm (tA σ0) p))) ↔ σn 284 4 = 1 := by
              obtain ⟨f, g1, g2, g3⟩ := h0
              rw [g3.2 284 4 (by omega) (by omega) (by omega), zup_s]
              exact g2.symm
            refine cut80 _ _ h0 ⟨by first | exact Or.inl rfl | exact Or.inr rfl, ?_⟩
            rw [ff]
            first
            | (refine ⟨fun q => absurd q (by decide), fun q => ?_⟩; have q1 := q.1; have q2 := q.2; omega)
            | (refine ⟨fun _ => ⟨?_, ?_⟩, fun _ => rfl⟩
               · obtain ⟨f, g1, g2, g3⟩ := h0
                 have := g3.2 284 4 (by omega) (by omega) (by omega)
                 rw [zup_s] at this
                 omega
               · omega)
          · exact absurd c16 (by omega)
      · skip
        refine ziconst (k := 29) rfl (by decide) ?_
        refine zgoto (k := 30) rfl rfl ?_
        refine ziload (k := 32) rfl rfl ?_
        refine ziconst (k := 33) rfl (by decide) ?_
        refine zicmp_ne (k := 34) rfl rfl (fun c17 => ?_) (fun c17 => ?_)
        · skip
          refine ziconst (k := 37) rfl (by decide) ?_
          refine zicmp_ne (k := 38) rfl rfl (fun c18 => ?_) (fun c18 => ?_)
          · skip
            refine ziconst (k := 41) rfl (by decide) ?_
            skip
            have ff : ((((P ∧ (0 ≤ tA σ0 p ∧ tA σ0 p ≤ Wm 0 1 - 1)) ∧ (0 ≤ tA σ0 (p + 1) ∧ tA σ0 (p + 1) ≤ 4)) ∧ (0 ≤ tA σ0 (p + 2) ∧ tA σ0 (p + 2) ≤ lfm (tA σ0) p))) ↔ σn 284 4 = 1 := by
              obtain ⟨f, g1, g2, g3⟩ := h0
              rw [g3.2 284 4 (by omega) (by omega) (by omega), zup_s]
              exact g2.symm
            refine cut80 _ _ h0 ⟨by first | exact Or.inl rfl | exact Or.inr rfl, ?_⟩
            rw [ff]
            first
            | (refine ⟨fun q => absurd q (by decide), fun q => ?_⟩; have q1 := q.1; have q2 := q.2; omega)
            | (refine ⟨fun _ => ⟨?_, ?_⟩, fun _ => rfl⟩
               · obtain ⟨f, g1, g2, g3⟩ := h0
                 have := g3.2 284 4 (by omega) (by omega) (by omega)
                 rw [zup_s] at this
                 omega
               · omega)
          · exact absurd c18 (by omega)
        · skip
          refine ziconst (k := 35) rfl (by decide) ?_
          refine zgoto (k := 36) rfl rfl ?_
          refine zicmp_ne (k := 38) rfl rfl (fun c19 => ?_) (fun c19 => ?_)
          · exact absurd c19 (by omega)
          refine ziconst (k := 39) rfl (by decide) ?_
          refine zgoto (k := 40) rfl rfl ?_
          skip
          have ff : ((((P ∧ (0 ≤ tA σ0 p ∧ tA σ0 p ≤ Wm 0 1 - 1)) ∧ (0 ≤ tA σ0 (p + 1) ∧ tA σ0 (p + 1) ≤ 4)) ∧ (0 ≤ tA σ0 (p + 2) ∧ tA σ0 (p + 2) ≤ lfm (tA σ0) p))) ↔ σn 284 4 = 1 := by
            obtain ⟨f, g1, g2, g3⟩ := h0
            rw [g3.2 284 4 (by omega) (by omega) (by omega), zup_s]
            exact g2.symm
          refine cut80 _ _ h0 ⟨by first | exact Or.inl rfl | exact Or.inr rfl, ?_⟩
          rw [ff]
          first
          | (refine ⟨fun q => absurd q (by decide), fun q => ?_⟩; have q1 := q.1; have q2 := q.2; omega)
          | (refine ⟨fun _ => ⟨?_, ?_⟩, fun _ => rfl⟩
             · obtain ⟨f, g1, g2, g3⟩ := h0
               have := g3.2 284 4 (by omega) (by omega) (by omega)
               rw [zup_s] at this
               omega
             · omega)
