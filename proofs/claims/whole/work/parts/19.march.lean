/-! March -/
theorem st_e {n : Int} {σ : zv_H} {a f : Int} {S : zv_H} (hS : vw n σ a = S) (hf : 1 ≤ f ∧ f ≤ n) : σ (a + f) = S f := funext (fun i => by rw [← hS, vw_f hf])
theorem st_e0 {n : Int} {σ : zv_H} {a : Int} {S : zv_H} (hS : vw n σ a = S) : σ a = S 0 := funext (fun i => by rw [← hS, vw_0])
theorem stp_56 {σ σ1 : zv_H} {a k v : Int} {S1 : zv_H} (ha : a ∈ stL) (h : stp σ σ1 a S1) : stp σ (zup σ1 56 k v) a S1 := by
  have := st_far ha
  exact ⟨by rw [← h.1]; exact vw_eq (fun x j h1 h2 => zup_n (by omega)) (by omega), fun x j q1 q2 q3 => by rw [zup_n (by omega)]; exact h.2 x j q1 q2 q3⟩
theorem stp_rf2 {σ σ1 σ2 : zv_H} {a : Int} {S1 : zv_H} (ha : a ∈ stL) (h : stp σ σ1 a S1) (hr : rfr σ1 σ2) : stp σ σ2 a S1 := by
  have := st_far ha
  exact ⟨by rw [← h.1]; exact vw_eq (fun x j h1 h2 => hr x j (by omega) (by omega)) (by omega), fun x j q1 q2 q3 => by rw [hr x j (by omega) (by omega)]; exact h.2 x j q1 q2 q3⟩
theorem k_put {Γ : zv_M} {L : Int} {σ σ1 : zv_H} {a g n i v : Int} {S1 : zv_H} (hA : zv_ar (GM L) (a + g) .int n) (hp : 0 < a + g) (h : stp σ σ1 a S1) (hg : 1 ≤ g ∧ g ≤ 10) (hi : 0 ≤ i ∧ i < n) : zC Γ m_NT_put 0 0 0 (GM L) [zR (a + g), zI i, zI v] σ1 (zP0 (GM L) (fun σ' => stp σ σ' a (zup S1 g i v))) := by
  refine zC_mono (fun q G' σ' hq => ?_) (c_NT_put hA hp)
  obtain ⟨rfl, rfl, rfl⟩ := hq
  exact ⟨rfl, rfl, by rw [zpt_in hi]; exact stp_up h hg⟩
theorem k_keep {Γ : zv_M} {L : Int} {σ σ1 : zv_H} {a m c t : Int} {S1 : zv_H} (ha : a ∈ stL) (h : stp σ σ1 a S1) (hm : 0 ≤ m ∧ m < 6) (hc : 0 ≤ c ∧ c < 7) (ht : 0 ≤ t ∧ t ≤ 9) (b0 : 0 ≤ S1 0 0 ∧ S1 0 0 ≤ 999) (b1 : 0 ≤ S1 0 11 ∧ S1 0 11 < 60) (b2 : 0 ≤ S1 0 12 ∧ S1 0 12 ≤ 60) : zC Γ m_State_keep 1 0 0 (GM L) [zR a, zI m, zI c, zI t] σ1 (zP0 (GM L) (fun σ' => stp σ σ' a (kepF S1 (entF S1 m c t)))) := by
  refine zC_mono (fun q G' σ' hq => ?_) (c_State_keep ha hm hc ht (by rw [stp_0 h]; exact b0) (by rw [stp_0 h]; exact b1) (by rw [stp_0 h]; exact b2))
  obtain ⟨rfl, rfl, rfl⟩ := hq
  refine ⟨rfl, rfl, ?_⟩
  unfold entF
  rw [stp_0 h]
  exact stp_kep h
theorem k_send {Γ : zv_M} {L : Int} {σ σ1 : zv_H} {a m c t : Int} {S1 : zv_H} (ha : a ∈ stL) (h : stp σ σ1 a S1) (hm : 0 ≤ m ∧ m < 6) (hc : 0 ≤ c ∧ c < 7) : zC Γ m_State_send 1 0 0 (GM L) [zR a, zI m, zI c, zI t] σ1 (zP0 (GM L) (fun σ' => stp σ σ' a (sndF S1 m c t))) := by
  refine zC_mono (fun q G' σ' hq => ?_) (c_State_send ha hm hc)
  obtain ⟨rfl, rfl, rfl⟩ := hq
  exact ⟨rfl, rfl, stp_snd h⟩
theorem k_dist {Γ : zv_M} {L : Int} {σ1 : zv_H} {w f t : Int} {Wm : zv_H} (hw : w ∈ wrL) (hW : vw 12 σ1 w = Wm) (hb : 0 ≤ Wm 0 1 ∧ Wm 0 1 ≤ 7) : zC Γ m_War_distance 1 0 0 (GM L) [zR w, zI f, zI t] σ1 (zFn (some (zI (dstF Wm f t))) (GM L) σ1) := by
  have e : zdst σ1 w f t = dstF Wm f t := by
    unfold zdst dstF
    rw [st_e0 hW, st_e hW (f := 12) (by omega)]
  have h := c_War_distance (Γ := Γ) (L := L) (f := f) (t := t) (σ := σ1) hw (by rw [st_e0 hW]; exact hb)
  rw [e] at h
  exact h
theorem k_known {Γ : zv_M} {L : Int} {σ1 : zv_H} {a w m c t : Int} {S1 Wm : zv_H} (ha : a ∈ stL) (hw : w ∈ wrL) (hS : vw 10 σ1 a = S1) (hW : vw 12 σ1 w = Wm) (hm : 0 ≤ m ∧ m < 6) (hc : 0 ≤ c ∧ c < 7) (hb : 0 ≤ Wm 0 3 ∧ Wm 0 3 ≤ 6) : zC Γ m_State_isKnown 1 0 0 (GM L) [zR a, zR w, zI m, zI c, zI t] σ1 (zFn (some (zI (zB (zknB (Wm 7) (S1 9) m c t (Wm 0 3).toNat)))) (GM L) σ1) := by
  have h := c_State_isKnown (Γ := Γ) (L := L) (m := m) (c := c) (t := t) (σ := σ1) ha hw (Wm 0 3).toNat (by rw [st_e0 hW]; omega) (by omega) hm hc
  rw [st_e hW (f := 7) (by omega), st_e hS (f := 9) (by omega)] at h
  exact h
theorem wr_8 {w : Int} (hw : w ∈ wrL) : w + 8 ∈ fmL ∧ w + 10 ∈ fmL := by
  simp only [wrL, fmL, List.mem_cons, List.not_mem_nil, or_false] at hw ⊢
  omega
theorem wr_g {w g : Int} (hw : w ∈ wrL) (hg : g = 8 ∨ g = 10) : w + g ∈ fmL := by
  rcases hg with rfl | rfl
  · exact (wr_8 hw).1
  · exact (wr_8 hw).2
theorem k_told {Γ : zv_M} {L : Int} {σ1 : zv_H} {w g : Int} {Wm : zv_H} (hw : w ∈ wrL) (hg : g = 8 ∨ g = 10) (hW : vw 12 σ1 w = Wm) : zC Γ m_Formula_isTold 0 0 0 (GM L) [zR (w + g)] σ1 (zFn (some (zI (if 0 < Wm g 1 then 1 else 0))) (GM L) σ1) := by
  have h := c_Formula_isTold (Γ := Γ) (L := L) (a := w + g) (σ := σ1) (wr_g hw hg)
  rw [st_e hW (f := g) (by omega)] at h
  exact h
theorem k_reck {Γ : zv_M} {L : Int} {σ1 : zv_H} {w g : Int} {Wm : zv_H} (hw : w ∈ wrL) (hg : g = 8 ∨ g = 10) (hW : vw 12 σ1 w = Wm) (hF : FI (Wm (g + 1)) (Wm g 1)) (hn : 0 < Wm g 1) (E : Int → Int) (hE : ∀ s : Int, -7 ≤ s → s ≤ -1 → E s = σ1 56 (1 - s)) (hB : ∀ q, -1000 ≤ E q ∧ E q ≤ 10000) : zC Γ m_Reckoner_reckon 2 0 0 (GM L) [zR 56, zR (w + g)] σ1 (zPL (GM L) (fun z σ' => z = (crun E (Wm (g + 1)) (Wm g 1).toNat).headD 0 ∧ rfr σ1 σ')) := by
  have e : σ1 (w + g + 1) = Wm (g + 1) := by rw [Int.add_assoc]; exact st_e hW (by omega)
  have hF3 := hF.2.2 hn E hB
  rw [← e] at hF3
  refine zC_mono (fun q G' σ' hq => ?_) (c_Reckoner_reckon (Γ := Γ) (L := L) (a := w + g) (σ := σ1) (wr_g hw hg) (Wm g 1).toNat (by rw [st_e hW (f := g) (by omega)]; omega) (by have := hF.2.1; omega) E hE hF3.1)
  obtain ⟨h1, z, h2, ⟨r, h3⟩, h4⟩ := hq
  refine ⟨h1, z, h2, ?_, h4⟩
  rw [← e, h3]
  rfl
def zlok (σ : zv_H) (S : zv_H) (m c : Int) : zv_H := zup (zup (zup (zup (zup (zup (zup σ 56 2 (S 3 c)) 56 3 (S 2 c)) 56 7 (S 1 c)) 56 4 (S 7 m)) 56 5 (S 8 m)) 56 6 (S 0 0)) 56 8 0
theorem stp_lok {σ σ1 : zv_H} {a m c : Int} {S S1 : zv_H} (ha : a ∈ stL) (h : stp σ σ1 a S1) : stp σ (zlok σ1 S m c) a S1 := stp_56 ha (stp_56 ha (stp_56 ha (stp_56 ha (stp_56 ha (stp_56 ha (stp_56 ha h))))))
theorem dst_b {Wm : zv_H} (h : WI Wm) (f t : Int) : -1 ≤ dstF Wm f t ∧ dstF Wm f t ≤ 54 := by
  unfold dstF
  split
  · rename_i q
    have := h.2.2.2.2.2.2.2.2.2 f t q.1.1 q.1.2 q.2.1.1 q.2.1.2
    omega
  · omega
theorem zB_t {b : Bool} (h : zB b ≠ 0) : b = true := by
  cases b
  · exact absurd rfl h
  · rfl
theorem zB_f {b : Bool} (h : zB b = 0) : ¬ b = true := by
  intro q
  rw [q] at h
  exact absurd h (by decide)
theorem entF_n {S S1 : zv_H} {m c t : Int} (h : S1 0 0 = S 0 0) : entF S1 m c t = entF S m c t := by unfold entF; rw [h]
theorem likF_0 {Wm S : zv_H} {m c p : Int} (h : ¬ 0 < Wm 10 1) : likF Wm S m c p = p := if_pos (by omega)
theorem likF_1 {Wm S : zv_H} {m c p : Int} (h : 0 < Wm 10 1) : likF Wm S m c p = (crun (envF S m c p (dstF Wm (S 4 m) c)) (Wm 11) (Wm 10 1).toNat).headD 0 := if_neg (by omega)
theorem jmpF_0 {Wm S : zv_H} {m c : Int} (h : ¬ 0 < Wm 8 1) : jmpF Wm S m c = true := by unfold jmpF; rw [decide_eq_true (by omega)]; rfl
theorem jmpF_1 {Wm S : zv_H} {m c : Int} (h : 0 < Wm 8 1) : jmpF Wm S m c = decide ((crun (envF S m c (S 2 c) 0) (Wm 9) (Wm 8 1).toNat).headD 0 ≠ 0) := by unfold jmpF; rw [decide_eq_false (by omega)]; rfl
theorem env_b {nc nm : Int} {S : zv_H} {m c p d : Int} (hS : SI nc nm S) (hm : 0 ≤ m ∧ m < nm) (hc : 0 ≤ c ∧ c < nc) (hp : 0 ≤ p ∧ p ≤ 999) (hd : -1 ≤ d ∧ d ≤ 54) (q : Int) : -1000 ≤ envF S m c p d q ∧ envF S m c p d q ≤ 10000 := by
  obtain ⟨b0, b11, b12, bc, bm, bl, br⟩ := hS
  have h1 := bc c hc.1 hc.2
  have h2 := bm m hm.1 hm.2
  unfold envF
  (repeat' split) <;> omega
theorem e7 {s : Int} {P : Int → Prop} (h1 : -7 ≤ s) (h2 : s ≤ -1) (p1 : P (-1)) (p2 : P (-2)) (p3 : P (-3)) (p4 : P (-4)) (p5 : P (-5)) (p6 : P (-6)) (p7 : P (-7)) : P s := by
  have e : s = -1 ∨ s = -2 ∨ s = -3 ∨ s = -4 ∨ s = -5 ∨ s = -6 ∨ s = -7 := by omega
  rcases e with rfl | rfl | rfl | rfl | rfl | rfl | rfl <;> assumption
set_option maxHeartbeats 4000000 in
set_option maxRecDepth 20000 in
theorem c_March_walk {Γ : zv_M} {L : Int} {a m : Int} {σ0 σ S : zv_H} (ha : a ∈ stL) (h0 : stp σ0 σ a S) (hm : 0 ≤ m ∧ m < 6) (hl : 0 ≤ S 6 m ∧ S 6 m ≤ 99) : zC Γ m_March_walk 1 0 0 (GM L) [zR 55, zR a, zI m] σ (zP0 (GM L) (fun σ' => stp σ0 σ' a (walF S m))) := by
  refine zC_of (ls0 := [_, _, _, _]) zm_March_walk (by decide) rfl (Nat.le_of_ble_eq_true rfl) ?_
  generalize hQ : (zP0 (GM L) (fun σ' => stp σ0 σ' a (walF S m))) = Q
  refine ziconst (k := 0) rfl (by decide) ?_
  refine zaload_n (k := 1) rfl rfl ?_
  refine zgF 6 (k := 2) rfl (st_ob ha) fl_3_55 rfl (st_fx_6 ha) ?_
  refine ziload_n (k := 3) rfl rfl ?_
  refine zfS1 (k := 4) rfl (c_NT_at (st_ar_6 ha)) fm_NT_at lk_3_30 rfl rfl (Nat.le_of_ble_eq_true rfl) (by decide) ⟨by decide, by decide⟩ ?_
  rw [zat_in (by omega)]
  try rw [stp_f h0 (by omega)]
  try rw [stp_0 h0]
  repeat rw [zup_n (by omega)]
  refine ziconst (k := 5) rfl (by decide) ?_
  refine zisubB (k := 6) rfl (by omega) ?_
  refine zfS1 (k := 7) rfl c_J_maxI fm_J_maxI lk_3_58 rfl rfl (Nat.le_of_ble_eq_true rfl) (by decide) ⟨by decide, by decide⟩ ?_
  refine zistore_n (k := 8) (ls' := [_, _, _, _]) rfl (Nat.le_of_ble_eq_true rfl) rfl ?_
  refine zaload_n (k := 9) rfl rfl ?_
  refine zgF 6 (k := 10) rfl (st_ob ha) fl_3_55 rfl (st_fx_6 ha) ?_
  refine ziload_n (k := 11) rfl rfl ?_
  refine ziload_n (k := 12) rfl rfl ?_
  refine zpS0 (k := 13) rfl (k_put (st_ar_6 ha) (by have := st_pos ha; omega) h0 (by omega) (by omega)) fm_NT_put lk_3_61 rfl rfl (Nat.le_of_ble_eq_true rfl) (by decide) ⟨by decide, by decide⟩ (fun σn hn => ?_)
  clear h0
  have h0 := hn
  clear hn
  refine ziload_n (k := 14) rfl rfl ?_
  refine zif_ne (k := 15) rfl rfl (fun c1 => ?_) (fun c1 => ?_)
  · skip
    refine zreturn (k := 21) rfl rfl rfl ?_
    rw [← hQ]
    exact ⟨rfl, rfl, by unfold walF; first | (rw [if_pos (by assumption)]; exact h0) | (rw [if_neg (by assumption)]; exact h0)⟩
  · skip
    refine zaload_n (k := 16) rfl rfl ?_
    refine zgF 5 (k := 17) rfl (st_ob ha) fl_3_24 rfl (st_fx_5 ha) ?_
    refine ziload_n (k := 18) rfl rfl ?_
    refine ziconst (k := 19) rfl (by decide) ?_
    refine zpS0 (k := 20) rfl (k_put (st_ar_5 ha) (by have := st_pos ha; omega) h0 (by omega) (by omega)) fm_NT_put lk_3_61 rfl rfl (Nat.le_of_ble_eq_true rfl) (by decide) ⟨by decide, by decide⟩ (fun σn hn => ?_)
    clear h0
    have h0 := hn
    clear hn
    refine zreturn (k := 21) rfl rfl rfl ?_
    rw [← hQ]
    exact ⟨rfl, rfl, by unfold walF; first | (rw [if_pos (by assumption)]; exact h0) | (rw [if_neg (by assumption)]; exact h0)⟩
set_option maxHeartbeats 4000000 in
set_option maxRecDepth 20000 in
theorem c_March_lookAt {Γ : zv_M} {L : Int} {a m c : Int} {σ0 σ S : zv_H} (ha : a ∈ stL) (h0 : stp σ0 σ a S) (hm : 0 ≤ m ∧ m < 6) (hc : 0 ≤ c ∧ c < 7) : zC Γ m_March_lookAt 1 0 0 (GM L) [zR 55, zR a, zI m, zI c] σ (zFn none (GM L) (zlok σ S m c)) := by
  refine zC_of (ls0 := [_, _, _, _]) zm_March_lookAt (by decide) rfl (Nat.le_of_ble_eq_true rfl) ?_
  generalize hQ : (zFn none (GM L) (zlok σ S m c)) = Q
  have hfar := st_far ha
  refine zaload_n (k := 0) rfl rfl ?_
  refine zgF 0 (k := 1) rfl ob_55 fl_3_12 rfl fx_55_0 ?_
  refine zaload_n (k := 2) rfl rfl ?_
  refine zgF 3 (k := 3) rfl (st_ob ha) fl_3_124 rfl (st_fx_3 ha) ?_
  refine ziload_n (k := 4) rfl rfl ?_
  refine zfS1 (k := 5) rfl (c_NT_at (st_ar_3 ha)) fm_NT_at lk_3_30 rfl rfl (Nat.le_of_ble_eq_true rfl) (by decide) ⟨by decide, by decide⟩ ?_
  rw [zat_in (by omega)]
  repeat rw [zup_n (by omega)]
  rw [stp_f h0 (by omega)]
  refine zpI 2 (k := 6) rfl ob_56 fl_3_127 ⟨_, rfl, rfl⟩ rfl (by omega) rfl fx_56_2 ?_
  refine zaload_n (k := 7) rfl rfl ?_
  refine zgF 0 (k := 8) rfl ob_55 fl_3_12 rfl fx_55_0 ?_
  refine zaload_n (k := 9) rfl rfl ?_
  refine zgF 2 (k := 10) rfl (st_ob ha) fl_3_85 rfl (st_fx_2 ha) ?_
  refine ziload_n (k := 11) rfl rfl ?_
  refine zfS1 (k := 12) rfl (c_NT_at (st_ar_2 ha)) fm_NT_at lk_3_30 rfl rfl (Nat.le_of_ble_eq_true rfl) (by decide) ⟨by decide, by decide⟩ ?_
  rw [zat_in (by omega)]
  repeat rw [zup_n (by omega)]
  rw [stp_f h0 (by omega)]
  refine zpI 3 (k := 13) rfl ob_56 fl_3_129 ⟨_, rfl, rfl⟩ rfl (by omega) rfl fx_56_3 ?_
  refine zaload_n (k := 14) rfl rfl ?_
  refine zgF 0 (k := 15) rfl ob_55 fl_3_12 rfl fx_55_0 ?_
  refine zaload_n (k := 16) rfl rfl ?_
  refine zgF 1 (k := 17) rfl (st_ob ha) fl_3_76 rfl (st_fx_1 ha) ?_
  refine ziload_n (k := 18) rfl rfl ?_
  refine zfS1 (k := 19) rfl (c_NT_at (st_ar_1 ha)) fm_NT_at lk_3_30 rfl rfl (Nat.le_of_ble_eq_true rfl) (by decide) ⟨by decide, by decide⟩ ?_
  rw [zat_in (by omega)]
  repeat rw [zup_n (by omega)]
  rw [stp_f h0 (by omega)]
  refine zpI 7 (k := 20) rfl ob_56 fl_3_131 ⟨_, rfl, rfl⟩ rfl (by omega) rfl fx_56_7 ?_
  refine zaload_n (k := 21) rfl rfl ?_
  refine zgF 0 (k := 22) rfl ob_55 fl_3_12 rfl fx_55_0 ?_
  refine zaload_n (k := 23) rfl rfl ?_
  refine zgF 7 (k := 24) rfl (st_ob ha) fl_3_88 rfl (st_fx_7 ha) ?_
  refine ziload_n (k := 25) rfl rfl ?_
  refine zfS1 (k := 26) rfl (c_NT_at (st_ar_7 ha)) fm_NT_at lk_3_30 rfl rfl (Nat.le_of_ble_eq_true rfl) (by decide) ⟨by decide, by decide⟩ ?_
  rw [zat_in (by omega)]
  repeat rw [zup_n (by omega)]
  rw [stp_f h0 (by omega)]
  refine zpI 4 (k := 27) rfl ob_56 fl_3_133 ⟨_, rfl, rfl⟩ rfl (by omega) rfl fx_56_4 ?_
  refine zaload_n (k := 28) rfl rfl ?_
  refine zgF 0 (k := 29) rfl ob_55 fl_3_12 rfl fx_55_0 ?_
  refine zaload_n (k := 30) rfl rfl ?_
  refine zgF 8 (k := 31) rfl (st_ob ha) fl_3_82 rfl (st_fx_8 ha) ?_
  refine ziload_n (k := 32) rfl rfl ?_
  refine zfS1 (k := 33) rfl (c_NT_at (st_ar_8 ha)) fm_NT_at lk_3_30 rfl rfl (Nat.le_of_ble_eq_true rfl) (by decide) ⟨by decide, by decide⟩ ?_
  rw [zat_in (by omega)]
  repeat rw [zup_n (by omega)]
  rw [stp_f h0 (by omega)]
  refine zpI 5 (k := 34) rfl ob_56 fl_3_135 ⟨_, rfl, rfl⟩ rfl (by omega) rfl fx_56_5 ?_
  refine zaload_n (k := 35) rfl rfl ?_
  refine zgF 0 (k := 36) rfl ob_55 fl_3_12 rfl fx_55_0 ?_
  refine zaload_n (k := 37) rfl rfl ?_
  refine zgI 0 (k := 38) rfl (st_ob ha) fl_3_46 rfl (st_fx_0 ha) ?_
  try rw [stp_f h0 (by omega)]
  try rw [stp_0 h0]
  repeat rw [zup_n (by omega)]
  try rw [st_e0 ((stp_w h0 ha hw).trans hW)]
  repeat rw [zup_n (by omega)]
  rw [stp_0 h0]
  refine zpI 6 (k := 39) rfl ob_56 fl_3_137 ⟨_, rfl, rfl⟩ rfl (by omega) rfl fx_56_6 ?_
  refine zaload_n (k := 40) rfl rfl ?_
  refine zgF 0 (k := 41) rfl ob_55 fl_3_12 rfl fx_55_0 ?_
  refine ziconst (k := 42) rfl (by decide) ?_
  refine zpI 8 (k := 43) rfl ob_56 fl_3_138 ⟨_, rfl, rfl⟩ rfl (by omega) rfl fx_56_8 ?_
  refine zreturn (k := 44) rfl rfl rfl ?_
  rw [← hQ]
  exact ⟨rfl, rfl, rfl⟩
set_option maxHeartbeats 4000000 in
set_option maxRecDepth 20000 in
theorem c_March_jumps {Γ : zv_M} {L : Int} {a w m c : Int} {σ0 σ S Wm : zv_H} (ha : a ∈ stL) (hw : w ∈ wrL) (h0 : stp σ0 σ a S) (hW : vw 12 σ0 w = Wm) (hSI : SI (Wm 0 1) (Wm 0 3) S) (hWI : WI Wm) (hm : 0 ≤ m ∧ m < Wm 0 3) (hc : 0 ≤ c ∧ c < Wm 0 1) : zC Γ m_March_jumps 3 0 0 (GM L) [zR 55, zR w, zR a, zI m, zI c] σ (zPI (GM L) (fun z σ' => z = zB (jmpF Wm S m c) ∧ stp σ0 σ' a S)) := by
  refine zC_of (ls0 := [_, _, _, _, _]) zm_March_jumps (by decide) rfl (Nat.le_of_ble_eq_true rfl) ?_
  generalize hQ : (zPI (GM L) (fun z σ' => z = zB (jmpF Wm S m c) ∧ stp σ0 σ' a S)) = Q
  have hSI2 := hSI
  have hWI2 := hWI
  obtain ⟨b0, b11, b12, bc, bm, bl, br⟩ := hSI2
  obtain ⟨w1, w2, w3, w4, w5, w6, w7, w8, w9, w10⟩ := hWI2
  have b_m := bm m hm.1 hm.2
  have b_c := bc (S 4 m) b_m.1.1 b_m.1.2
  have bcc := bc c hc.1 hc.2
  refine zaload_n (k := 0) rfl rfl ?_
  refine zgF 12 (k := 1) rfl (wr_ob hw) fl_3_107 rfl (wr_fx_12 hw) ?_
  refine zfV1 (k := 2) rfl (k_told hw (g := 8) (by omega) ((stp_w h0 ha hw).trans hW)) fm_Formula_isTold lk_3_110 rfl rfl (wr_ob_8 hw) ⟨_, rfl, rfl⟩ (Nat.le_of_ble_eq_true rfl) (by decide) ⟨by decide, by decide⟩ ?_
  refine zif_ne (k := 3) rfl rfl (fun c1 => ?_) (fun c1 => ?_)
  · skip
    have hp : 0 < Wm 8 1 := by split at c1 <;> first | assumption | (exfalso; omega)
    refine zaload_n (k := 6) rfl rfl ?_
    refine zaload_n (k := 7) rfl rfl ?_
    refine ziload_n (k := 8) rfl rfl ?_
    refine ziload (k := 9) rfl rfl ?_
    refine zfV0 (k := 10) rfl (c_March_lookAt ha h0 (by omega) (by omega)) fm_March_lookAt lk_3_116 rfl rfl ob_55 ⟨_, rfl, rfl⟩ (Nat.le_of_ble_eq_true rfl) (by decide) ⟨by decide, by decide⟩ ?_
    refine zaload_n (k := 11) rfl rfl ?_
    refine zgF 0 (k := 12) rfl ob_55 fl_3_12 rfl fx_55_0 ?_
    refine zaload_n (k := 13) rfl rfl ?_
    refine zgF 12 (k := 14) rfl (wr_ob hw) fl_3_107 rfl (wr_fx_12 hw) ?_
    refine zpVL (k := 15) rfl (k_reck hw (g := 8) (by omega) ((stp_w (stp_lok ha h0) ha hw).trans hW) w8 hp (envF S m c (S 2 c) 0) (fun s h1 h2 => e7 (P := fun s => envF S m c (S 2 c) 0 s = zlok σ S m c 56 (1 - s)) h1 h2 rfl rfl rfl rfl rfl rfl rfl) (env_b hSI hm hc bcc.2.1 (by omega))) fm_Reckoner_reckon lk_3_120 rfl rfl ob_56 ⟨_, rfl, rfl⟩ (Nat.le_of_ble_eq_true rfl) (by decide) ⟨by decide, by decide⟩ (fun z σ2 h2 => ?_)
    refine zlconst (k := 16) (z := 0) rfl rfl ?_
    refine zlcmp (k := 17) rfl ?_
    refine zif_eq (k := 18) rfl rfl (fun c2 => ?_) (fun c2 => ?_)
    · skip
      refine ziconst (k := 21) rfl (by decide) ?_
      refine zzreturn (k := 22) rfl rfl (by first | exact Or.inl rfl | exact Or.inr rfl | omega) rfl ?_
      rw [← hQ]
      refine ⟨rfl, _, rfl, ?_, stp_rf2 ha (stp_lok ha h0) h2.2⟩
      rw [jmpF_1 hp, show (crun (envF S m c (S 2 c) 0) (Wm 9) (Wm 8 1).toNat).headD 0 = z from h2.1.symm]
      simp only [ne_eq, zcc2] at *
      first
      | (rw [decide_eq_true (by assumption)]; rfl)
      | (rw [decide_eq_false (by intro q; exact absurd (by assumption) q)]; rfl)
    · skip
      refine ziconst (k := 19) rfl (by decide) ?_
      refine zgoto (k := 20) rfl rfl ?_
      refine zzreturn (k := 22) rfl rfl (by first | exact Or.inl rfl | exact Or.inr rfl | omega) rfl ?_
      rw [← hQ]
      refine ⟨rfl, _, rfl, ?_, stp_rf2 ha (stp_lok ha h0) h2.2⟩
      rw [jmpF_1 hp, show (crun (envF S m c (S 2 c) 0) (Wm 9) (Wm 8 1).toNat).headD 0 = z from h2.1.symm]
      simp only [ne_eq, zcc2] at *
      first
      | (rw [decide_eq_true (by assumption)]; rfl)
      | (rw [decide_eq_false (by intro q; exact absurd (by assumption) q)]; rfl)
  · skip
    refine ziconst (k := 4) rfl (by decide) ?_
    refine zzreturn (k := 5) rfl rfl (by first | exact Or.inl rfl | exact Or.inr rfl | omega) rfl ?_
    rw [← hQ]
    have hp : ¬ 0 < Wm 8 1 := by split at c1 <;> first | assumption | (exfalso; omega)
    exact ⟨rfl, _, rfl, by rw [jmpF_0 hp]; rfl, h0⟩
set_option maxHeartbeats 4000000 in
set_option maxRecDepth 20000 in
theorem c_March_liking {Γ : zv_M} {L : Int} {a w m c p : Int} {σ0 σ S Wm : zv_H} (ha : a ∈ stL) (hw : w ∈ wrL) (h0 : stp σ0 σ a S) (hW : vw 12 σ0 w = Wm) (hSI : SI (Wm 0 1) (Wm 0 3) S) (hWI : WI Wm) (hm : 0 ≤ m ∧ m < Wm 0 3) (hc : 0 ≤ c ∧ c < Wm 0 1) (hp : 0 ≤ p ∧ p ≤ 999) : zC Γ m_March_liking 3 0 0 (GM L) [zR 55, zR w, zR a, zI m, zI c, zI p] σ (zPL (GM L) (fun z σ' => z = likF Wm S m c p ∧ stp σ0 σ' a S)) := by
  refine zC_of (ls0 := [_, _, _, _, _, _]) zm_March_liking (by decide) rfl (Nat.le_of_ble_eq_true rfl) ?_
  generalize hQ : (zPL (GM L) (fun z σ' => z = likF Wm S m c p ∧ stp σ0 σ' a S)) = Q
  have hSI2 := hSI
  have hWI2 := hWI
  obtain ⟨b0, b11, b12, bc, bm, bl, br⟩ := hSI2
  obtain ⟨w1, w2, w3, w4, w5, w6, w7, w8, w9, w10⟩ := hWI2
  have b_m := bm m hm.1 hm.2
  have b_c := bc (S 4 m) b_m.1.1 b_m.1.2
  have bcc := bc c hc.1 hc.2
  have hfar := st_far ha
  refine zaload_n (k := 0) rfl rfl ?_
  refine zgF 13 (k := 1) rfl (wr_ob hw) fl_3_145 rfl (wr_fx_13 hw) ?_
  refine zfV1 (k := 2) rfl (k_told hw (g := 10) (by omega) ((stp_w h0 ha hw).trans hW)) fm_Formula_isTold lk_3_110 rfl rfl (wr_ob_10 hw) ⟨_, rfl, rfl⟩ (Nat.le_of_ble_eq_true rfl) (by decide) ⟨by decide, by decide⟩ ?_
  refine zif_ne (k := 3) rfl rfl (fun c1 => ?_) (fun c1 => ?_)
  · skip
    have hq : 0 < Wm 10 1 := by split at c1 <;> first | assumption | (exfalso; omega)
    refine zaload_n (k := 7) rfl rfl ?_
    refine zaload_n (k := 8) rfl rfl ?_
    refine ziload_n (k := 9) rfl rfl ?_
    refine ziload (k := 10) rfl rfl ?_
    refine zfV0 (k := 11) rfl (c_March_lookAt ha h0 (by omega) (by omega)) fm_March_lookAt lk_3_116 rfl rfl ob_55 ⟨_, rfl, rfl⟩ (Nat.le_of_ble_eq_true rfl) (by decide) ⟨by decide, by decide⟩ ?_
    refine zaload_n (k := 12) rfl rfl ?_
    refine zgF 0 (k := 13) rfl ob_55 fl_3_12 rfl fx_55_0 ?_
    refine ziload (k := 14) rfl rfl ?_
    refine zpI 3 (k := 15) rfl ob_56 fl_3_129 ⟨_, rfl, rfl⟩ rfl (by omega) rfl fx_56_3 ?_
    refine zaload_n (k := 16) rfl rfl ?_
    refine zgF 0 (k := 17) rfl ob_55 fl_3_12 rfl fx_55_0 ?_
    refine zaload_n (k := 18) rfl rfl ?_
    refine zaload_n (k := 19) rfl rfl ?_
    refine zgF 4 (k := 20) rfl (st_ob ha) fl_3_65 rfl (st_fx_4 ha) ?_
    refine ziload_n (k := 21) rfl rfl ?_
    refine zfS1 (k := 22) rfl (c_NT_at (st_ar_4 ha)) fm_NT_at lk_3_30 rfl rfl (Nat.le_of_ble_eq_true rfl) (by decide) ⟨by decide, by decide⟩ ?_
    rw [zat_in (by omega), stp_f (stp_56 ha (stp_lok ha h0)) (by omega)]
    refine ziload (k := 23) rfl rfl ?_
    refine zfV1 (k := 24) rfl (k_dist hw ((stp_w (stp_56 ha (stp_lok ha h0)) ha hw).trans hW) (by omega)) fm_War_distance lk_3_98 rfl rfl (wr_ob hw) ⟨_, rfl, rfl⟩ (Nat.le_of_ble_eq_true rfl) (by decide) ⟨by decide, by decide⟩ ?_
    refine zpI 8 (k := 25) rfl ob_56 fl_3_138 ⟨_, rfl, rfl⟩ rfl (by omega) rfl fx_56_8 ?_
    refine zaload_n (k := 26) rfl rfl ?_
    refine zgF 0 (k := 27) rfl ob_55 fl_3_12 rfl fx_55_0 ?_
    refine zaload_n (k := 28) rfl rfl ?_
    refine zgF 13 (k := 29) rfl (wr_ob hw) fl_3_145 rfl (wr_fx_13 hw) ?_
    refine zpVL (k := 30) rfl (k_reck hw (g := 10) (by omega) ((stp_w (stp_56 ha (stp_56 ha (stp_lok ha h0))) ha hw).trans hW) w9 hq (envF S m c p (dstF Wm (S 4 m) c)) (fun s h1 h2 => e7 (P := fun s => envF S m c p (dstF Wm (S 4 m) c) s = zup (zup (zlok σ S m c) 56 3 p) 56 8 (dstF Wm (S 4 m) c) 56 (1 - s)) h1 h2 rfl rfl rfl rfl rfl rfl rfl) (env_b hSI hm hc hp (dst_b hWI _ _))) fm_Reckoner_reckon lk_3_120 rfl rfl ob_56 ⟨_, rfl, rfl⟩ (Nat.le_of_ble_eq_true rfl) (by decide) ⟨by decide, by decide⟩ (fun z σ2 h2 => ?_)
    refine zlreturn (k := 31) rfl rfl rfl ?_
    rw [← hQ]
    refine ⟨rfl, _, rfl, ?_, stp_rf2 ha (stp_56 ha (stp_56 ha (stp_lok ha h0))) h2.2⟩
    rw [likF_1 hq]
    exact h2.1
  · skip
    refine ziload (k := 4) rfl rfl ?_
    refine zi2l (k := 5) rfl ?_
    refine zlreturn (k := 6) rfl rfl rfl ?_
    rw [← hQ]
    have hq : ¬ 0 < Wm 10 1 := by split at c1 <;> first | assumption | (exfalso; omega)
    exact ⟨rfl, _, rfl, by rw [likF_0 hq], h0⟩
