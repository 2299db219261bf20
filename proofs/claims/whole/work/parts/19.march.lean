/-! March -/
theorem st_e {n : Int} {σ : zv_H} {a f : Int} {S : zv_H} (hS : vw n σ a = S) (hf : 1 ≤ f ∧ f ≤ n) : σ (a + f) = S f := funext (fun i => by rw [← hS, vw_f hf])
theorem st_e0 {n : Int} {σ : zv_H} {a : Int} {S : zv_H} (hS : vw n σ a = S) : σ a = S 0 := funext (fun i => by rw [← hS, vw_0])
theorem stp_56 {σ σ1 : zv_H} {a k v : Int} {S1 : zv_H} (ha : a ∈ stL) (h : stp σ σ1 a S1) : stp σ (zup σ1 56 k v) a S1 := by
  have := st_far ha
  exact ⟨by rw [← h.1]; exact vw_eq (fun x j h1 h2 => zup_n (by omega)) (by omega), fun x j q1 q2 q3 => by rw [zup_n (by omega)]; exact h.2 x j q1 q2 q3⟩
theorem stp_rf2 {σ σ1 σ2 : zv_H} {a : Int} {S1 : zv_H} (ha : a ∈ stL) (h : stp σ σ1 a S1) (hr : rfr σ1 σ2) : stp σ σ2 a S1 := by
  have := st_far ha
  exact ⟨by rw [← h.1]; exact vw_eq (fun x j h1 h2 => hr x j (by omega) (by omega)) (by omega), fun x j q1 q2 q3 => by rw [hr x j (by omega) (by omega)]; exact h.2 x j q1 q2 q3⟩
theorem k_put {Γ : zv_M} {L : Int} {σ σ1 : zv_H} {a g n i v : Int} {S1 : zv_H} (hA : zv_ar (GM L) (a + g) .int n) (hp : 0 < a + g) (h : stp σ σ1 a S1) (hg : 1 ≤ g ∧ g ≤ 10) (hi : 0 ≤ i ∧ i < n) : zC Γ m_NT_put 0 0 0 (GM L) [zR (a + g), zI i, zI v] σ1 (zP0 (GM L) (fun σ' => stp σ σ' a (zup S1 g i v))) := by
  refine zC_mono (fun q G' σ' hq => ?_) (c_NT_put hA hp)
  obtain ⟨rfl, rfl, rfl⟩ := hq
  exact ⟨rfl, rfl, by rw [zpt_in hi]; exact stp_up h hg⟩
theorem k_keep {Γ : zv_M} {L : Int} {σ σ1 : zv_H} {a m c t : Int} {S1 : zv_H} (ha : a ∈ stL) (h : stp σ σ1 a S1) (hm : 0 ≤ m ∧ m < 6) (hc : 0 ≤ c ∧ c < 7) (ht : 0 ≤ t ∧ t ≤ 9) (b0 : 0 ≤ S1 0 0 ∧ S1 0 0 ≤ 999) (b1 : 0 ≤ S1 0 11 ∧ S1 0 11 < 60) (b2 : 0 ≤ S1 0 12 ∧ S1 0 12 ≤ 60) : zC Γ m_State_keep 1 0 0 (GM L) [zR a, zI m, zI c, zI t] σ1 (zP0 (GM L) (fun σ' => stp σ σ' a (kepF S1 (entF S1 m c t)))) := by
  refine zC_mono (fun q G' σ' hq => ?_) (c_State_keep ha hm hc ht (by rw [stp_0 h]; exact b0) (by rw [stp_0 h]; exact b1) (by rw [stp_0 h]; exact b2))
  obtain ⟨rfl, rfl, rfl⟩ := hq
  refine ⟨rfl, rfl, ?_⟩
  unfold entF
  rw [stp_0 h]
  exact stp_kep h
theorem k_send {Γ : zv_M} {L : Int} {σ σ1 : zv_H} {a m c t : Int} {S1 : zv_H} (ha : a ∈ stL) (h : stp σ σ1 a S1) (hm : 0 ≤ m ∧ m < 6) (hc : 0 ≤ c ∧ c < 7) : zC Γ m_State_send 1 0 0 (GM L) [zR a, zI m, zI c, zI t] σ1 (zP0 (GM L) (fun σ' => stp σ σ' a (sndF S1 m c t))) := by
  refine zC_mono (fun q G' σ' hq => ?_) (c_State_send ha hm hc)
  obtain ⟨rfl, rfl, rfl⟩ := hq
  exact ⟨rfl, rfl, stp_snd h⟩
theorem k_dist {Γ : zv_M} {L : Int} {σ1 : zv_H} {w f t : Int} {Wm : zv_H} (hw : w ∈ wrL) (hW : vw 12 σ1 w = Wm) (hb : 0 ≤ Wm 0 1 ∧ Wm 0 1 ≤ 7) : zC Γ m_War_distance 1 0 0 (GM L) [zR w, zI f, zI t] σ1 (zFn (some (zI (dstF Wm f t))) (GM L) σ1) := by
  have e : zdst σ1 w f t = dstF Wm f t := by
    unfold zdst dstF
    rw [st_e0 hW, st_e hW (f := 12) (by omega)]
  have h := c_War_distance (Γ := Γ) (L := L) (f := f) (t := t) (σ := σ1) hw (by rw [st_e0 hW]; exact hb)
  rw [e] at h
  exact h
theorem k_known {Γ : zv_M} {L : Int} {σ1 : zv_H} {a w m c t : Int} {S1 Wm : zv_H} (ha : a ∈ stL) (hw : w ∈ wrL) (hS : vw 10 σ1 a = S1) (hW : vw 12 σ1 w = Wm) (hm : 0 ≤ m ∧ m < 6) (hc : 0 ≤ c ∧ c < 7) (hb : 0 ≤ Wm 0 3 ∧ Wm 0 3 ≤ 6) : zC Γ m_State_isKnown 1 0 0 (GM L) [zR a, zR w, zI m, zI c, zI t] σ1 (zFn (some (zI (zB (zknB (Wm 7) (S1 9) m c t (Wm 0 3).toNat)))) (GM L) σ1) := by
  have h := c_State_isKnown (Γ := Γ) (L := L) (m := m) (c := c) (t := t) (σ := σ1) ha hw (Wm 0 3).toNat (by rw [st_e0 hW]; omega) (by omega) hm hc
  rw [st_e hW (f := 7) (by omega), st_e hS (f := 9) (by omega)] at h
  exact h
theorem wr_8 {w : Int} (hw : w ∈ wrL) : w + 8 ∈ fmL ∧ w + 10 ∈ fmL := by
  simp only [wrL, fmL, List.mem_cons, List.not_mem_nil, or_false] at hw ⊢
  omega
theorem wr_g {w g : Int} (hw : w ∈ wrL) (hg : g = 8 ∨ g = 10) : w + g ∈ fmL := by
  rcases hg with rfl | rfl
  · exact (wr_8 hw).1
  · exact (wr_8 hw).2
theorem k_told {Γ : zv_M} {L : Int} {σ1 : zv_H} {w g : Int} {Wm : zv_H} (hw : w ∈ wrL) (hg : g = 8 ∨ g = 10) (hW : vw 12 σ1 w = Wm) : zC Γ m_Formula_isTold 0 0 0 (GM L) [zR (w + g)] σ1 (zFn (some (zI (if 0 < Wm g 1 then 1 else 0))) (GM L) σ1) := by
  have h := c_Formula_isTold (Γ := Γ) (L := L) (a := w + g) (σ := σ1) (wr_g hw hg)
  rw [st_e hW (f := g) (by omega)] at h
  exact h
theorem k_reck {Γ : zv_M} {L : Int} {σ1 : zv_H} {w g : Int} {Wm : zv_H} (hw : w ∈ wrL) (hg : g = 8 ∨ g = 10) (hW : vw 12 σ1 w = Wm) (hF : FI (Wm (g + 1)) (Wm g 1)) (hn : 0 < Wm g 1) (E : Int → Int) (hE : ∀ s : Int, -7 ≤ s → s ≤ -1 → E s = σ1 56 (1 - s)) (hB : ∀ q, -1000 ≤ E q ∧ E q ≤ 10000) : zC Γ m_Reckoner_reckon 2 0 0 (GM L) [zR 56, zR (w + g)] σ1 (zPL (GM L) (fun z σ' => z = (crun E (Wm (g + 1)) (Wm g 1).toNat).headD 0 ∧ rfr σ1 σ')) := by
  have e : σ1 (w + g + 1) = Wm (g + 1) := by rw [Int.add_assoc]; exact st_e hW (by omega)
  have hF3 := hF.2.2 hn E hB
  rw [← e] at hF3
  refine zC_mono (fun q G' σ' hq => ?_) (c_Reckoner_reckon (Γ := Γ) (L := L) (a := w + g) (σ := σ1) (wr_g hw hg) (Wm g 1).toNat (by rw [st_e hW (f := g) (by omega)]; omega) (by have := hF.2.1; omega) E hE hF3.1)
  obtain ⟨h1, z, h2, ⟨r, h3⟩, h4⟩ := hq
  refine ⟨h1, z, h2, ?_, h4⟩
  rw [← e, h3]
  rfl
def zlok (σ : zv_H) (S : zv_H) (m c : Int) : zv_H := zup (zup (zup (zup (zup (zup (zup σ 56 2 (S 3 c)) 56 3 (S 2 c)) 56 7 (S 1 c)) 56 4 (S 7 m)) 56 5 (S 8 m)) 56 6 (S 0 0)) 56 8 0
theorem stp_lok {σ σ1 : zv_H} {a m c : Int} {S S1 : zv_H} (ha : a ∈ stL) (h : stp σ σ1 a S1) : stp σ (zlok σ1 S m c) a S1 := stp_56 ha (stp_56 ha (stp_56 ha (stp_56 ha (stp_56 ha (stp_56 ha (stp_56 ha h))))))
theorem dst_b {Wm : zv_H} (h : WI Wm) (f t : Int) : -1 ≤ dstF Wm f t ∧ dstF Wm f t ≤ 54 := by
  unfold dstF
  split
  · rename_i q
    have := h.2.2.2.2.2.2.2.2.2 f t q.1.1 q.1.2 q.2.1.1 q.2.1.2
    omega
  · omega
