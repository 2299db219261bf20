/-! the machine's takes -/
theorem ite_o {z : Int} {P : Prop} [Decidable P] (h : z = (if P then (1 : Int) else 0)) : (z = 1 ∧ P) ∨ (z = 0 ∧ ¬ P) := by
  by_cases q : P
  · exact Or.inl ⟨by rw [h, if_pos q], q⟩
  · exact Or.inr ⟨by rw [h, if_neg q], q⟩
theorem ite_i {P Q : Prop} [Decidable P] [Decidable Q] (h : P ↔ Q) : (if P then (1 : Int) else 0) = (if Q then 1 else 0) := by
  by_cases q : P
  · rw [if_pos q, if_pos (h.mp q)]
  · rw [if_neg q, if_neg (fun r => q (h.mpr r))]
theorem isW_e {σ : zv_H} {T : Int → Int} {p u w : Int} (h : MSd σ T p) (k4_q : tK T p ≠ 4) (hu : 0 ≤ u ∧ u < 24) (hw : w = ownW u) : (if σ 289 3 = 1 ∧ σ 289 7 = w then (1 : Int) else 0) = (if isOw T p u then 1 else 0) := by
  refine ite_i ?_
  have q := h.2.2.1 k4_q
  rw [q.2.1, hw]
  constructor
  · intro a
    exact ⟨a.1, (ow_w a.1 hu).mpr ((h.2.2.2.2.2.1 a.1).2.symm.trans a.2)⟩
  · intro a
    exact ⟨a.1, (h.2.2.2.2.2.1 a.1).2.trans ((ow_w a.1 hu).mp a.2)⟩
theorem isS_e {σ : zv_H} {T : Int → Int} {p c : Int} (h : MSd σ T p) (k4_q : tK T p ≠ 4) : (if σ 289 3 = 3 ∧ σ 289 6 = c then (1 : Int) else 0) = (if isSg T p c then 1 else 0) := by
  refine ite_i ?_
  have q := h.2.2.1 k4_q
  rw [q.2.1]
  constructor
  · intro a
    exact ⟨a.1, (h.2.2.2.1 a.1).symm.trans a.2⟩
  · intro a
    exact ⟨a.1, (h.2.2.2.1 a.1).trans a.2⟩
theorem q_ahd {Γ : zv_M} {L : Int} {s : zSpan} {σ : zv_H} {T : Int → Int} {n i p : Int} {A : zv_H} (h : rdR s σ T n i A (Sum.inl p)) (hk : tK T p = 1 ∨ tK T p = 2 ∨ tK T p = 3) : zC Γ m_M_ahead 1 0 0 (GM L) [zR 289] σ (zP0 (GM L) (fun σ' => rdR s σ' T n i A (Sum.inl (tN T p)) ∧ sfe σ σ')) := by
  refine zC_mono (fun q G' σ' hq => ?_) (k_ahd (rdR_self h) h.2.2.2.2.1 (h.2.2.2.2.2.2.2.2.1 (by omega)).2.2 h.2.2.2.2.2.1 hk)
  exact ⟨hq.1, hq.2.1, rdR_up h hq.2.2⟩
theorem q_lex {Γ : zv_M} {L : Int} {s : zSpan} {σ : zv_H} {T : Int → Int} {n i p : Int} {A : zv_H} (h : rdR s σ T n i A (Sum.inl p)) : zC Γ m_M_lex 1 0 0 (GM L) [zR 289] σ (zP0 (GM L) (fun σ' => (tK T p ≠ 4 ∧ σ' = σ) ∨ (tK T p = 4 ∧ rdR s σ' T n i A (Sum.inr (1, tP T p)) ∧ σ' 289 8 = 1 ∧ sfe σ σ'))) := by
  refine zC_mono (fun q G' σ' hq => ?_) (k_lex (rdR_self h))
  refine ⟨hq.1, hq.2.1, ?_⟩
  rcases hq.2.2 with r | r
  · exact Or.inl r
  · have u := rdR_up h r.2.1
    exact Or.inr ⟨r.1, u.1, r.2.2, u.2⟩
theorem q_blm {Γ : zv_M} {L : Int} {s : zSpan} {σ : zv_H} {T : Int → Int} {n i k pl : Int} {A : zv_H} {r : zX Int} (h : rdR s σ T n i A r) (h0_q : σ 289 8 = 0) (hk : 0 < k) : zC Γ m_M_blame 0 0 0 (GM L) [zR 289, zI k, zI pl] σ (zP0 (GM L) (fun σ' => rdR s σ' T n i A (Sum.inr (k, pl)) ∧ σ' 289 8 = k ∧ ∀ x j, ¬ (x = 289 ∧ (j = 8 ∨ j = 9)) → σ' x j = σ x j)) := k_blm h h0_q hk
theorem c_ahd {Γ : zv_M} {L : Int} {s : zSpan} {σ : zv_H} {T : Int → Int} {n i p o : Int} {A : zv_H} {lk : Bool} {F : List zFr} {out : List (Int × Int)} (hc : cfM s σ T n i A lk p F out o) (hk : tK T p = 1 ∨ tK T p = 2 ∨ tK T p = 3) : zC Γ m_M_ahead 1 0 0 (GM L) [zR 289] σ (zP0 (GM L) (fun σ' => cfM s σ' T n i A lk (tN T p) F out o ∧ sfe σ σ')) := by
  refine zC_mono (fun q G' σ' hq => ?_) (q_ahd hc.1 hk)
  exact ⟨hq.1, hq.2.1, cfM_s hc hq.2.2.2 hq.2.2.1, hq.2.2.2⟩
/-- what one turn comes to -/
def oprM (s : zSpan) (σ : zv_H) (T : Int → Int) (n i : Int) (A : zv_H) (lk : Bool) (z : Int) (r : zRs) : Prop := match r with
  | Sum.inl (p, F, out, o, d) => cfM s σ T n i A lk p F out o ∧ z = zB d
  | Sum.inr (Sum.inl _) => False
  | Sum.inr (Sum.inr (k, pl)) => rdR s σ T n i A (Sum.inr (k, pl))
set_option maxHeartbeats 4000000 in
set_option maxRecDepth 20000 in
theorem c_M_opens {Γ : zv_M} {L : Int} {s : zSpan} {σ : zv_H} {T : Int → Int} {n i p o : Int} {A : zv_H} {lk : Bool} {F : List zFr} {out : List (Int × Int)} (hF : ∀ x k, inF i x k → s.2 x k) (hc : cfM s σ T n i A lk p F out o) (hl : F.length ≤ 19) (ho : 0 ≤ o ∧ o ≤ 7) (hk : tK T p = 3) {kd : Int}  : zC Γ m_M_opens 2 0 0 (GM L) [zR 289, zI kd] σ (zP0 (GM L) (fun σ' => (o = 7 ∧ rdR s σ' T n i A (Sum.inr (5, tQ T p))) ∨ (o ≠ 7 ∧ ∀ pr : Int, ((kd = 3 ∨ kd = 4 ∨ kd = 6) → pr = σ' 311 (F.length : Int)) → cfM s σ' T n i A lk (tN T p) ((kd, 0, true, pr, []) :: F) out (o + 1)))) := by
  refine zC_of (ls0 := [_, _]) zm_M_opens (by decide) rfl (Nat.le_of_ble_eq_true rfl) ?_
  generalize hQ : (zP0 (GM L) (fun σ' => (o = 7 ∧ rdR s σ' T n i A (Sum.inr (5, tQ T p))) ∨ (o ≠ 7 ∧ ∀ pr : Int, ((kd = 3 ∨ kd = 4 ∨ kd = 6) → pr = σ' 311 (F.length : Int)) → cfM s σ' T n i A lk (tN T p) ((kd, 0, true, pr, []) :: F) out (o + 1)))) = Q
  have f8_q := hc.1.2.2.2.2.1
  have sq := hc.1.2.2.2.2.2.2.1
  have hop := hc.2.2.2.2.2.1
  refine zaload_n (k := 0) rfl rfl ?_
  refine zgI 40 (k := 1) rfl ob_289 fl_12_135 rfl fx_289_40 ?_
  rw [hop]
  refine zbipush (k := 2) rfl rfl ?_
  refine zicmp_ne (k := 3) rfl rfl (fun c1_q => ?_) (fun c1_q => ?_)
  · skip
    refine zaload_n (k := 9) rfl rfl ?_
    refine zgI 8 (k := 10) rfl ob_289 fl_12_36 rfl fx_289_8 ?_
    rw [f8_q]
    refine zif_le (k := 11) rfl rfl (fun c2_q => ?_) (fun c2_q => ?_)
    · skip
      refine zaload_n (k := 13) rfl rfl ?_
      refine zdup (k := 14) rfl rfl ?_
      refine zgI 40 (k := 15) rfl ob_289 fl_12_135 rfl fx_289_40 ?_
      rw [hop]
      refine ziconst (k := 16) rfl (by decide) ?_
      refine ziaddB (k := 17) rfl (by omega) ?_
      refine zpI 40 (k := 18) rfl ob_289 fl_12_135 ⟨_, rfl, rfl⟩ rfl (by omega) rfl fx_289_40 ?_
      have hc1_q := cfM_o (v := o + 1) hF hc
      refine zaload_n (k := 19) rfl rfl ?_
      refine zpV0 (k := 20) rfl (c_ahd hc1_q (Or.inr (Or.inr hk))) fm_M_ahead lk_12_256 rfl rfl ob_289 ⟨_, rfl, rfl⟩ (Nat.le_of_ble_eq_true rfl) (by decide) ⟨by decide, by decide⟩ (fun σ3 b3_q => ?_)
      obtain ⟨h3_q, e3_q⟩ := b3_q
      refine zaload_n (k := 21) rfl rfl ?_
      refine ziload_n (k := 22) rfl rfl ?_
      refine zfV0 (k := 23) rfl (c_M_pushes (d := (F.length : Int)) (m := σ3 289 42) h3_q.2.2.1 rfl (by omega)) fm_M_pushes lk_12_325 rfl rfl ob_289 ⟨_, rfl, rfl⟩ (Nat.le_of_ble_eq_true rfl) (by decide) ⟨by decide, by decide⟩ ?_
      refine zreturn (k := 24) rfl rfl rfl ?_
      rw [← hQ]
      exact ⟨rfl, rfl, Or.inr ⟨by omega, fun pr hpr => cfM_p hF h3_q (fun q => (hpr q).trans (by rw [zup_n (by omega), zup_n (by omega), zup_n (by omega), zup_n (by omega), zup_n (by omega)]))⟩⟩
    · exfalso; omega
  · skip
    refine zaload_n (k := 4) rfl rfl ?_
    refine ziconst (k := 5) rfl (by decide) ?_
    refine zaload_n (k := 6) rfl rfl ?_
    refine zgI 4 (k := 7) rfl ob_289 fl_12_23 rfl fx_289_4 ?_
    rw [sq]
    refine zpV0 (k := 8) rfl (q_blm (k := 5) (pl := tQ T p) hc.1 f8_q (by omega)) fm_M_blame lk_12_239 rfl rfl ob_289 ⟨_, rfl, rfl⟩ (Nat.le_of_ble_eq_true rfl) (by decide) ⟨by decide, by decide⟩ (fun σ2 b2_q => ?_)
    -- BLAMED
    obtain ⟨h2_q, f8_q, fx⟩ := b2_q
    refine zaload_n (k := 9) rfl rfl ?_
    refine zgI 8 (k := 10) rfl ob_289 fl_12_36 rfl fx_289_8 ?_
    rw [f8_q]
    refine zif_le (k := 11) rfl rfl (fun c3_q => ?_) (fun c3_q => ?_)
    · exfalso; omega
    refine zreturn (k := 12) rfl rfl rfl ?_
    rw [← hQ]
    exact ⟨rfl, rfl, Or.inl ⟨by omega, h2_q⟩⟩
set_option maxHeartbeats 4000000 in
set_option maxRecDepth 20000 in
theorem b_opens {Γ : zv_M} {L : Int} {σ : zv_H} (f8_q : 0 < σ 289 8) {kd : Int}  : zC Γ m_M_opens 2 0 0 (GM L) [zR 289, zI kd] σ (zFn none (GM L) σ) := by
  refine zC_of (ls0 := [_, _]) zm_M_opens (by decide) rfl (Nat.le_of_ble_eq_true rfl) ?_
  generalize hQ : (zFn none (GM L) σ) = Q
  refine zaload_n (k := 0) rfl rfl ?_
  refine zgI 40 (k := 1) rfl ob_289 fl_12_135 rfl fx_289_40 ?_
  refine zbipush (k := 2) rfl rfl ?_
  refine zicmp_ne (k := 3) rfl rfl (fun c1_q => ?_) (fun c1_q => ?_)
  · skip
    refine zaload_n (k := 9) rfl rfl ?_
    refine zgI 8 (k := 10) rfl ob_289 fl_12_36 rfl fx_289_8 ?_
    refine zif_le (k := 11) rfl rfl (fun c2_q => ?_) (fun c2_q => ?_)
    · exfalso; omega
    refine zreturn (k := 12) rfl rfl rfl ?_
    rw [← hQ]
    exact ⟨rfl, rfl, rfl⟩
  · skip
    refine zaload_n (k := 4) rfl rfl ?_
    refine ziconst (k := 5) rfl (by decide) ?_
    refine zaload_n (k := 6) rfl rfl ?_
    refine zgI 4 (k := 7) rfl ob_289 fl_12_23 rfl fx_289_4 ?_
    refine zfV0 (k := 8) rfl (bad_blame f8_q) fm_M_blame lk_12_239 rfl rfl ob_289 ⟨_, rfl, rfl⟩ (Nat.le_of_ble_eq_true rfl) (by decide) ⟨by decide, by decide⟩ ?_
    refine zaload_n (k := 9) rfl rfl ?_
    refine zgI 8 (k := 10) rfl ob_289 fl_12_36 rfl fx_289_8 ?_
    refine zif_le (k := 11) rfl rfl (fun c3_q => ?_) (fun c3_q => ?_)
    · exfalso; omega
    refine zreturn (k := 12) rfl rfl rfl ?_
    rw [← hQ]
    exact ⟨rfl, rfl, rfl⟩
