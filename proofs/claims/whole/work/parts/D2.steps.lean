/-! FORMULAS: the model reads -/
set_option maxHeartbeats 4000000 in
set_option maxRecDepth 20000 in
theorem g_gon4 {Γ : zv_M} {L : Int} {s : zSpan} {σ : zv_H} {T : Int → Int} {n i p o kd ph pr : Int} {A : zv_H} {lk bg : Bool} {ops : List Int} {R : List zFr} {out : List (Int × Int)} (hi1_q : i = 0 ∨ i = 1) (hF : ∀ x k, inF i x k → s.2 x k) (hc : cfM s σ T n i A lk p ((kd, ph, bg, pr, ops) :: R) out o) (k4_q : tK T p = 4)  : zC Γ m_M_goesOn 3 0 0 (GM L) [zR 289] σ (zPI (GM L) (fun z σ' => gonM s σ' T n i A lk z (gonS T p kd ph bg pr ops R out o))) := by
  refine zC_of (ls0 := [_, _, _, _, _]) zm_M_goesOn (by decide) rfl (Nat.le_of_ble_eq_true rfl) ?_
  generalize hQ : (zPI (GM L) (fun z σ' => gonM s σ' T n i A lk z (gonS T p kd ph bg pr ops R out o))) = Q
  refine zaload_n (k := 0) rfl rfl ?_
  refine zpV0 (k := 1) rfl (q_lex hc.1) fm_M_lex lk_12_250 rfl rfl ob_289 ⟨_, rfl, rfl⟩ (Nat.le_of_ble_eq_true rfl) (by decide) ⟨by decide, by decide⟩ (fun σ1 l1_q => ?_)
  obtain ⟨h1_q, f8_q⟩ : rdR s σ1 T n i A (Sum.inr (1, tP T p)) ∧ σ1 289 8 = 1 := by
    rcases l1_q with q | q
    · exact absurd k4_q q.1
    · exact ⟨q.2.1, q.2.2.1⟩
  refine zaload_n (k := 2) rfl rfl ?_
  refine zgI 8 (k := 3) rfl ob_289 fl_12_36 rfl fx_289_8 ?_
  rw [f8_q]
  refine zif_le (k := 4) rfl rfl (fun c1_q => ?_) (fun c1_q => ?_)
  · exfalso; omega
  refine ziconst (k := 5) rfl (by decide) ?_
  refine zzreturn (k := 6) rfl rfl (by first | exact Or.inl rfl | exact Or.inr rfl | omega) rfl ?_
  rw [← hQ]
  refine ⟨rfl, _, rfl, ?_⟩
  unfold gonS
  rw [if_pos k4_q]
  exact h1_q
theorem c_M_goesOnF {Γ : zv_M} {L : Int} {s : zSpan} {σ : zv_H} {T : Int → Int} {n i p o kd ph pr : Int} {A : zv_H} {lk bg : Bool} {ops : List Int} {R : List zFr} {out : List (Int × Int)} (hi1_q : i = 0 ∨ i = 1) (hF : ∀ x k, inF i x k → s.2 x k) (hc : cfM s σ T n i A lk p ((kd, ph, bg, pr, ops) :: R) out o) (h43_q : σ 289 43 = 1) (hkd : 0 ≤ kd ∧ kd ≤ 6) (hR : 2 ≤ kd → R ≠ []) (hl : R.length ≤ 7) (ho : 0 ≤ o ∧ o ≤ 7) (hN : out.length + ops.length ≤ 1600) (hn : (tK T p = 1 ∨ tK T p = 2 ∨ tK T p = 3) → out.length + ops.length < 1600) (hm : 0 ≤ σ 289 42 ∧ σ 289 42 < 500) : zC Γ m_M_goesOn 3 0 0 (GM L) [zR 289] σ (zPI (GM L) (fun z σ' => gonM s σ' T n i A lk z (gonS T p kd ph bg pr ops R out o))) := by
  by_cases k4_q : tK T p = 4
  · exact g_gon4 hi1_q hF hc k4_q
  · exact g_gon5 hi1_q hF hc k4_q h43_q hkd hR hl ho hN hn hm
theorem zB_f0 {b : Bool} (h : zB b = 0) : b = false := by
  rcases b with _ | _
  · rfl
  · cases h
theorem rch_in {T : Int → Int} {lk : Bool} {j : Nat} {X X1 Y : zCf} {r : zRs} (h : rch T lk j X Y) (hY : stpF T lk Y = r) (hr : ∀ Z, r ≠ Sum.inl Z) (hx : stpF T lk X = Sum.inl X1) : ∃ j2_q, j = j2_q + 1 ∧ rch T lk j2_q X1 Y := by
  rcases j with _ | j2_q
  · have e : X = Y := h
    rw [e, hY] at hx
    exact absurd hx (hr X1)
  · obtain ⟨Z, e, h2_q⟩ := h
    have e2_q : X1 = Z := Sum.inl.inj (hx.symm.trans e)
    rw [e2_q]
    exact ⟨j2_q, rfl, h2_q⟩
theorem rch_fin {T : Int → Int} {lk : Bool} {j : Nat} {X Y : zCf} {r : zRs} (h : rch T lk j X Y) (hY : stpF T lk Y = r) (hx : ∀ Z, stpF T lk X ≠ Sum.inl Z) : stpF T lk X = r := by
  rcases j with _ | j2_q
  · have e : X = Y := h
    rw [e]; exact hY
  · obtain ⟨Z, e, h2_q⟩ := h
    exact absurd e (hx Z)
def runM (s : zSpan) (σ : zv_H) (T : Int → Int) (n i : Int) (A : zv_H) (lk : Bool) (j : Nat) (Y : zCf) (X : zCf) : Prop := cfM s σ T n i A lk X.1 X.2.1 X.2.2.1 X.2.2.2.1 ∧ σ 289 43 = zB X.2.2.2.2 ∧ cfI X ∧ (0 ≤ X.1 ∧ X.1 ≤ n) ∧ rch T lk j X Y
def finM (s : zSpan) (σ : zv_H) (T : Int → Int) (n i : Int) (A : zv_H) (lk : Bool) (r : zRs) : Prop := match r with
  | Sum.inl _ => False
  | Sum.inr (Sum.inl (p, F, out, o, _)) => cfM s σ T n i A lk p F out o
  | Sum.inr (Sum.inr (k, pl)) => rdR s σ T n i A (Sum.inr (k, pl))
theorem run_opr {s : zSpan} {T : Int → Int} {n i p o kd ph pr : Int} {A : zv_H} {lk bg : Bool} {ops : List Int} {R : List zFr} {out : List (Int × Int)} {σ6 : zv_H} {z6_q : Int} {j : Nat} {Y : zCf} {r : zRs} (hF : ∀ x k, inF i x k → s.2 x k) (hT : TT T n) (hp : 0 ≤ p ∧ p ≤ n) (hI : cfI (p, (kd, ph, bg, pr, ops) :: R, out, o, false)) (hr : rch T lk j (p, (kd, ph, bg, pr, ops) :: R, out, o, false) Y) (hY : stpF T lk Y = r) (hn : ∀ Z, r ≠ Sum.inl Z) (l6_q : oprM s σ6 T n i A lk z6_q (oprF T lk p kd ph bg pr ops R out o)) (h0_q : σ6 289 8 = 0) : ∃ (j2_q : Nat) (X : zCf), j = j2_q + 1 ∧ runM s (zup σ6 289 43 z6_q) T n i A lk j2_q Y X := by
  rcases hx : oprF T lk p kd ph bg pr ops R out o with ⟨p', F', out', o', d'⟩ | (Z | ⟨k, pl⟩)
  · rw [hx] at l6_q
    obtain ⟨j2_q, e, h2_q⟩ := rch_in hr hY hn hx
    have q := cfI_opr hT hp hI hx
    exact ⟨j2_q, _, e, cfM_43 hF l6_q.1, by rw [zup_s]; exact l6_q.2, q.1, ⟨by have := q.2.1; dsimp only at this ⊢; omega, q.2.2⟩, h2_q⟩
  · rw [hx] at l6_q; exact l6_q.elim
  · rw [hx] at l6_q
    have q1_q := l6_q.2.2.2.2.1
    have q2_q := l6_q.2.2.2.2.2.1
    exfalso; omega
theorem fin_opr {s : zSpan} {T : Int → Int} {n i p o kd ph pr : Int} {A : zv_H} {lk bg : Bool} {ops : List Int} {R : List zFr} {out : List (Int × Int)} {σ6 : zv_H} {z6_q : Int} {j : Nat} {Y : zCf} {r : zRs} (hF : ∀ x k, inF i x k → s.2 x k) (hT : TT T n) (hp : 0 ≤ p ∧ p ≤ n) (hI : cfI (p, (kd, ph, bg, pr, ops) :: R, out, o, false)) (hr : rch T lk j (p, (kd, ph, bg, pr, ops) :: R, out, o, false) Y) (hY : stpF T lk Y = r) (hn : ∀ Z, r ≠ Sum.inl Z) (l6_q : oprM s σ6 T n i A lk z6_q (oprF T lk p kd ph bg pr ops R out o)) (h0_q : σ6 289 8 ≠ 0) : finM s (zup σ6 289 43 z6_q) T n i A lk r := by
  rcases hx : oprF T lk p kd ph bg pr ops R out o with ⟨p', F', out', o', d'⟩ | (Z | ⟨k, pl⟩)
  · rw [hx] at l6_q
    exact absurd l6_q.1.1.2.2.2.2.1 h0_q
  · rw [hx] at l6_q; exact l6_q.elim
  · rw [hx] at l6_q
    have e := rch_fin hr hY (fun Z q => by have h9_q := hx.symm.trans q; cases h9_q)
    rw [← e, show stpF T lk (p, (kd, ph, bg, pr, ops) :: R, out, o, false) = Sum.inr (Sum.inr (k, pl)) from hx]
    exact rdR_k l6_q hF (Or.inr (Or.inr ⟨rfl, by omega⟩))
theorem run_gon {s : zSpan} {T : Int → Int} {n i p o kd ph pr : Int} {A : zv_H} {lk bg : Bool} {ops : List Int} {R : List zFr} {out : List (Int × Int)} {σ6 : zv_H} {z6_q : Int} {j : Nat} {Y : zCf} {r : zRs} (hF : ∀ x k, inF i x k → s.2 x k) (hT : TT T n) (hp : 0 ≤ p ∧ p ≤ n) (hI : cfI (p, (kd, ph, bg, pr, ops) :: R, out, o, true)) (hr : rch T lk j (p, (kd, ph, bg, pr, ops) :: R, out, o, true) Y) (hY : stpF T lk Y = r) (hn : ∀ Z, r ≠ Sum.inl Z) (l6_q : gonM s σ6 T n i A lk z6_q (gonS T p kd ph bg pr ops R out o)) (hz : z6_q ≠ 0) (h0_q : σ6 289 8 = 0) : ∃ (j2_q : Nat) (X : zCf), j = j2_q + 1 ∧ runM s σ6 T n i A lk j2_q Y X := by
  rcases hx : gonS T p kd ph bg pr ops R out o with ⟨p', F', out', o', d'⟩ | (⟨p', F', out', o', d'⟩ | ⟨k, pl⟩)
  · rw [hx] at l6_q
    obtain ⟨j2_q, e, h2_q⟩ := rch_in hr hY hn hx
    have q := cfI_gon hT hp hI hx
    exact ⟨j2_q, _, e, l6_q.1, l6_q.2.2, q.1, ⟨by have := q.2.1; dsimp only at this ⊢; omega, q.2.2⟩, h2_q⟩
  · rw [hx] at l6_q; exact absurd l6_q.2 hz
  · rw [hx] at l6_q
    have q1_q := l6_q.2.2.2.2.1
    have q2_q := l6_q.2.2.2.2.2.1
    exfalso; omega
theorem fin_gon {s : zSpan} {T : Int → Int} {n i p o kd ph pr : Int} {A : zv_H} {lk bg : Bool} {ops : List Int} {R : List zFr} {out : List (Int × Int)} {σ6 : zv_H} {z6_q : Int} {j : Nat} {Y : zCf} {r : zRs} (hF : ∀ x k, inF i x k → s.2 x k) (hT : TT T n) (hp : 0 ≤ p ∧ p ≤ n) (hI : cfI (p, (kd, ph, bg, pr, ops) :: R, out, o, true)) (hr : rch T lk j (p, (kd, ph, bg, pr, ops) :: R, out, o, true) Y) (hY : stpF T lk Y = r) (hn : ∀ Z, r ≠ Sum.inl Z) (l6_q : gonM s σ6 T n i A lk z6_q (gonS T p kd ph bg pr ops R out o)) (h0_q : z6_q = 0 ∨ σ6 289 8 ≠ 0) : finM s σ6 T n i A lk r := by
  rcases hx : gonS T p kd ph bg pr ops R out o with ⟨p', F', out', o', d'⟩ | (⟨p', F', out', o', d'⟩ | ⟨k, pl⟩)
  · rw [hx] at l6_q
    rcases h0_q with q | q
    · have q1_q := l6_q.2.1
      exfalso; omega
    · exact absurd l6_q.1.1.2.2.2.2.1 q
  · rw [hx] at l6_q
    have e := rch_fin hr hY (fun Z q => by have h9_q := hx.symm.trans q; cases h9_q)
    rw [← e, show stpF T lk (p, (kd, ph, bg, pr, ops) :: R, out, o, true) = Sum.inr (Sum.inl (p', F', out', o', d')) from hx]
    exact l6_q.1
  · rw [hx] at l6_q
    have e := rch_fin hr hY (fun Z q => by have h9_q := hx.symm.trans q; cases h9_q)
    rw [← e, show stpF T lk (p, (kd, ph, bg, pr, ops) :: R, out, o, true) = Sum.inr (Sum.inr (k, pl)) from hx]
    exact l6_q
