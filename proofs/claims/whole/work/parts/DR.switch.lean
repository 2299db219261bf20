/-! BEHIND THE CONSTRUCTORS: from the world on the way to the world that stands; the class and the model are together -/
def SF (a k : Int) : Int := if a = 302 ∧ 0 ≤ k ∧ k ≤ 3 then -1 else if a = 301 ∧ 0 ≤ k ∧ k ≤ 1 then 2 else SP a k
def sF (c : Int → Int) : zv_H := fun a k => if a = 0 then c k else SF a k
theorem sF_n {c : Int → Int} {a k : Int} (h : a ≠ 0) : sF c a k = SF a k := if_neg h
theorem SF_n {a k : Int} (h : a ≠ 302 ∧ a ≠ 301) : SF a k = SP a k := by
  unfold SF
  rw [if_neg (by omega), if_neg (by omega)]
theorem EXF_o {a k : Int} (h : a ≠ 302 ∧ a ≠ 301) : EXF a k = EX a k := by
  unfold EXF
  rw [zup_n (by omega), zup_n (by omega), zup_n (by omega), zup_n (by omega), zup_n (by omega), zup_n (by omega)]
theorem EXF_SF (a k : Int) : (FX a k).getD (SF a k) = EXF a k := by
  by_cases e2_q : a = 302
  · subst e2_q
    have q : FX 302 k = none := (ar_302 (L := 0)).2 k
    have q2_q : EX 302 k = 0 := EX_ar (L := 0) ar_302 (by decide) k
    have q3_q : SP 302 k = 0 := SP_o (by decide)
    rw [q]
    show SF 302 k = _
    unfold EXF SF
    rw [zup_n (by omega), zup_n (by omega)]
    by_cases c3_q : k = 3
    · rw [c3_q, zup_s]; rfl
    rw [zup_n (by omega)]
    by_cases c2_q : k = 2
    · rw [c2_q, zup_s]; rfl
    rw [zup_n (by omega)]
    by_cases c1_q : k = 1
    · rw [c1_q, zup_s]; rfl
    rw [zup_n (by omega)]
    by_cases c0_q : k = 0
    · rw [c0_q, zup_s]; rfl
    rw [zup_n (by omega), if_neg (by omega), if_neg (by omega), q2_q, q3_q]
  · by_cases e1_q : a = 301
    · subst e1_q
      have q : FX 301 k = none := (ar_301 (L := 0)).2 k
      have q2_q : EX 301 k = 0 := EX_ar (L := 0) ar_301 (by decide) k
      have q3_q : SP 301 k = 0 := SP_o (by decide)
      rw [q]
      show SF 301 k = _
      unfold EXF SF
      by_cases c1_q : k = 1
      · rw [c1_q, zup_s]; rfl
      rw [zup_n (by omega)]
      by_cases c0_q : k = 0
      · rw [c0_q, zup_s]; rfl
      rw [zup_n (by omega), zup_n (by omega), zup_n (by omega), zup_n (by omega), zup_n (by omega), if_neg (by omega), if_neg (by omega), q2_q, q3_q]
    · rw [SF_n ⟨e2_q, e1_q⟩, EXF_o ⟨e2_q, e1_q⟩]
      rfl
theorem hR_sw {Γ : zv_M} {L : Int} {σ : zv_H} {c : Int → Int} {H : Heap} (hc : ∀ k, σ 0 k = c k) (hd : ∀ a, 1 ≤ a → a < 335 → Dn L EXF σ a) (hH : zv_hR Γ (GP L 335) σ H) : zv_hR Γ (GM L) (sF c) H := by
  obtain ⟨⟨h1_q, h2_q⟩, h3_q, h4_q⟩ := hH
  rw [GP_len (Nat.le_refl _)] at h1_q
  refine ⟨⟨by show _ = _ + (GS L).length; rw [GS_len]; exact h1_q, by show 0 < (GS L).length; rw [GS_len]; decide⟩, h3_q, fun a sh hs => ?_⟩
  have h0_q := (zv_sh0 hs).1
  have hlt : a < 335 := by
    cases a with
    | negSucc n => cases hs
    | ofNat n =>
      have hs : (GS L)[n]? = some sh := hs
      have q := (List.getElem?_eq_some_iff.mp hs).1
      rw [GS_len] at q
      show ((n : Nat) : Int) < 335
      omega
  have hp := h4_q a sh (GP_shp hs hlt)
  have val : ∀ k : Int, 0 ≤ k → k < szz sh → zv_val (GM L) (sF c) a k = zv_val (GP L 335) σ a k := fun k k0_q k1_q => by
    show (FX a k).getD (sF c a k) = σ a k
    by_cases e : a = 0
    · subst e
      have q : FX 0 k = none := (ar_0 (L := L)).2 k
      rw [q, hc]
      rfl
    · rw [sF_n e, EXF_SF]
      exact (hd a (by omega) hlt sh hs k k0_q k1_q).symm
  cases sh with
  | inl ci =>
    obtain ⟨r, V, q1_q, q2_q, q3_q⟩ := hp
    refine ⟨r, V, q1_q, q2_q, fun k hk => ?_⟩
    rw [val k (by omega) (by show (k : Int) < (((vwCl[ci]?).map (fun r => r.2.2)).getD 0 : Nat); rw [q1_q]; show (k : Int) < (r.2.2 : Nat); omega)]
    exact q3_q k hk
  | inr q =>
    obtain ⟨cell, q1_q, q2_q, q3_q, q4_q, q5_q, q6_q, q7_q⟩ := hp
    refine ⟨cell, q1_q, q2_q, q3_q, q4_q, q5_q, q6_q, fun j hj => ?_⟩
    rw [val j (by omega) hj]
    exact q7_q j hj
theorem zswitch {Γ : zv_M} {y : zv_Y} {f mc ms : Nat} {Q : zv_P} {u : Nat × Nat} {pc : Nat} {ls : List (Option zv_A)} {st : List zv_A} {σ : zv_H} {L : Int} {c : Int → Int} (hc : ∀ k, σ 0 k = c k) (hd : ∀ a, 1 ≤ a → a < 335 → Dn L EXF σ a) (kk : zV Γ y f mc ms Q (GM L) u pc ls st (sF c)) : zV Γ y f mc ms Q (GP L 335) u pc ls st σ := by
  intro hm he p l e s m args below meth cc X H locs lsA stV hH hL hl hs
  exact kk hm he p l e s m args below meth cc X H locs lsA stV (hR_sw hc hd hH) hL hl hs
/-- no war is told, nothing has been done -/
def W0 : zv_H := fun f i => if f = 0 ∧ i = 4 then 2 else 0
def S0 : zv_H := fun _ _ => 0
theorem sF_0 {c : Int → Int} {a k : Int} (h : a ≠ 0 ∧ a ≠ 302 ∧ a ≠ 301 ∧ a ≠ 54 ∧ a ≠ 1 ∧ a ≠ 4 ∧ a ≠ 17 ∧ a ≠ 52 ∧ a ≠ 58 ∧ a ≠ 289) : sF c a k = 0 := by
  rw [sF_n h.1, SF_n ⟨h.2.1, h.2.2.1⟩]
  exact SP_o ⟨h.2.2.2.1, h.2.2.2.2.1, h.2.2.2.2.2.1, h.2.2.2.2.2.2.1, h.2.2.2.2.2.2.2.1, h.2.2.2.2.2.2.2.2.1, h.2.2.2.2.2.2.2.2.2⟩
theorem vw_s0 {c : Int → Int} {a : Int} (h : a = 30 ∨ a = 41 ∨ (64 ≤ a ∧ a ≤ 273)) : vw 10 (sF c) a = S0 := by
  funext f i
  unfold vw S0
  by_cases e : f = 0
  · rw [if_pos e]
    exact sF_0 (by omega)
  · rw [if_neg e]
    by_cases e2_q : 1 ≤ f ∧ f ≤ 10
    · rw [if_pos e2_q]
      exact sF_0 (by omega)
    · rw [if_neg e2_q]
theorem vw_w0 {c : Int → Int} : vw 12 (sF c) 4 = W0 := by
  funext f i
  unfold vw W0
  by_cases e : f = 0
  · rw [if_pos e, sF_n (by decide), SF_n (by decide)]
    by_cases e3_q : i = 4
    · rw [if_pos ⟨e, e3_q⟩, e3_q]; rfl
    · rw [if_neg (by omega)]
      show (if i = 4 then (2 : Int) else 0) = 0
      rw [if_neg e3_q]
  · rw [if_neg e, if_neg (show ¬ (f = 0 ∧ i = 4) by omega)]
    by_cases e2_q : 1 ≤ f ∧ f ≤ 12
    · rw [if_pos e2_q]
      exact sF_0 (by omega)
    · rw [if_neg e2_q]
theorem SZ_s0 : SZ S0 := fun _ _ _ => rfl
theorem SI_s0 : SI 0 0 S0 := by
  unfold S0
  exact ⟨by decide, by decide, by decide, fun c h1_q h2_q => by omega, fun c h1_q h2_q => by omega, fun k _ _ => ⟨by show (0 : Int) ≤ 0; omega, Or.inl (by show (0 : Int) ≤ 2000; omega)⟩, fun k _ _ => ⟨by show (0 : Int) ≤ 0; omega, by show (0 : Int) ≤ 999999; omega⟩⟩
theorem WI_w0 : WI W0 := by
  have e1_q : W0 0 1 = 0 := rfl
  have e3_q : W0 0 3 = 0 := rfl
  refine ⟨by decide, by decide, by decide, by decide, by decide, fun c h1_q h2_q => by omega, fun c h1_q h2_q => by omega, ⟨by decide, by decide, fun h => absurd h (by decide)⟩, ⟨by decide, by decide, fun h => absurd h (by decide)⟩, fun f t h1_q h2_q => by omega⟩
theorem WT_w0 : WT W0 := fun f g t h => by
  have e1_q : W0 0 1 = 0 := rfl
  exfalso
  apply h
  unfold dstF
  rw [if_neg (by omega)]
theorem GI_0 {c : Int → Int} : GI c (sF c) := by
  have e1_q : W0 0 1 = 0 := rfl
  have e3_q : W0 0 3 = 0 := rfl
  have z : ∀ a k, (a = 2 ∨ a = 3 ∨ a = 62 ∨ (284 ≤ a ∧ a ≤ 288) ∨ (290 ≤ a ∧ a ≤ 300) ∨ 303 ≤ a) → sF c a k = 0 := fun a k h => sF_0 (by omega)
  have m : ∀ k, sF c 289 k = if k = 9 ∨ k = 11 ∨ k = 12 then -1 else if k = 32 ∨ k = 59 then 1 else 0 := fun k => rfl
  have n : ∀ k, sF c 1 k = if k = 8 then 4 else if k = 9 then 17 else if k = 10 then 1 else if k = 12 then -1 else 0 := fun k => rfl
  have i7_q : ∀ a, sF c 302 a = if 0 ≤ a ∧ a ≤ 3 then -1 else sF c 302 a := fun a => by
    by_cases q : 0 ≤ a ∧ a ≤ 3
    · rw [if_pos q, sF_n (by decide)]; exact if_pos ⟨rfl, q⟩
    · rw [if_neg q]
  refine ⟨4, 17, 0, 0, W0, S0, [], fun k => if_pos rfl, ⟨Or.inl ⟨rfl, rfl⟩, n 8, n 9⟩, ⟨vw_w0, vw_s0 (by omega)⟩, ⟨SI_s0, WI_w0, WT_w0, SZ_s0⟩, ⟨?_, fun k _ _ => ?_⟩, ⟨z 62 1 (by omega), by decide, ⟨z 62 2 (by omega), by decide⟩, fun j j1_q j2_q => ?_, fun j T hj => by cases hj⟩, ⟨by rw [z 2 1 (by omega)]; decide, by rw [z 2 1 (by omega)]; exact m 1, fun k k0_q k1_q => by rw [z 2 1 (by omega)] at k1_q; omega⟩, fun k _ _ => ?_, ⟨(m 10).trans (n 11).symm, (m 11).trans (n 12).symm⟩, ⟨(m 59).trans (n 10).symm, by rw [n 10]; decide⟩, ⟨(m 67).trans (n 15).symm, by rw [n 15]; decide, fun k k0_q k1_q => by rw [n 15] at k1_q; exact absurd k1_q (by have q : (if (15 : Int) = 8 then (4 : Int) else if (15 : Int) = 9 then 17 else if (15 : Int) = 10 then 1 else if (15 : Int) = 12 then -1 else 0) = 0 := rfl; omega)⟩, ⟨(m 71).trans (z 284 1 (by omega)).symm, by rw [z 284 1 (by omega)]; decide, fun k k0_q k1_q => by rw [z 284 1 (by omega)] at k1_q; omega⟩, fun k _ _ => by rw [z 314 k (by omega), z 288 k (by omega)], ⟨Or.inl rfl, ⟨?_, ?_, m 13, fun _ _ _ _ _ => rfl⟩, ⟨m 58, by decide⟩, by rw [m 57]; decide, fun j T hj => by cases hj⟩⟩
  · rw [vw_s0 (by omega)]; exact SZ_s0
  · rw [vw_s0 (by omega)]; unfold S0; decide
  · rw [vw_s0 (by unfold actn; omega)]; exact SZ_s0
  · rfl
  · refine ⟨⟨z 315 0 (by omega), z 325 0 (by omega)⟩, fun c h1_q h2_q => by omega, fun c h1_q h2_q => by omega, fun m c h1_q h2_q => by omega, fun k h1_q h2_q => ?_⟩
    have e : S0 0 12 = 0 := rfl
    omega
  · refine ⟨⟨z 291 0 (by omega), z 295 0 (by omega), z 298 0 (by omega), rfl⟩, fun c h1_q h2_q => by omega, fun c h1_q h2_q => by omega, fun f t h1_q h2_q => by omega, Or.inl ⟨by decide, ?_⟩, Or.inl ⟨by decide, ?_⟩⟩
    · rfl
    · rfl
