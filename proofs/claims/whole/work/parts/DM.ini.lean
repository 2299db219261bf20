/-! CONSTRUCTORS: the worlds on the way (the first n names), and what stands in the cells of those that are done -/
def SP (a k : Int) : Int := if a = 54 then ownR k else if a = 1 then (if k = 8 then 4 else if k = 9 then 17 else if k = 10 then 1 else if k = 12 then -1 else 0) else if a = 4 ∨ a = 17 then (if k = 4 then 2 else 0) else if a = 52 then (if k = 1 then 17 else if k = 2 then 25 else if k = 8 then -1 else 0) else if a = 58 then (if k = 6 then 4 else if k = 7 then 30 else 0) else if a = 289 then (if k = 9 ∨ k = 11 ∨ k = 12 then -1 else if k = 32 ∨ k = 59 then 1 else 0) else 0
def EX (a k : Int) : Int := (FX a k).getD (SP a k)
def GP (L : Int) (n : Nat) : zv_W := ((GS L).take n, fun _ _ => none)
set_option maxRecDepth 20000 in
theorem GS_len {L : Int} : (GS L).length = 335 := rfl
theorem GP_len {L : Int} {n : Nat} (h : n ≤ 335) : (GP L n).1.length = n := by
  show ((GS L).take n).length = n
  rw [List.length_take, GS_len]
  omega
theorem GP_push {L : Int} {n : Nat} {sh : zv_S} (h : (GS L)[n]? = some sh) : ((GP L n).1 ++ [sh], (GP L n).2) = GP L (n + 1) := by
  obtain ⟨hlt, e⟩ := List.getElem?_eq_some_iff.mp h
  show ((GS L).take n ++ [sh], (fun _ _ => none : Int → Int → Option Int)) = ((GS L).take (n + 1), fun _ _ => none)
  rw [List.take_succ, h]
  rfl
theorem GP_shp {L a : Int} {n : Nat} {sh : zv_S} (h : zv_sh (GM L) a = some sh) (ha : a < (n : Int)) : zv_sh (GP L n) a = some sh := by
  cases a with
  | negSucc m => cases h
  | ofNat m =>
    have h : (GS L)[m]? = some sh := h
    have ha : m < n := by
      have q : ((m : Nat) : Int) < n := ha
      omega
    show ((GS L).take n)[m]? = some sh
    rw [List.getElem?_take, if_pos ha]
    exact h
theorem GP_ob {L a : Int} {n ci : Nat} (h : zv_ob (GM L) a ci) (ha : a < (n : Int)) : zv_ob (GP L n) a ci := GP_shp h ha
theorem GP_ar {L a m : Int} {n : Nat} {ty : FieldType} (h : zv_ar (GM L) a ty m) (ha : a < (n : Int)) : zv_ar (GP L n) a ty m := ⟨GP_shp h.1 ha, fun _ => rfl⟩
def szz (sh : zv_S) : Int := match sh with
  | .inl ci => (((vwCl[ci]?).map (fun r => r.2.2)).getD 0 : Nat)
  | .inr q => q.2
/-- name a is done: its cells hold what E says -/
def Dn (L : Int) (E σ : zv_H) (a : Int) : Prop := ∀ sh, zv_sh (GM L) a = some sh → ∀ k : Int, 0 ≤ k → k < szz sh → σ a k = E a k
/-- within a constructor of the object B: names below n stand; B's own row is R -/
def CS (L : Int) (E : zv_H) (B n : Int) (R : Int → Int) (σ0 σ : zv_H) : Prop := (∀ a k, a < B → σ a k = σ0 a k) ∧ (∀ k, 0 ≤ k → σ B k = R k) ∧ ∀ a, B < a → a < n → Dn L E σ a
def rup (R : Int → Int) (k v : Int) : Int → Int := fun x => if x = k then v else R x
def zIn (L B : Int) (m : Nat) (σ : zv_H) : zv_P := fun r G' σ' => r = none ∧ G' = GP L m ∧ (∀ a k, a < B → σ' a k = σ a k) ∧ ∀ a, B ≤ a → a < (m : Int) → Dn L EX σ' a
theorem EX_f {L a k v : Int} (h : (GM L).2 a k = some v) : EX a k = v := by
  have h : FX a k = some v := h
  unfold EX
  rw [h]
  rfl
theorem EX_n {L a k : Int} (h : (GM L).2 a k = none) : EX a k = SP a k := by
  have h : FX a k = none := h
  unfold EX
  rw [h]
  rfl
theorem SP_o {a k : Int} (h : a ≠ 54 ∧ a ≠ 1 ∧ a ≠ 4 ∧ a ≠ 17 ∧ a ≠ 52 ∧ a ≠ 58 ∧ a ≠ 289) : SP a k = 0 := by
  unfold SP
  rw [if_neg h.1, if_neg h.2.1, if_neg (by omega), if_neg h.2.2.2.2.1, if_neg h.2.2.2.2.2.1, if_neg h.2.2.2.2.2.2]
theorem EX_ar {L a n : Int} {ty : FieldType} (h : zv_ar (GM L) a ty n) (h54_q : a ≠ 54) (k : Int) : EX a k = 0 := by
  rw [EX_n (h.2 k)]
  have q := h.1
  refine SP_o ⟨h54_q, ?_, ?_, ?_, ?_, ?_, ?_⟩ <;> intro e <;> rw [e] at q <;> cases q
theorem CS_0 {L : Int} {E : zv_H} {B : Int} {R : Int → Int} {σ : zv_H} {n : Int} (h : ∀ k, 0 ≤ k → σ B k = R k) (hn : n = B + 1) : CS L E B n R σ σ := ⟨fun _ _ _ => rfl, h, fun a h1_q h2_q => by omega⟩
theorem Dn_x {L : Int} {E σ σ' : zv_H} {a : Int} (h : Dn L E σ a) (e : ∀ k, σ' a k = σ a k) : Dn L E σ' a := fun sh hs k k0_q k1_q => by
  rw [e]
  exact h sh hs k k0_q k1_q
theorem Dn_E {L : Int} {E E' σ : zv_H} {a : Int} (h : Dn L E σ a) (e : ∀ k, E' a k = E a k) : Dn L E' σ a := fun sh hs k k0_q k1_q => by
  rw [e]
  exact h sh hs k k0_q k1_q
theorem CS_put {L : Int} {E : zv_H} {B n : Int} {R : Int → Int} {σ0 σ : zv_H} (h : CS L E B n R σ0 σ) (k v : Int) : CS L E B n (rup R k v) σ0 (zup σ B k v) := by
  refine ⟨fun a j h1_q => by rw [zup_n (by omega)]; exact h.1 a j h1_q, fun j h1_q => ?_, fun a h1_q h2_q => Dn_x (h.2.2 a h1_q h2_q) (fun j => zup_n (by omega))⟩
  unfold rup
  by_cases e : j = k
  · rw [if_pos e, e, zup_s]
  · rw [if_neg e, zup_n (by omega)]
    exact h.2.1 j h1_q
theorem CS_new {L : Int} {E : zv_H} {B n : Int} {R : Int → Int} {σ0 σ σ' : zv_H} (h : CS L E B n R σ0 σ) (hB : B < n) (e : ∀ a k, a < n → σ' a k = σ a k) : CS L E B n R σ0 σ' :=
  ⟨fun a j h1_q => (e a j (by omega)).trans (h.1 a j h1_q), fun j h1_q => (e B j (by omega)).trans (h.2.1 j h1_q), fun a h1_q h2_q => Dn_x (h.2.2 a h1_q h2_q) (fun j => e a j h2_q)⟩
theorem CS_sub {L : Int} {E : zv_H} {B n m : Int} {R : Int → Int} {σ0 σ : zv_H} (h : CS L E B n R σ0 σ) (d : ∀ a, n ≤ a → a < m → Dn L E σ a) : CS L E B m R σ0 σ :=
  ⟨h.1, h.2.1, fun a h1_q h2_q => by
    by_cases e : a < n
    · exact h.2.2 a h1_q e
    · exact d a (by omega) h2_q⟩
theorem CS_end {L : Int} {B n : Int} {R : Int → Int} {σ0 σ : zv_H} {ci : Nat} (h : CS L EX B n R σ0 σ) (hs : zv_ob (GM L) B ci) (hR : ∀ j : Nat, j < (((vwCl[ci]?).map (fun r => r.2.2)).getD 0 : Nat) → R j = EX B j) : (∀ a k, a < B → σ a k = σ0 a k) ∧ ∀ a, B ≤ a → a < n → Dn L EX σ a := by
  refine ⟨h.1, fun a h1_q h2_q => ?_⟩
  by_cases e : a = B
  · rw [e]
    intro sh hs2_q k k0_q k1_q
    have q := hs.symm.trans hs2_q
    cases q
    rw [h.2.1 k k0_q]
    have k1_q : k < (((vwCl[ci]?).map (fun r => r.2.2)).getD 0 : Nat) := k1_q
    have e1_q : ((k.toNat : Nat) : Int) = k := by omega
    rw [← e1_q]
    exact hR k.toNat (by omega)
  · exact h.2.2 a (by omega) h2_q
section QINI
variable {Γ : zv_M} {y : zv_Y} {f mc ms : Nat} {Q : zv_P} {u u' : Nat × Nat} {pc pc' k : Nat} {ls : List (Option zv_A)} {st : List zv_A} {σ σ0 E : zv_H} {L B a : Int} {n : Nat} {R : Int → Int}
theorem qarr {at_ : ArrayType} {ty : FieldType} {len : Int} (hd : y.2.2.2.2[k]? = some (pc, .newarray at_, 2, pc')) (hty : newarray.typeOf at_ = ty) (htk : ty = .int ∨ ty = .boolean ∨ ty = .long) (hn : 0 ≤ len ∧ len ≤ 60000000) (har : zv_ar (GM L) a ty len) (ha : a = (n : Int)) (hE : ∀ k, E a k = 0) (hl1_q : Cond.arrayClass ty ∈ lw_tbl) (hu1_q : u.1 + 1 ≤ mc) (hu2_q : u.2 + len.toNat ≤ ms) (hu : (u.1 + 1, u.2 + len.toNat) = u') (h : CS L E B n R σ0 σ) (hB : B < (n : Int))
    (kk : ∀ σ1, CS L E B (n + 1 : Nat) R σ0 σ1 → zV Γ y f mc ms Q (GP L (n + 1)) u' pc' ls (zR a :: st) σ1) : zV Γ y f mc ms Q (GP L n) u pc ls (zI len :: st) σ := by
  subst ha
  have hs : (GS L)[n]? = some (.inr (ty, len)) := har.1
  have hlt := (List.getElem?_eq_some_iff.mp hs).1
  rw [GS_len] at hlt
  refine znewarr hd hty htk hn (fun _ => rfl) hl1_q hu1_q hu2_q ?_
  rw [GP_len (by omega), GP_push hs, hu]
  refine kk _ ?_
  have h2_q : CS L E B n R σ0 (znw σ n (fun _ => 0)) := CS_new h hB (fun a j q => znw_n (by omega))
  refine CS_sub h2_q (fun a q1_q q2_q => ?_)
  have e : a = (n : Int) := by omega
  rw [e]
  intro sh hs2_q j j0_q j1_q
  rw [znw_s, hE]
theorem qnew {idx ci : Nat} {C : String} {T : u_T} {N : Nat} (hd : y.2.2.2.2[k]? = some (pc, .new idx, 3, pc')) (hc : vwCl[ci]? = some (C, T, N)) (hin : ∀ w ∈ u_ws C T N, w ∈ lw_tbl) (hpt : ∀ k, k < N → parseFieldDescriptor (T k).2.2.1 = some (zv_ty ci k)) (hdf : ∀ j, j < N → zv_kd (zv_ty ci j)) (hob : zv_ob (GM L) a ci) (ha : a = (n : Int))
    (hl1_q : Cond.classLink y.1.cls idx C ∈ lw_tbl) (hl2_q : Cond.instantiable C N ∈ lw_tbl) (hl3_q : Cond.initialized C ∈ lw_tbl) (hr1_q : u.1 + 1 ≤ mc) (hr2_q : u.2 + N ≤ ms) (hu : (u.1 + 1, u.2 + N) = u') (h : CS L E B n R σ0 σ) (hB : B < (n : Int))
    (kk : ∀ σ1, CS L E B n R σ0 σ1 → (∀ j, 0 ≤ j → σ1 a j = zdf ci j) → (∀ x j, x < a → σ1 x j = σ x j) → zV Γ y f mc ms Q (GP L (n + 1)) u' pc' ls (zR a :: st) σ1) : zV Γ y f mc ms Q (GP L n) u pc ls st σ := by
  subst ha
  have hs : (GS L)[n]? = some (.inl ci) := hob
  have hlt := (List.getElem?_eq_some_iff.mp hs).1
  rw [GS_len] at hlt
  refine znewobj hd hc hin hpt hdf (fun _ => rfl) hl1_q hl2_q hl3_q hr1_q hr2_q ?_
  rw [GP_len (by omega), GP_push hs, hu]
  exact kk _ (CS_new h hB (fun a j q => znw_n (by omega))) (fun j _ => znw_s _ _ _ _) (fun x j q => znw_n (by omega))
theorem qput {idx ci : Nat} {q : zv_A} {b : Bool} (kf : Nat) (hd : y.2.2.2.2[k]? = some (pc, .putfield idx, 3, pc')) (hob : zv_ob (GM L) B ci) (hB : 0 < B ∧ B < (n : Int)) (hF : zv_fl y.1.cls idx ci kf q.1) (hnf : zv_nf ci kf b) (hkd : zv_kd (zv_ty ci kf)) (hok : zv_ok (zv_ty ci kf) q.2) (hin : y.1.name = "<init>") (hcl : ∃ r : vw_C, vwCl[ci]? = some r ∧ r.1 = y.1.cls) {n' : Int} (h : CS L E B n' R σ0 σ)
    (kk : ∀ σ1, CS L E B n' (rup R kf q.2) σ0 σ1 → zV Γ y f mc ms Q (GP L n) u pc' ls st σ1) : zV Γ y f mc ms Q (GP L n) u pc ls (q :: zR B :: st) σ := by
  cases b with
  | false => exact zputfield hd (GP_ob hob hB.2) hF hnf hkd hok hB.1 rfl (kk _ (CS_put h _ _))
  | true => exact zputF hd (GP_ob hob hB.2) hF hnf hkd hok hin hcl hB.1 rfl (kk _ (CS_put h _ _))
theorem qinit {y' : zv_Y} {f' mc' ms' idx na m : Nat} {as rest : List zv_A} (hd : y.2.2.2.2[k]? = some (pc, .invokespecial idx, 3, pc')) (hC : zC Γ y' f' mc' ms' (GP L (n + 1)) (zR a :: as) σ (zIn L a m σ)) (hM : zv_mC y' na) (hk : zv_lk y.1.cls idx y') (hst : st = as.reverse ++ zR a :: rest) (hn : as.length = na) (hz : zcat rest ≤ 8) (hf : f' + 1 ≤ f) (hmc : u.1 + mc' ≤ mc) (hms : u.2 + ms' ≤ ms) (hu : (u.1 + mc', u.2 + ms') = u') (ha : a = (n : Int)) (h : CS L E B n R σ0 σ) (hB : B < (n : Int)) (hE : ∀ x, a ≤ x → x < (m : Int) → ∀ j, E x j = EX x j)
    (kk : ∀ σ1, CS L E B m R σ0 σ1 → zV Γ y f mc ms Q (GP L m) u' pc' ls rest σ1) : zV Γ y f mc ms Q (GP L (n + 1)) u pc ls st σ := by
  subst ha
  refine zcallI hd hC hM hk hst hn (by omega) hz hf hmc hms (fun r G' σ' q => ?_)
  obtain ⟨rfl, rfl, q1_q, q2_q⟩ := q
  rw [hu]
  exact kk σ' (CS_sub (CS_new h hB q1_q) (fun x x1_q x2_q => Dn_E (q2_q x x1_q x2_q) (hE x x1_q x2_q)))
theorem qgetR {idx ci kf : Nat} {z : Int} (hd : y.2.2.2.2[k]? = some (pc, .getfield idx, 3, pc')) (hob : zv_ob (GM L) a ci) (ha : a < (n : Int)) (hF : zv_fl y.1.cls idx ci kf 2) (hz : σ a kf = z) (kk : zV Γ y f mc ms Q (GP L n) u pc' ls (zR z :: st) σ) : zV Γ y f mc ms Q (GP L n) u pc ls (zR a :: st) σ := by
  subst hz
  exact zgetfield hd (GP_ob hob ha) hF kk
end QINI
theorem st_rg {N : Int} (h : N ∈ stL) : N = 30 ∨ N = 41 ∨ (64 ≤ N ∧ N ≤ 273) := by
  have q : ∀ N ∈ stL, N = 30 ∨ N = 41 ∨ (64 ≤ N ∧ N ≤ 273) := by decide
  exact q N h

/-! what kind the fields are of -/
theorem kd_X0 : ∀ j, j < 3 → zv_kd (zv_ty 0 j) := by
  intro j hj
  match j, hj with
  | 0, _ => exact Or.inr (Or.inr (Or.inr (Or.inr ⟨_, rfl⟩)))
  | 1, _ => exact Or.inl rfl
  | 2, _ => exact Or.inl rfl
  | j + 3, h => exact absurd h (by omega)
theorem kd_X1 : ∀ j, j < 2 → zv_kd (zv_ty 1 j) := by
  intro j hj
  match j, hj with
  | 0, _ => exact Or.inr (Or.inr (Or.inr (Or.inr ⟨_, rfl⟩)))
  | 1, _ => exact Or.inl rfl
  | j + 2, h => exact absurd h (by omega)
theorem kd_X2 : ∀ j, j < 5 → zv_kd (zv_ty 2 j) := by
  intro j hj
  match j, hj with
  | 0, _ => exact Or.inr (Or.inr (Or.inr (Or.inr ⟨_, rfl⟩)))
  | 1, _ => exact Or.inl rfl
  | 2, _ => exact Or.inr (Or.inr (Or.inr (Or.inl ⟨_, rfl⟩)))
  | 3, _ => exact Or.inl rfl
  | 4, _ => exact Or.inr (Or.inl rfl)
  | j + 5, h => exact absurd h (by omega)
theorem kd_X3 : ∀ j, j < 1 → zv_kd (zv_ty 3 j) := by
  intro j hj
  match j, hj with
  | 0, _ => exact Or.inr (Or.inr (Or.inr (Or.inl ⟨_, rfl⟩)))
  | j + 1, h => exact absurd h (by omega)
theorem kd_X4 : ∀ j, j < 9 → zv_kd (zv_ty 4 j) := by
  intro j hj
  match j, hj with
  | 0, _ => exact Or.inr (Or.inr (Or.inr (Or.inl ⟨_, rfl⟩)))
  | 1, _ => exact Or.inr (Or.inr (Or.inr (Or.inl ⟨_, rfl⟩)))
  | 2, _ => exact Or.inr (Or.inr (Or.inr (Or.inl ⟨_, rfl⟩)))
  | 3, _ => exact Or.inr (Or.inl rfl)
  | 4, _ => exact Or.inl rfl
  | 5, _ => exact Or.inl rfl
  | 6, _ => exact Or.inl rfl
  | 7, _ => exact Or.inl rfl
  | 8, _ => exact Or.inl rfl
  | j + 9, h => exact absurd h (by omega)
theorem kd_X5 : ∀ j, j < 9 → zv_kd (zv_ty 5 j) := by
  intro j hj
  match j, hj with
  | 0, _ => exact Or.inr (Or.inr (Or.inr (Or.inr ⟨_, rfl⟩)))
  | 1, _ => exact Or.inl rfl
  | 2, _ => exact Or.inl rfl
  | 3, _ => exact Or.inl rfl
  | 4, _ => exact Or.inl rfl
  | 5, _ => exact Or.inl rfl
  | 6, _ => exact Or.inl rfl
  | 7, _ => exact Or.inl rfl
  | 8, _ => exact Or.inl rfl
  | j + 9, h => exact absurd h (by omega)
theorem kd_X6 : ∀ j, j < 9 → zv_kd (zv_ty 6 j) := by
  intro j hj
  match j, hj with
  | 0, _ => exact Or.inr (Or.inr (Or.inr (Or.inr ⟨_, rfl⟩)))
  | 1, _ => exact Or.inl rfl
  | 2, _ => exact Or.inl rfl
  | 3, _ => exact Or.inl rfl
  | 4, _ => exact Or.inr (Or.inr (Or.inr (Or.inr ⟨_, rfl⟩)))
  | 5, _ => exact Or.inr (Or.inr (Or.inr (Or.inr ⟨_, rfl⟩)))
  | 6, _ => exact Or.inr (Or.inr (Or.inr (Or.inl ⟨_, rfl⟩)))
  | 7, _ => exact Or.inr (Or.inr (Or.inr (Or.inl ⟨_, rfl⟩)))
  | 8, _ => exact Or.inl rfl
  | j + 9, h => exact absurd h (by omega)
theorem kd_X7 : ∀ j, j < 9 → zv_kd (zv_ty 7 j) := by
  intro j hj
  match j, hj with
  | 0, _ => exact Or.inr (Or.inr (Or.inr (Or.inl ⟨_, rfl⟩)))
  | 1, _ => exact Or.inr (Or.inr (Or.inr (Or.inr ⟨_, rfl⟩)))
  | 2, _ => exact Or.inl rfl
  | 3, _ => exact Or.inl rfl
  | 4, _ => exact Or.inl rfl
  | 5, _ => exact Or.inl rfl
  | 6, _ => exact Or.inl rfl
  | 7, _ => exact Or.inl rfl
  | 8, _ => exact Or.inl rfl
  | j + 9, h => exact absurd h (by omega)
theorem kd_X8 : ∀ j, j < 13 → zv_kd (zv_ty 8 j) := by
  intro j hj
  match j, hj with
  | 0, _ => exact Or.inl rfl
  | 1, _ => exact Or.inr (Or.inr (Or.inr (Or.inr ⟨_, rfl⟩)))
  | 2, _ => exact Or.inr (Or.inr (Or.inr (Or.inr ⟨_, rfl⟩)))
  | 3, _ => exact Or.inr (Or.inr (Or.inr (Or.inr ⟨_, rfl⟩)))
  | 4, _ => exact Or.inr (Or.inr (Or.inr (Or.inr ⟨_, rfl⟩)))
  | 5, _ => exact Or.inr (Or.inr (Or.inr (Or.inr ⟨_, rfl⟩)))
  | 6, _ => exact Or.inr (Or.inr (Or.inr (Or.inr ⟨_, rfl⟩)))
  | 7, _ => exact Or.inr (Or.inr (Or.inr (Or.inr ⟨_, rfl⟩)))
  | 8, _ => exact Or.inr (Or.inr (Or.inr (Or.inr ⟨_, rfl⟩)))
  | 9, _ => exact Or.inr (Or.inr (Or.inr (Or.inr ⟨_, rfl⟩)))
  | 10, _ => exact Or.inr (Or.inr (Or.inr (Or.inr ⟨_, rfl⟩)))
  | 11, _ => exact Or.inl rfl
  | 12, _ => exact Or.inl rfl
  | j + 13, h => exact absurd h (by omega)
theorem kd_X9 : ∀ j, j < 2 → zv_kd (zv_ty 9 j) := by
  intro j hj
  match j, hj with
  | 0, _ => exact Or.inr (Or.inr (Or.inr (Or.inr ⟨_, rfl⟩)))
  | 1, _ => exact Or.inl rfl
  | j + 2, h => exact absurd h (by omega)
theorem kd_X10 : ∀ j, j < 15 → zv_kd (zv_ty 10 j) := by
  intro j hj
  match j, hj with
  | 0, _ => exact Or.inl rfl
  | 1, _ => exact Or.inl rfl
  | 2, _ => exact Or.inl rfl
  | 3, _ => exact Or.inl rfl
  | 4, _ => exact Or.inl rfl
  | 5, _ => exact Or.inr (Or.inr (Or.inr (Or.inr ⟨_, rfl⟩)))
  | 6, _ => exact Or.inr (Or.inr (Or.inr (Or.inr ⟨_, rfl⟩)))
  | 7, _ => exact Or.inr (Or.inr (Or.inr (Or.inr ⟨_, rfl⟩)))
  | 8, _ => exact Or.inr (Or.inr (Or.inr (Or.inr ⟨_, rfl⟩)))
  | 9, _ => exact Or.inr (Or.inr (Or.inr (Or.inr ⟨_, rfl⟩)))
  | 10, _ => exact Or.inr (Or.inr (Or.inr (Or.inr ⟨_, rfl⟩)))
  | 11, _ => exact Or.inr (Or.inr (Or.inr (Or.inr ⟨_, rfl⟩)))
  | 12, _ => exact Or.inr (Or.inr (Or.inr (Or.inl ⟨_, rfl⟩)))
  | 13, _ => exact Or.inr (Or.inr (Or.inr (Or.inl ⟨_, rfl⟩)))
  | 14, _ => exact Or.inr (Or.inr (Or.inr (Or.inr ⟨_, rfl⟩)))
  | j + 15, h => exact absurd h (by omega)
theorem kd_X11 : ∀ j, j < 17 → zv_kd (zv_ty 11 j) := by
  intro j hj
  match j, hj with
  | 0, _ => exact Or.inr (Or.inr (Or.inr (Or.inl ⟨_, rfl⟩)))
  | 1, _ => exact Or.inr (Or.inr (Or.inr (Or.inl ⟨_, rfl⟩)))
  | 2, _ => exact Or.inr (Or.inr (Or.inr (Or.inl ⟨_, rfl⟩)))
  | 3, _ => exact Or.inr (Or.inr (Or.inr (Or.inl ⟨_, rfl⟩)))
  | 4, _ => exact Or.inr (Or.inr (Or.inr (Or.inl ⟨_, rfl⟩)))
  | 5, _ => exact Or.inr (Or.inr (Or.inr (Or.inl ⟨_, rfl⟩)))
  | 6, _ => exact Or.inr (Or.inr (Or.inr (Or.inl ⟨_, rfl⟩)))
  | 7, _ => exact Or.inr (Or.inr (Or.inr (Or.inl ⟨_, rfl⟩)))
  | 8, _ => exact Or.inr (Or.inr (Or.inr (Or.inl ⟨_, rfl⟩)))
  | 9, _ => exact Or.inr (Or.inr (Or.inr (Or.inl ⟨_, rfl⟩)))
  | 10, _ => exact Or.inl rfl
  | 11, _ => exact Or.inl rfl
  | 12, _ => exact Or.inl rfl
  | 13, _ => exact Or.inr (Or.inr (Or.inr (Or.inr ⟨_, rfl⟩)))
  | 14, _ => exact Or.inr (Or.inr (Or.inr (Or.inr ⟨_, rfl⟩)))
  | 15, _ => exact Or.inl rfl
  | 16, _ => exact Or.inr (Or.inr (Or.inr (Or.inr ⟨_, rfl⟩)))
  | j + 17, h => exact absurd h (by omega)
theorem kd_X12 : ∀ j, j < 72 → zv_kd (zv_ty 12 j) := by
  intro j hj
  match j, hj with
  | 0, _ => exact Or.inr (Or.inr (Or.inr (Or.inr ⟨_, rfl⟩)))
  | 1, _ => exact Or.inl rfl
  | 2, _ => exact Or.inl rfl
  | 3, _ => exact Or.inl rfl
  | 4, _ => exact Or.inl rfl
  | 5, _ => exact Or.inl rfl
  | 6, _ => exact Or.inl rfl
  | 7, _ => exact Or.inr (Or.inr (Or.inl rfl))
  | 8, _ => exact Or.inl rfl
  | 9, _ => exact Or.inl rfl
  | 10, _ => exact Or.inl rfl
  | 11, _ => exact Or.inl rfl
  | 12, _ => exact Or.inl rfl
  | 13, _ => exact Or.inl rfl
  | 14, _ => exact Or.inr (Or.inr (Or.inr (Or.inr ⟨_, rfl⟩)))
  | 15, _ => exact Or.inr (Or.inr (Or.inr (Or.inr ⟨_, rfl⟩)))
  | 16, _ => exact Or.inr (Or.inr (Or.inr (Or.inr ⟨_, rfl⟩)))
  | 17, _ => exact Or.inr (Or.inr (Or.inr (Or.inr ⟨_, rfl⟩)))
  | 18, _ => exact Or.inr (Or.inr (Or.inr (Or.inr ⟨_, rfl⟩)))
  | 19, _ => exact Or.inr (Or.inr (Or.inr (Or.inr ⟨_, rfl⟩)))
  | 20, _ => exact Or.inr (Or.inr (Or.inr (Or.inr ⟨_, rfl⟩)))
  | 21, _ => exact Or.inr (Or.inr (Or.inr (Or.inr ⟨_, rfl⟩)))
  | 22, _ => exact Or.inr (Or.inr (Or.inr (Or.inr ⟨_, rfl⟩)))
  | 23, _ => exact Or.inr (Or.inr (Or.inr (Or.inr ⟨_, rfl⟩)))
  | 24, _ => exact Or.inr (Or.inr (Or.inr (Or.inr ⟨_, rfl⟩)))
  | 25, _ => exact Or.inr (Or.inr (Or.inr (Or.inr ⟨_, rfl⟩)))
  | 26, _ => exact Or.inr (Or.inr (Or.inr (Or.inr ⟨_, rfl⟩)))
  | 27, _ => exact Or.inr (Or.inr (Or.inr (Or.inr ⟨_, rfl⟩)))
  | 28, _ => exact Or.inr (Or.inr (Or.inr (Or.inr ⟨_, rfl⟩)))
  | 29, _ => exact Or.inr (Or.inr (Or.inr (Or.inr ⟨_, rfl⟩)))
  | 30, _ => exact Or.inr (Or.inr (Or.inr (Or.inr ⟨_, rfl⟩)))
  | 31, _ => exact Or.inl rfl
  | 32, _ => exact Or.inl rfl
  | 33, _ => exact Or.inr (Or.inl rfl)
  | 34, _ => exact Or.inr (Or.inr (Or.inr (Or.inr ⟨_, rfl⟩)))
  | 35, _ => exact Or.inr (Or.inr (Or.inr (Or.inr ⟨_, rfl⟩)))
  | 36, _ => exact Or.inr (Or.inr (Or.inr (Or.inr ⟨_, rfl⟩)))
  | 37, _ => exact Or.inr (Or.inr (Or.inr (Or.inr ⟨_, rfl⟩)))
  | 38, _ => exact Or.inr (Or.inr (Or.inr (Or.inr ⟨_, rfl⟩)))
  | 39, _ => exact Or.inl rfl
  | 40, _ => exact Or.inl rfl
  | 41, _ => exact Or.inr (Or.inr (Or.inr (Or.inr ⟨_, rfl⟩)))
  | 42, _ => exact Or.inl rfl
  | 43, _ => exact Or.inr (Or.inl rfl)
  | 44, _ => exact Or.inr (Or.inr (Or.inr (Or.inr ⟨_, rfl⟩)))
  | 45, _ => exact Or.inr (Or.inr (Or.inr (Or.inr ⟨_, rfl⟩)))
  | 46, _ => exact Or.inr (Or.inr (Or.inr (Or.inr ⟨_, rfl⟩)))
  | 47, _ => exact Or.inr (Or.inr (Or.inr (Or.inr ⟨_, rfl⟩)))
  | 48, _ => exact Or.inr (Or.inr (Or.inr (Or.inr ⟨_, rfl⟩)))
  | 49, _ => exact Or.inr (Or.inr (Or.inr (Or.inr ⟨_, rfl⟩)))
  | 50, _ => exact Or.inr (Or.inr (Or.inr (Or.inr ⟨_, rfl⟩)))
  | 51, _ => exact Or.inr (Or.inr (Or.inr (Or.inr ⟨_, rfl⟩)))
  | 52, _ => exact Or.inr (Or.inr (Or.inr (Or.inr ⟨_, rfl⟩)))
  | 53, _ => exact Or.inr (Or.inr (Or.inr (Or.inr ⟨_, rfl⟩)))
  | 54, _ => exact Or.inr (Or.inr (Or.inr (Or.inr ⟨_, rfl⟩)))
  | 55, _ => exact Or.inr (Or.inr (Or.inr (Or.inr ⟨_, rfl⟩)))
  | 56, _ => exact Or.inr (Or.inr (Or.inr (Or.inr ⟨_, rfl⟩)))
  | 57, _ => exact Or.inl rfl
  | 58, _ => exact Or.inl rfl
  | 59, _ => exact Or.inr (Or.inr (Or.inl rfl))
  | 60, _ => exact Or.inr (Or.inr (Or.inr (Or.inr ⟨_, rfl⟩)))
  | 61, _ => exact Or.inr (Or.inr (Or.inr (Or.inr ⟨_, rfl⟩)))
  | 62, _ => exact Or.inl rfl
  | 63, _ => exact Or.inr (Or.inr (Or.inr (Or.inr ⟨_, rfl⟩)))
  | 64, _ => exact Or.inr (Or.inr (Or.inr (Or.inr ⟨_, rfl⟩)))
  | 65, _ => exact Or.inr (Or.inr (Or.inr (Or.inr ⟨_, rfl⟩)))
  | 66, _ => exact Or.inl rfl
  | 67, _ => exact Or.inl rfl
  | 68, _ => exact Or.inr (Or.inr (Or.inr (Or.inr ⟨_, rfl⟩)))
  | 69, _ => exact Or.inr (Or.inr (Or.inr (Or.inr ⟨_, rfl⟩)))
  | 70, _ => exact Or.inr (Or.inr (Or.inr (Or.inr ⟨_, rfl⟩)))
  | 71, _ => exact Or.inl rfl
  | j + 72, h => exact absurd h (by omega)
/-! the constructors -/
theorem st_rup {N : Int} (hm : N ∈ stL) : ∀ j : Nat, j < 13 → (rup (rup (rup (rup (rup (rup (rup (rup (rup (rup (zdf 8) 1 (N + 1)) 2 (N + 2)) 3 (N + 3)) 4 (N + 4)) 5 (N + 5)) 6 (N + 6)) 7 (N + 7)) 8 (N + 8)) 9 (N + 9)) 10 (N + 10)) j = EX N j := by
  have q : ∀ N ∈ stL, ∀ j : Nat, j < 13 → (rup (rup (rup (rup (rup (rup (rup (rup (rup (rup (zdf 8) 1 (N + 1)) 2 (N + 2)) 3 (N + 3)) 4 (N + 4)) 5 (N + 5)) 6 (N + 6)) 7 (N + 7)) 8 (N + 8)) 9 (N + 9)) 10 (N + 10)) j = EX N j := by decide +kernel
  exact q N hm
set_option maxHeartbeats 4000000 in
set_option maxRecDepth 20000 in
theorem i_State {Γ : zv_M} {L : Int} {σ : zv_H} {n : Nat} {N : Int} (hN : N = (n : Int)) (hm : N ∈ stL) (h00_q : ∀ k, 0 ≤ k → σ N k = zdf 8 k) : zC Γ m_State_init 1 10 153 (GP L (n + 1)) [zR N] σ (zIn L N (n + 11) σ) := by
  refine zC_of (ls0 := [_]) zm_State_init (by decide) rfl (Nat.le_of_ble_eq_true rfl) ?_
  have h0_q : CS L EX N ((n + 1 : Nat) : Int) (zdf 8) σ σ := CS_0 h00_q (by omega)
  have hp := st_rg hm
  refine zaload_n (k := 0) rfl rfl ?_
  refine zobjInit (k := 1) rfl (tin1 153 (by decide +kernel)) (tin1 26 (by decide +kernel)) (tin1 27 (by decide +kernel)) (by omega) rfl (Nat.le_of_ble_eq_true rfl) ?_
  refine zaload_n (k := 2) rfl rfl ?_
  refine zbipush (k := 3) rfl rfl ?_
  refine qarr (k := 4) (n := n + 1) (u' := (1, 7)) rfl rfl (Or.inl rfl) (by decide) (st_ar_1 hm) (by omega) (EX_ar (L := L) (st_ar_1 hm) (by have := st_rg hm; omega)) (tin1 43 (by decide +kernel)) (Nat.le_of_ble_eq_true rfl) (Nat.le_of_ble_eq_true rfl) rfl h0_q (by omega) (fun s1_q g1_q => ?_)
  refine qput 1 (k := 5)  rfl (st_ob hm) ⟨by have := st_rg hm; omega, by omega⟩ fl_8_9 ⟨_, rfl, rfl⟩ (Or.inr (Or.inr (Or.inr (Or.inr ⟨_, rfl⟩)))) True.intro rfl ⟨_, rfl, rfl⟩ g1_q (fun s2_q g2_q => ?_)
  refine zaload_n (k := 6) rfl rfl ?_
  refine zbipush (k := 7) rfl rfl ?_
  refine qarr (k := 8) (n := n + 2) (u' := (2, 14)) rfl rfl (Or.inl rfl) (by decide) (st_ar_2 hm) (by omega) (EX_ar (L := L) (st_ar_2 hm) (by have := st_rg hm; omega)) (tin1 43 (by decide +kernel)) (Nat.le_of_ble_eq_true rfl) (Nat.le_of_ble_eq_true rfl) rfl g2_q (by omega) (fun s3_q g3_q => ?_)
  refine qput 2 (k := 9)  rfl (st_ob hm) ⟨by have := st_rg hm; omega, by omega⟩ fl_8_15 ⟨_, rfl, rfl⟩ (Or.inr (Or.inr (Or.inr (Or.inr ⟨_, rfl⟩)))) True.intro rfl ⟨_, rfl, rfl⟩ g3_q (fun s4_q g4_q => ?_)
  refine zaload_n (k := 10) rfl rfl ?_
  refine zbipush (k := 11) rfl rfl ?_
  refine qarr (k := 12) (n := n + 3) (u' := (3, 21)) rfl rfl (Or.inl rfl) (by decide) (st_ar_3 hm) (by omega) (EX_ar (L := L) (st_ar_3 hm) (by have := st_rg hm; omega)) (tin1 43 (by decide +kernel)) (Nat.le_of_ble_eq_true rfl) (Nat.le_of_ble_eq_true rfl) rfl g4_q (by omega) (fun s5_q g5_q => ?_)
  refine qput 3 (k := 13)  rfl (st_ob hm) ⟨by have := st_rg hm; omega, by omega⟩ fl_8_18 ⟨_, rfl, rfl⟩ (Or.inr (Or.inr (Or.inr (Or.inr ⟨_, rfl⟩)))) True.intro rfl ⟨_, rfl, rfl⟩ g5_q (fun s6_q g6_q => ?_)
  refine zaload_n (k := 14) rfl rfl ?_
  refine zbipush (k := 15) rfl rfl ?_
  refine qarr (k := 16) (n := n + 4) (u' := (4, 27)) rfl rfl (Or.inl rfl) (by decide) (st_ar_4 hm) (by omega) (EX_ar (L := L) (st_ar_4 hm) (by have := st_rg hm; omega)) (tin1 43 (by decide +kernel)) (Nat.le_of_ble_eq_true rfl) (Nat.le_of_ble_eq_true rfl) rfl g6_q (by omega) (fun s7_q g7_q => ?_)
  refine qput 4 (k := 17)  rfl (st_ob hm) ⟨by have := st_rg hm; omega, by omega⟩ fl_8_21 ⟨_, rfl, rfl⟩ (Or.inr (Or.inr (Or.inr (Or.inr ⟨_, rfl⟩)))) True.intro rfl ⟨_, rfl, rfl⟩ g7_q (fun s8_q g8_q => ?_)
  refine zaload_n (k := 18) rfl rfl ?_
  refine zbipush (k := 19) rfl rfl ?_
  refine qarr (k := 20) (n := n + 5) (u' := (5, 33)) rfl rfl (Or.inl rfl) (by decide) (st_ar_5 hm) (by omega) (EX_ar (L := L) (st_ar_5 hm) (by have := st_rg hm; omega)) (tin1 43 (by decide +kernel)) (Nat.le_of_ble_eq_true rfl) (Nat.le_of_ble_eq_true rfl) rfl g8_q (by omega) (fun s9_q g9_q => ?_)
  refine qput 5 (k := 21)  rfl (st_ob hm) ⟨by have := st_rg hm; omega, by omega⟩ fl_8_24 ⟨_, rfl, rfl⟩ (Or.inr (Or.inr (Or.inr (Or.inr ⟨_, rfl⟩)))) True.intro rfl ⟨_, rfl, rfl⟩ g9_q (fun s10_q g10_q => ?_)
  refine zaload_n (k := 22) rfl rfl ?_
  refine zbipush (k := 23) rfl rfl ?_
  refine qarr (k := 24) (n := n + 6) (u' := (6, 39)) rfl rfl (Or.inl rfl) (by decide) (st_ar_6 hm) (by omega) (EX_ar (L := L) (st_ar_6 hm) (by have := st_rg hm; omega)) (tin1 43 (by decide +kernel)) (Nat.le_of_ble_eq_true rfl) (Nat.le_of_ble_eq_true rfl) rfl g10_q (by omega) (fun s11_q g11_q => ?_)
  refine qput 6 (k := 25)  rfl (st_ob hm) ⟨by have := st_rg hm; omega, by omega⟩ fl_8_27 ⟨_, rfl, rfl⟩ (Or.inr (Or.inr (Or.inr (Or.inr ⟨_, rfl⟩)))) True.intro rfl ⟨_, rfl, rfl⟩ g11_q (fun s12_q g12_q => ?_)
  refine zaload_n (k := 26) rfl rfl ?_
  refine zbipush (k := 27) rfl rfl ?_
  refine qarr (k := 28) (n := n + 7) (u' := (7, 45)) rfl rfl (Or.inl rfl) (by decide) (st_ar_7 hm) (by omega) (EX_ar (L := L) (st_ar_7 hm) (by have := st_rg hm; omega)) (tin1 43 (by decide +kernel)) (Nat.le_of_ble_eq_true rfl) (Nat.le_of_ble_eq_true rfl) rfl g12_q (by omega) (fun s13_q g13_q => ?_)
  refine qput 7 (k := 29)  rfl (st_ob hm) ⟨by have := st_rg hm; omega, by omega⟩ fl_8_30 ⟨_, rfl, rfl⟩ (Or.inr (Or.inr (Or.inr (Or.inr ⟨_, rfl⟩)))) True.intro rfl ⟨_, rfl, rfl⟩ g13_q (fun s14_q g14_q => ?_)
  refine zaload_n (k := 30) rfl rfl ?_
  refine zbipush (k := 31) rfl rfl ?_
  refine qarr (k := 32) (n := n + 8) (u' := (8, 51)) rfl rfl (Or.inl rfl) (by decide) (st_ar_8 hm) (by omega) (EX_ar (L := L) (st_ar_8 hm) (by have := st_rg hm; omega)) (tin1 43 (by decide +kernel)) (Nat.le_of_ble_eq_true rfl) (Nat.le_of_ble_eq_true rfl) rfl g14_q (by omega) (fun s15_q g15_q => ?_)
  refine qput 8 (k := 33)  rfl (st_ob hm) ⟨by have := st_rg hm; omega, by omega⟩ fl_8_33 ⟨_, rfl, rfl⟩ (Or.inr (Or.inr (Or.inr (Or.inr ⟨_, rfl⟩)))) True.intro rfl ⟨_, rfl, rfl⟩ g15_q (fun s16_q g16_q => ?_)
  refine zaload_n (k := 34) rfl rfl ?_
  refine zbipush (k := 35) rfl rfl ?_
  refine qarr (k := 36) (n := n + 9) (u' := (9, 93)) rfl rfl (Or.inl rfl) (by decide) (st_ar_9 hm) (by omega) (EX_ar (L := L) (st_ar_9 hm) (by have := st_rg hm; omega)) (tin1 43 (by decide +kernel)) (Nat.le_of_ble_eq_true rfl) (Nat.le_of_ble_eq_true rfl) rfl g16_q (by omega) (fun s17_q g17_q => ?_)
  refine qput 9 (k := 37)  rfl (st_ob hm) ⟨by have := st_rg hm; omega, by omega⟩ fl_8_36 ⟨_, rfl, rfl⟩ (Or.inr (Or.inr (Or.inr (Or.inr ⟨_, rfl⟩)))) True.intro rfl ⟨_, rfl, rfl⟩ g17_q (fun s18_q g18_q => ?_)
  refine zaload_n (k := 38) rfl rfl ?_
  refine zbipush (k := 39) rfl rfl ?_
  refine qarr (k := 40) (n := n + 10) (u' := (10, 153)) rfl rfl (Or.inl rfl) (by decide) (st_ar_10 hm) (by omega) (EX_ar (L := L) (st_ar_10 hm) (by have := st_rg hm; omega)) (tin1 43 (by decide +kernel)) (Nat.le_of_ble_eq_true rfl) (Nat.le_of_ble_eq_true rfl) rfl g18_q (by omega) (fun s19_q g19_q => ?_)
  refine qput 10 (k := 41)  rfl (st_ob hm) ⟨by have := st_rg hm; omega, by omega⟩ fl_8_39 ⟨_, rfl, rfl⟩ (Or.inr (Or.inr (Or.inr (Or.inr ⟨_, rfl⟩)))) True.intro rfl ⟨_, rfl, rfl⟩ g19_q (fun s20_q g20_q => ?_)
  refine zreturn (k := 42) rfl rfl rfl ?_
  exact ⟨rfl, rfl, CS_end g20_q (st_ob hm) (st_rup hm)⟩
set_option maxHeartbeats 4000000 in
set_option maxRecDepth 20000 in
theorem i_Tape_2 {Γ : zv_M} {L : Int} {σ : zv_H} (h00_q : ∀ k, 0 ≤ k → σ 2 k = zdf 9 k) : zC Γ m_Tape_init 1 1 1600 (GP L 3) [zR 2] σ (zIn L 2 4 σ) := by
  refine zC_of (ls0 := [_]) zm_Tape_init (by decide) rfl (Nat.le_of_ble_eq_true rfl) ?_
  have h0_q : CS L EX 2 ((3 : Nat) : Int) (zdf 9) σ σ := CS_0 h00_q rfl
  refine zaload_n (k := 0) rfl rfl ?_
  refine zobjInit (k := 1) rfl (tin1 33 (by decide +kernel)) (tin1 26 (by decide +kernel)) (tin1 27 (by decide +kernel)) (by decide) rfl (Nat.le_of_ble_eq_true rfl) ?_
  refine zaload_n (k := 2) rfl rfl ?_
  refine zsipush (k := 3) rfl rfl ?_
  refine qarr (k := 4) (n := 3) (u' := (1, 1600)) rfl rfl (Or.inl rfl) (by decide) ar_3 rfl (EX_ar (L := L) ar_3 (by decide)) (tin1 43 (by decide +kernel)) (Nat.le_of_ble_eq_true rfl) (Nat.le_of_ble_eq_true rfl) rfl h0_q (by decide) (fun s1_q g1_q => ?_)
  refine qput 0 (k := 5)  rfl ob_2 (by decide) fl_9_9 ⟨_, rfl, rfl⟩ (Or.inr (Or.inr (Or.inr (Or.inr ⟨_, rfl⟩)))) True.intro rfl ⟨_, rfl, rfl⟩ g1_q (fun s2_q g2_q => ?_)
  refine zaload_n (k := 6) rfl rfl ?_
  refine ziconst (k := 7) rfl (by decide) ?_
  refine qput 1 (k := 8)  rfl ob_2 (by decide) fl_9_15 ⟨_, rfl, rfl⟩ (Or.inl rfl) True.intro rfl ⟨_, rfl, rfl⟩ g2_q (fun s3_q g3_q => ?_)
  refine zreturn (k := 9) rfl rfl rfl ?_
  exact ⟨rfl, rfl, CS_end g3_q ob_2 (by decide +kernel)⟩
set_option maxHeartbeats 4000000 in
set_option maxRecDepth 20000 in
theorem i_Formula_12 {Γ : zv_M} {L : Int} {σ : zv_H} (h00_q : ∀ k, 0 ≤ k → σ 12 k = zdf 1 k) : zC Γ m_Formula_init 1 1 1600 (GP L 13) [zR 12] σ (zIn L 12 14 σ) := by
  refine zC_of (ls0 := [_]) zm_Formula_init (by decide) rfl (Nat.le_of_ble_eq_true rfl) ?_
  have h0_q : CS L EX 12 ((13 : Nat) : Int) (zdf 1) σ σ := CS_0 h00_q rfl
  refine zaload_n (k := 0) rfl rfl ?_
  refine zobjInit (k := 1) rfl (tin1 55 (by decide +kernel)) (tin1 26 (by decide +kernel)) (tin1 27 (by decide +kernel)) (by decide) rfl (Nat.le_of_ble_eq_true rfl) ?_
  refine zaload_n (k := 2) rfl rfl ?_
  refine zsipush (k := 3) rfl rfl ?_
  refine qarr (k := 4) (n := 13) (u' := (1, 1600)) rfl rfl (Or.inl rfl) (by decide) ar_13 rfl (EX_ar (L := L) ar_13 (by decide)) (tin1 43 (by decide +kernel)) (Nat.le_of_ble_eq_true rfl) (Nat.le_of_ble_eq_true rfl) rfl h0_q (by decide) (fun s1_q g1_q => ?_)
  refine qput 0 (k := 5)  rfl ob_12 (by decide) fl_1_9 ⟨_, rfl, rfl⟩ (Or.inr (Or.inr (Or.inr (Or.inr ⟨_, rfl⟩)))) True.intro rfl ⟨_, rfl, rfl⟩ g1_q (fun s2_q g2_q => ?_)
  refine zaload_n (k := 6) rfl rfl ?_
  refine ziconst (k := 7) rfl (by decide) ?_
  refine qput 1 (k := 8)  rfl ob_12 (by decide) fl_1_15 ⟨_, rfl, rfl⟩ (Or.inl rfl) True.intro rfl ⟨_, rfl, rfl⟩ g2_q (fun s3_q g3_q => ?_)
  refine zreturn (k := 9) rfl rfl rfl ?_
  exact ⟨rfl, rfl, CS_end g3_q ob_12 (by decide +kernel)⟩
set_option maxHeartbeats 4000000 in
set_option maxRecDepth 20000 in
theorem i_Formula_14 {Γ : zv_M} {L : Int} {σ : zv_H} (h00_q : ∀ k, 0 ≤ k → σ 14 k = zdf 1 k) : zC Γ m_Formula_init 1 1 1600 (GP L 15) [zR 14] σ (zIn L 14 16 σ) := by
  refine zC_of (ls0 := [_]) zm_Formula_init (by decide) rfl (Nat.le_of_ble_eq_true rfl) ?_
  have h0_q : CS L EX 14 ((15 : Nat) : Int) (zdf 1) σ σ := CS_0 h00_q rfl
  refine zaload_n (k := 0) rfl rfl ?_
  refine zobjInit (k := 1) rfl (tin1 55 (by decide +kernel)) (tin1 26 (by decide +kernel)) (tin1 27 (by decide +kernel)) (by decide) rfl (Nat.le_of_ble_eq_true rfl) ?_
  refine zaload_n (k := 2) rfl rfl ?_
  refine zsipush (k := 3) rfl rfl ?_
  refine qarr (k := 4) (n := 15) (u' := (1, 1600)) rfl rfl (Or.inl rfl) (by decide) ar_15 rfl (EX_ar (L := L) ar_15 (by decide)) (tin1 43 (by decide +kernel)) (Nat.le_of_ble_eq_true rfl) (Nat.le_of_ble_eq_true rfl) rfl h0_q (by decide) (fun s1_q g1_q => ?_)
  refine qput 0 (k := 5)  rfl ob_14 (by decide) fl_1_9 ⟨_, rfl, rfl⟩ (Or.inr (Or.inr (Or.inr (Or.inr ⟨_, rfl⟩)))) True.intro rfl ⟨_, rfl, rfl⟩ g1_q (fun s2_q g2_q => ?_)
  refine zaload_n (k := 6) rfl rfl ?_
  refine ziconst (k := 7) rfl (by decide) ?_
  refine qput 1 (k := 8)  rfl ob_14 (by decide) fl_1_15 ⟨_, rfl, rfl⟩ (Or.inl rfl) True.intro rfl ⟨_, rfl, rfl⟩ g2_q (fun s3_q g3_q => ?_)
  refine zreturn (k := 9) rfl rfl rfl ?_
  exact ⟨rfl, rfl, CS_end g3_q ob_14 (by decide +kernel)⟩
set_option maxHeartbeats 4000000 in
set_option maxRecDepth 20000 in
theorem i_Formula_25 {Γ : zv_M} {L : Int} {σ : zv_H} (h00_q : ∀ k, 0 ≤ k → σ 25 k = zdf 1 k) : zC Γ m_Formula_init 1 1 1600 (GP L 26) [zR 25] σ (zIn L 25 27 σ) := by
  refine zC_of (ls0 := [_]) zm_Formula_init (by decide) rfl (Nat.le_of_ble_eq_true rfl) ?_
  have h0_q : CS L EX 25 ((26 : Nat) : Int) (zdf 1) σ σ := CS_0 h00_q rfl
  refine zaload_n (k := 0) rfl rfl ?_
  refine zobjInit (k := 1) rfl (tin1 55 (by decide +kernel)) (tin1 26 (by decide +kernel)) (tin1 27 (by decide +kernel)) (by decide) rfl (Nat.le_of_ble_eq_true rfl) ?_
  refine zaload_n (k := 2) rfl rfl ?_
  refine zsipush (k := 3) rfl rfl ?_
  refine qarr (k := 4) (n := 26) (u' := (1, 1600)) rfl rfl (Or.inl rfl) (by decide) ar_26 rfl (EX_ar (L := L) ar_26 (by decide)) (tin1 43 (by decide +kernel)) (Nat.le_of_ble_eq_true rfl) (Nat.le_of_ble_eq_true rfl) rfl h0_q (by decide) (fun s1_q g1_q => ?_)
  refine qput 0 (k := 5)  rfl ob_25 (by decide) fl_1_9 ⟨_, rfl, rfl⟩ (Or.inr (Or.inr (Or.inr (Or.inr ⟨_, rfl⟩)))) True.intro rfl ⟨_, rfl, rfl⟩ g1_q (fun s2_q g2_q => ?_)
  refine zaload_n (k := 6) rfl rfl ?_
  refine ziconst (k := 7) rfl (by decide) ?_
  refine qput 1 (k := 8)  rfl ob_25 (by decide) fl_1_15 ⟨_, rfl, rfl⟩ (Or.inl rfl) True.intro rfl ⟨_, rfl, rfl⟩ g2_q (fun s3_q g3_q => ?_)
  refine zreturn (k := 9) rfl rfl rfl ?_
  exact ⟨rfl, rfl, CS_end g3_q ob_25 (by decide +kernel)⟩
set_option maxHeartbeats 4000000 in
set_option maxRecDepth 20000 in
theorem i_Formula_27 {Γ : zv_M} {L : Int} {σ : zv_H} (h00_q : ∀ k, 0 ≤ k → σ 27 k = zdf 1 k) : zC Γ m_Formula_init 1 1 1600 (GP L 28) [zR 27] σ (zIn L 27 29 σ) := by
  refine zC_of (ls0 := [_]) zm_Formula_init (by decide) rfl (Nat.le_of_ble_eq_true rfl) ?_
  have h0_q : CS L EX 27 ((28 : Nat) : Int) (zdf 1) σ σ := CS_0 h00_q rfl
  refine zaload_n (k := 0) rfl rfl ?_
  refine zobjInit (k := 1) rfl (tin1 55 (by decide +kernel)) (tin1 26 (by decide +kernel)) (tin1 27 (by decide +kernel)) (by decide) rfl (Nat.le_of_ble_eq_true rfl) ?_
  refine zaload_n (k := 2) rfl rfl ?_
  refine zsipush (k := 3) rfl rfl ?_
  refine qarr (k := 4) (n := 28) (u' := (1, 1600)) rfl rfl (Or.inl rfl) (by decide) ar_28 rfl (EX_ar (L := L) ar_28 (by decide)) (tin1 43 (by decide +kernel)) (Nat.le_of_ble_eq_true rfl) (Nat.le_of_ble_eq_true rfl) rfl h0_q (by decide) (fun s1_q g1_q => ?_)
  refine qput 0 (k := 5)  rfl ob_27 (by decide) fl_1_9 ⟨_, rfl, rfl⟩ (Or.inr (Or.inr (Or.inr (Or.inr ⟨_, rfl⟩)))) True.intro rfl ⟨_, rfl, rfl⟩ g1_q (fun s2_q g2_q => ?_)
  refine zaload_n (k := 6) rfl rfl ?_
  refine ziconst (k := 7) rfl (by decide) ?_
  refine qput 1 (k := 8)  rfl ob_27 (by decide) fl_1_15 ⟨_, rfl, rfl⟩ (Or.inl rfl) True.intro rfl ⟨_, rfl, rfl⟩ g2_q (fun s3_q g3_q => ?_)
  refine zreturn (k := 9) rfl rfl rfl ?_
  exact ⟨rfl, rfl, CS_end g3_q ob_27 (by decide +kernel)⟩
set_option maxHeartbeats 4000000 in
set_option maxRecDepth 20000 in
theorem i_War_4 {Γ : zv_M} {L : Int} {σ : zv_H} (h00_q : ∀ k, 0 ≤ k → σ 4 k = zdf 10 k) : zC Γ m_War_init 2 12 3299 (GP L 5) [zR 4] σ (zIn L 4 17 σ) := by
  refine zC_of (ls0 := [_]) zm_War_init (by decide) rfl (Nat.le_of_ble_eq_true rfl) ?_
  have h0_q : CS L EX 4 ((5 : Nat) : Int) (zdf 10) σ σ := CS_0 h00_q rfl
  refine zaload_n (k := 0) rfl rfl ?_
  refine zobjInit (k := 1) rfl (tin1 49 (by decide +kernel)) (tin1 26 (by decide +kernel)) (tin1 27 (by decide +kernel)) (by decide) rfl (Nat.le_of_ble_eq_true rfl) ?_
  refine zaload_n (k := 2) rfl rfl ?_
  refine ziconst (k := 3) rfl (by decide) ?_
  refine qput 4 (k := 4)  rfl ob_4 (by decide) fl_10_9 ⟨_, rfl, rfl⟩ (Or.inl rfl) True.intro rfl ⟨_, rfl, rfl⟩ h0_q (fun s1_q g1_q => ?_)
  refine zaload_n (k := 5) rfl rfl ?_
  refine zbipush (k := 6) rfl rfl ?_
  refine qarr (k := 7) (n := 5) (u' := (1, 7)) rfl rfl (Or.inl rfl) (by decide) ar_5 rfl (EX_ar (L := L) ar_5 (by decide)) (tin1 43 (by decide +kernel)) (Nat.le_of_ble_eq_true rfl) (Nat.le_of_ble_eq_true rfl) rfl g1_q (by decide) (fun s2_q g2_q => ?_)
  refine qput 5 (k := 8)  rfl ob_4 (by decide) fl_10_15 ⟨_, rfl, rfl⟩ (Or.inr (Or.inr (Or.inr (Or.inr ⟨_, rfl⟩)))) True.intro rfl ⟨_, rfl, rfl⟩ g2_q (fun s3_q g3_q => ?_)
  refine zaload_n (k := 9) rfl rfl ?_
  refine zbipush (k := 10) rfl rfl ?_
  refine qarr (k := 11) (n := 6) (u' := (2, 14)) rfl rfl (Or.inl rfl) (by decide) ar_6 rfl (EX_ar (L := L) ar_6 (by decide)) (tin1 43 (by decide +kernel)) (Nat.le_of_ble_eq_true rfl) (Nat.le_of_ble_eq_true rfl) rfl g3_q (by decide) (fun s4_q g4_q => ?_)
  refine qput 6 (k := 12)  rfl ob_4 (by decide) fl_10_19 ⟨_, rfl, rfl⟩ (Or.inr (Or.inr (Or.inr (Or.inr ⟨_, rfl⟩)))) True.intro rfl ⟨_, rfl, rfl⟩ g4_q (fun s5_q g5_q => ?_)
  refine zaload_n (k := 13) rfl rfl ?_
  refine zbipush (k := 14) rfl rfl ?_
  refine qarr (k := 15) (n := 7) (u' := (3, 21)) rfl rfl (Or.inl rfl) (by decide) ar_7 rfl (EX_ar (L := L) ar_7 (by decide)) (tin1 43 (by decide +kernel)) (Nat.le_of_ble_eq_true rfl) (Nat.le_of_ble_eq_true rfl) rfl g5_q (by decide) (fun s6_q g6_q => ?_)
  refine qput 7 (k := 16)  rfl ob_4 (by decide) fl_10_22 ⟨_, rfl, rfl⟩ (Or.inr (Or.inr (Or.inr (Or.inr ⟨_, rfl⟩)))) True.intro rfl ⟨_, rfl, rfl⟩ g6_q (fun s7_q g7_q => ?_)
  refine zaload_n (k := 17) rfl rfl ?_
  refine zbipush (k := 18) rfl rfl ?_
  refine qarr (k := 19) (n := 8) (u' := (4, 28)) rfl rfl (Or.inl rfl) (by decide) ar_8 rfl (EX_ar (L := L) ar_8 (by decide)) (tin1 43 (by decide +kernel)) (Nat.le_of_ble_eq_true rfl) (Nat.le_of_ble_eq_true rfl) rfl g7_q (by decide) (fun s8_q g8_q => ?_)
  refine qput 8 (k := 20)  rfl ob_4 (by decide) fl_10_25 ⟨_, rfl, rfl⟩ (Or.inr (Or.inr (Or.inr (Or.inr ⟨_, rfl⟩)))) True.intro rfl ⟨_, rfl, rfl⟩ g8_q (fun s9_q g9_q => ?_)
  refine zaload_n (k := 21) rfl rfl ?_
  refine zbipush (k := 22) rfl rfl ?_
  refine qarr (k := 23) (n := 9) (u' := (5, 34)) rfl rfl (Or.inl rfl) (by decide) ar_9 rfl (EX_ar (L := L) ar_9 (by decide)) (tin1 43 (by decide +kernel)) (Nat.le_of_ble_eq_true rfl) (Nat.le_of_ble_eq_true rfl) rfl g9_q (by decide) (fun s10_q g10_q => ?_)
  refine qput 9 (k := 24)  rfl ob_4 (by decide) fl_10_28 ⟨_, rfl, rfl⟩ (Or.inr (Or.inr (Or.inr (Or.inr ⟨_, rfl⟩)))) True.intro rfl ⟨_, rfl, rfl⟩ g10_q (fun s11_q g11_q => ?_)
  refine zaload_n (k := 25) rfl rfl ?_
  refine zbipush (k := 26) rfl rfl ?_
  refine qarr (k := 27) (n := 10) (u' := (6, 40)) rfl rfl (Or.inl rfl) (by decide) ar_10 rfl (EX_ar (L := L) ar_10 (by decide)) (tin1 43 (by decide +kernel)) (Nat.le_of_ble_eq_true rfl) (Nat.le_of_ble_eq_true rfl) rfl g11_q (by decide) (fun s12_q g12_q => ?_)
  refine qput 10 (k := 28)  rfl ob_4 (by decide) fl_10_31 ⟨_, rfl, rfl⟩ (Or.inr (Or.inr (Or.inr (Or.inr ⟨_, rfl⟩)))) True.intro rfl ⟨_, rfl, rfl⟩ g12_q (fun s13_q g13_q => ?_)
  refine zaload_n (k := 29) rfl rfl ?_
  refine zbipush (k := 30) rfl rfl ?_
  refine qarr (k := 31) (n := 11) (u' := (7, 46)) rfl rfl (Or.inl rfl) (by decide) ar_11 rfl (EX_ar (L := L) ar_11 (by decide)) (tin1 43 (by decide +kernel)) (Nat.le_of_ble_eq_true rfl) (Nat.le_of_ble_eq_true rfl) rfl g13_q (by decide) (fun s14_q g14_q => ?_)
  refine qput 11 (k := 32)  rfl ob_4 (by decide) fl_10_34 ⟨_, rfl, rfl⟩ (Or.inr (Or.inr (Or.inr (Or.inr ⟨_, rfl⟩)))) True.intro rfl ⟨_, rfl, rfl⟩ g14_q (fun s15_q g15_q => ?_)
  refine zaload_n (k := 33) rfl rfl ?_
  refine qnew (k := 34) (ci := 1) (n := 12) (u' := (8, 48)) rfl rfl in_X1 tyX1_ok kd_X1 ob_12 rfl (tin1 50 (by decide +kernel)) (tin1 51 (by decide +kernel)) (tin1 4 (by decide +kernel)) (Nat.le_of_ble_eq_true rfl) (Nat.le_of_ble_eq_true rfl) rfl g15_q (by decide) (fun s16_q g16_q zg16_q fg16_q => ?_)
  refine zdup (k := 35) rfl rfl ?_
  refine qinit (k := 36) (n := 12) (m := 14) (u' := (9, 1648)) (as := []) rfl (i_Formula_12 (L := L) zg16_q) fm_Formula_init lk_10_39 rfl rfl (Nat.le_of_ble_eq_true rfl) (Nat.le_of_ble_eq_true rfl) (Nat.le_of_ble_eq_true rfl) (Nat.le_of_ble_eq_true rfl) rfl rfl g16_q (by decide) (fun _ _ _ _ => rfl) (fun s17_q g17_q => ?_)
  refine qput 12 (k := 37)  rfl ob_4 (by decide) fl_10_40 ⟨_, rfl, rfl⟩ (Or.inr (Or.inr (Or.inr (Or.inl ⟨_, rfl⟩)))) True.intro rfl ⟨_, rfl, rfl⟩ g17_q (fun s18_q g18_q => ?_)
  refine zaload_n (k := 38) rfl rfl ?_
  refine qnew (k := 39) (ci := 1) (n := 14) (u' := (10, 1650)) rfl rfl in_X1 tyX1_ok kd_X1 ob_14 rfl (tin1 50 (by decide +kernel)) (tin1 51 (by decide +kernel)) (tin1 4 (by decide +kernel)) (Nat.le_of_ble_eq_true rfl) (Nat.le_of_ble_eq_true rfl) rfl g18_q (by decide) (fun s19_q g19_q zg19_q fg19_q => ?_)
  refine zdup (k := 40) rfl rfl ?_
  refine qinit (k := 41) (n := 14) (m := 16) (u' := (11, 3250)) (as := []) rfl (i_Formula_14 (L := L) zg19_q) fm_Formula_init lk_10_39 rfl rfl (Nat.le_of_ble_eq_true rfl) (Nat.le_of_ble_eq_true rfl) (Nat.le_of_ble_eq_true rfl) (Nat.le_of_ble_eq_true rfl) rfl rfl g19_q (by decide) (fun _ _ _ _ => rfl) (fun s20_q g20_q => ?_)
  refine qput 13 (k := 42)  rfl ob_4 (by decide) fl_10_44 ⟨_, rfl, rfl⟩ (Or.inr (Or.inr (Or.inr (Or.inl ⟨_, rfl⟩)))) True.intro rfl ⟨_, rfl, rfl⟩ g20_q (fun s21_q g21_q => ?_)
  refine zaload_n (k := 43) rfl rfl ?_
  refine zbipush (k := 44) rfl rfl ?_
  refine qarr (k := 45) (n := 16) (u' := (12, 3299)) rfl rfl (Or.inl rfl) (by decide) ar_16 rfl (EX_ar (L := L) ar_16 (by decide)) (tin1 43 (by decide +kernel)) (Nat.le_of_ble_eq_true rfl) (Nat.le_of_ble_eq_true rfl) rfl g21_q (by decide) (fun s22_q g22_q => ?_)
  refine qput 14 (k := 46)  rfl ob_4 (by decide) fl_10_47 ⟨_, rfl, rfl⟩ (Or.inr (Or.inr (Or.inr (Or.inr ⟨_, rfl⟩)))) True.intro rfl ⟨_, rfl, rfl⟩ g22_q (fun s23_q g23_q => ?_)
  refine zreturn (k := 47) rfl rfl rfl ?_
  exact ⟨rfl, rfl, CS_end g23_q ob_4 (by decide +kernel)⟩
set_option maxHeartbeats 4000000 in
set_option maxRecDepth 20000 in
theorem i_War_17 {Γ : zv_M} {L : Int} {σ : zv_H} (h00_q : ∀ k, 0 ≤ k → σ 17 k = zdf 10 k) : zC Γ m_War_init 2 12 3299 (GP L 18) [zR 17] σ (zIn L 17 30 σ) := by
  refine zC_of (ls0 := [_]) zm_War_init (by decide) rfl (Nat.le_of_ble_eq_true rfl) ?_
  have h0_q : CS L EX 17 ((18 : Nat) : Int) (zdf 10) σ σ := CS_0 h00_q rfl
  refine zaload_n (k := 0) rfl rfl ?_
  refine zobjInit (k := 1) rfl (tin1 49 (by decide +kernel)) (tin1 26 (by decide +kernel)) (tin1 27 (by decide +kernel)) (by decide) rfl (Nat.le_of_ble_eq_true rfl) ?_
  refine zaload_n (k := 2) rfl rfl ?_
  refine ziconst (k := 3) rfl (by decide) ?_
  refine qput 4 (k := 4)  rfl ob_17 (by decide) fl_10_9 ⟨_, rfl, rfl⟩ (Or.inl rfl) True.intro rfl ⟨_, rfl, rfl⟩ h0_q (fun s1_q g1_q => ?_)
  refine zaload_n (k := 5) rfl rfl ?_
  refine zbipush (k := 6) rfl rfl ?_
  refine qarr (k := 7) (n := 18) (u' := (1, 7)) rfl rfl (Or.inl rfl) (by decide) ar_18 rfl (EX_ar (L := L) ar_18 (by decide)) (tin1 43 (by decide +kernel)) (Nat.le_of_ble_eq_true rfl) (Nat.le_of_ble_eq_true rfl) rfl g1_q (by decide) (fun s2_q g2_q => ?_)
  refine qput 5 (k := 8)  rfl ob_17 (by decide) fl_10_15 ⟨_, rfl, rfl⟩ (Or.inr (Or.inr (Or.inr (Or.inr ⟨_, rfl⟩)))) True.intro rfl ⟨_, rfl, rfl⟩ g2_q (fun s3_q g3_q => ?_)
  refine zaload_n (k := 9) rfl rfl ?_
  refine zbipush (k := 10) rfl rfl ?_
  refine qarr (k := 11) (n := 19) (u' := (2, 14)) rfl rfl (Or.inl rfl) (by decide) ar_19 rfl (EX_ar (L := L) ar_19 (by decide)) (tin1 43 (by decide +kernel)) (Nat.le_of_ble_eq_true rfl) (Nat.le_of_ble_eq_true rfl) rfl g3_q (by decide) (fun s4_q g4_q => ?_)
  refine qput 6 (k := 12)  rfl ob_17 (by decide) fl_10_19 ⟨_, rfl, rfl⟩ (Or.inr (Or.inr (Or.inr (Or.inr ⟨_, rfl⟩)))) True.intro rfl ⟨_, rfl, rfl⟩ g4_q (fun s5_q g5_q => ?_)
  refine zaload_n (k := 13) rfl rfl ?_
  refine zbipush (k := 14) rfl rfl ?_
  refine qarr (k := 15) (n := 20) (u' := (3, 21)) rfl rfl (Or.inl rfl) (by decide) ar_20 rfl (EX_ar (L := L) ar_20 (by decide)) (tin1 43 (by decide +kernel)) (Nat.le_of_ble_eq_true rfl) (Nat.le_of_ble_eq_true rfl) rfl g5_q (by decide) (fun s6_q g6_q => ?_)
  refine qput 7 (k := 16)  rfl ob_17 (by decide) fl_10_22 ⟨_, rfl, rfl⟩ (Or.inr (Or.inr (Or.inr (Or.inr ⟨_, rfl⟩)))) True.intro rfl ⟨_, rfl, rfl⟩ g6_q (fun s7_q g7_q => ?_)
  refine zaload_n (k := 17) rfl rfl ?_
  refine zbipush (k := 18) rfl rfl ?_
  refine qarr (k := 19) (n := 21) (u' := (4, 28)) rfl rfl (Or.inl rfl) (by decide) ar_21 rfl (EX_ar (L := L) ar_21 (by decide)) (tin1 43 (by decide +kernel)) (Nat.le_of_ble_eq_true rfl) (Nat.le_of_ble_eq_true rfl) rfl g7_q (by decide) (fun s8_q g8_q => ?_)
  refine qput 8 (k := 20)  rfl ob_17 (by decide) fl_10_25 ⟨_, rfl, rfl⟩ (Or.inr (Or.inr (Or.inr (Or.inr ⟨_, rfl⟩)))) True.intro rfl ⟨_, rfl, rfl⟩ g8_q (fun s9_q g9_q => ?_)
  refine zaload_n (k := 21) rfl rfl ?_
  refine zbipush (k := 22) rfl rfl ?_
  refine qarr (k := 23) (n := 22) (u' := (5, 34)) rfl rfl (Or.inl rfl) (by decide) ar_22 rfl (EX_ar (L := L) ar_22 (by decide)) (tin1 43 (by decide +kernel)) (Nat.le_of_ble_eq_true rfl) (Nat.le_of_ble_eq_true rfl) rfl g9_q (by decide) (fun s10_q g10_q => ?_)
  refine qput 9 (k := 24)  rfl ob_17 (by decide) fl_10_28 ⟨_, rfl, rfl⟩ (Or.inr (Or.inr (Or.inr (Or.inr ⟨_, rfl⟩)))) True.intro rfl ⟨_, rfl, rfl⟩ g10_q (fun s11_q g11_q => ?_)
  refine zaload_n (k := 25) rfl rfl ?_
  refine zbipush (k := 26) rfl rfl ?_
  refine qarr (k := 27) (n := 23) (u' := (6, 40)) rfl rfl (Or.inl rfl) (by decide) ar_23 rfl (EX_ar (L := L) ar_23 (by decide)) (tin1 43 (by decide +kernel)) (Nat.le_of_ble_eq_true rfl) (Nat.le_of_ble_eq_true rfl) rfl g11_q (by decide) (fun s12_q g12_q => ?_)
  refine qput 10 (k := 28)  rfl ob_17 (by decide) fl_10_31 ⟨_, rfl, rfl⟩ (Or.inr (Or.inr (Or.inr (Or.inr ⟨_, rfl⟩)))) True.intro rfl ⟨_, rfl, rfl⟩ g12_q (fun s13_q g13_q => ?_)
  refine zaload_n (k := 29) rfl rfl ?_
  refine zbipush (k := 30) rfl rfl ?_
  refine qarr (k := 31) (n := 24) (u' := (7, 46)) rfl rfl (Or.inl rfl) (by decide) ar_24 rfl (EX_ar (L := L) ar_24 (by decide)) (tin1 43 (by decide +kernel)) (Nat.le_of_ble_eq_true rfl) (Nat.le_of_ble_eq_true rfl) rfl g13_q (by decide) (fun s14_q g14_q => ?_)
  refine qput 11 (k := 32)  rfl ob_17 (by decide) fl_10_34 ⟨_, rfl, rfl⟩ (Or.inr (Or.inr (Or.inr (Or.inr ⟨_, rfl⟩)))) True.intro rfl ⟨_, rfl, rfl⟩ g14_q (fun s15_q g15_q => ?_)
  refine zaload_n (k := 33) rfl rfl ?_
  refine qnew (k := 34) (ci := 1) (n := 25) (u' := (8, 48)) rfl rfl in_X1 tyX1_ok kd_X1 ob_25 rfl (tin1 50 (by decide +kernel)) (tin1 51 (by decide +kernel)) (tin1 4 (by decide +kernel)) (Nat.le_of_ble_eq_true rfl) (Nat.le_of_ble_eq_true rfl) rfl g15_q (by decide) (fun s16_q g16_q zg16_q fg16_q => ?_)
  refine zdup (k := 35) rfl rfl ?_
  refine qinit (k := 36) (n := 25) (m := 27) (u' := (9, 1648)) (as := []) rfl (i_Formula_25 (L := L) zg16_q) fm_Formula_init lk_10_39 rfl rfl (Nat.le_of_ble_eq_true rfl) (Nat.le_of_ble_eq_true rfl) (Nat.le_of_ble_eq_true rfl) (Nat.le_of_ble_eq_true rfl) rfl rfl g16_q (by decide) (fun _ _ _ _ => rfl) (fun s17_q g17_q => ?_)
  refine qput 12 (k := 37)  rfl ob_17 (by decide) fl_10_40 ⟨_, rfl, rfl⟩ (Or.inr (Or.inr (Or.inr (Or.inl ⟨_, rfl⟩)))) True.intro rfl ⟨_, rfl, rfl⟩ g17_q (fun s18_q g18_q => ?_)
  refine zaload_n (k := 38) rfl rfl ?_
  refine qnew (k := 39) (ci := 1) (n := 27) (u' := (10, 1650)) rfl rfl in_X1 tyX1_ok kd_X1 ob_27 rfl (tin1 50 (by decide +kernel)) (tin1 51 (by decide +kernel)) (tin1 4 (by decide +kernel)) (Nat.le_of_ble_eq_true rfl) (Nat.le_of_ble_eq_true rfl) rfl g18_q (by decide) (fun s19_q g19_q zg19_q fg19_q => ?_)
  refine zdup (k := 40) rfl rfl ?_
  refine qinit (k := 41) (n := 27) (m := 29) (u' := (11, 3250)) (as := []) rfl (i_Formula_27 (L := L) zg19_q) fm_Formula_init lk_10_39 rfl rfl (Nat.le_of_ble_eq_true rfl) (Nat.le_of_ble_eq_true rfl) (Nat.le_of_ble_eq_true rfl) (Nat.le_of_ble_eq_true rfl) rfl rfl g19_q (by decide) (fun _ _ _ _ => rfl) (fun s20_q g20_q => ?_)
  refine qput 13 (k := 42)  rfl ob_17 (by decide) fl_10_44 ⟨_, rfl, rfl⟩ (Or.inr (Or.inr (Or.inr (Or.inl ⟨_, rfl⟩)))) True.intro rfl ⟨_, rfl, rfl⟩ g20_q (fun s21_q g21_q => ?_)
  refine zaload_n (k := 43) rfl rfl ?_
  refine zbipush (k := 44) rfl rfl ?_
  refine qarr (k := 45) (n := 29) (u' := (12, 3299)) rfl rfl (Or.inl rfl) (by decide) ar_29 rfl (EX_ar (L := L) ar_29 (by decide)) (tin1 43 (by decide +kernel)) (Nat.le_of_ble_eq_true rfl) (Nat.le_of_ble_eq_true rfl) rfl g21_q (by decide) (fun s22_q g22_q => ?_)
  refine qput 14 (k := 46)  rfl ob_17 (by decide) fl_10_47 ⟨_, rfl, rfl⟩ (Or.inr (Or.inr (Or.inr (Or.inr ⟨_, rfl⟩)))) True.intro rfl ⟨_, rfl, rfl⟩ g22_q (fun s23_q g23_q => ?_)
  refine zreturn (k := 47) rfl rfl rfl ?_
  exact ⟨rfl, rfl, CS_end g23_q ob_17 (by decide +kernel)⟩
set_option maxHeartbeats 4000000 in
set_option maxRecDepth 20000 in
theorem i_Reckoner_56 {Γ : zv_M} {L : Int} {σ : zv_H} (h00_q : ∀ k, 0 ≤ k → σ 56 k = zdf 5 k) : zC Γ m_Reckoner_init 1 1 64 (GP L 57) [zR 56] σ (zIn L 56 58 σ) := by
  refine zC_of (ls0 := [_]) zm_Reckoner_init (by decide) rfl (Nat.le_of_ble_eq_true rfl) ?_
  have h0_q : CS L EX 56 ((57 : Nat) : Int) (zdf 5) σ σ := CS_0 h00_q rfl
  refine zaload_n (k := 0) rfl rfl ?_
  refine zobjInit (k := 1) rfl (tin2 132 (by decide +kernel)) (tin1 26 (by decide +kernel)) (tin1 27 (by decide +kernel)) (by decide) rfl (Nat.le_of_ble_eq_true rfl) ?_
  refine zaload_n (k := 2) rfl rfl ?_
  refine zbipush (k := 3) rfl rfl ?_
  refine qarr (k := 4) (n := 57) (u' := (1, 64)) rfl rfl (Or.inr (Or.inr rfl)) (by decide) ar_57 rfl (EX_ar (L := L) ar_57 (by decide)) (tin2 168 (by decide +kernel)) (Nat.le_of_ble_eq_true rfl) (Nat.le_of_ble_eq_true rfl) rfl h0_q (by decide) (fun s1_q g1_q => ?_)
  refine qput 0 (k := 5)  rfl ob_56 (by decide) fl_5_9 ⟨_, rfl, rfl⟩ (Or.inr (Or.inr (Or.inr (Or.inr ⟨_, rfl⟩)))) True.intro rfl ⟨_, rfl, rfl⟩ g1_q (fun s2_q g2_q => ?_)
  refine zreturn (k := 6) rfl rfl rfl ?_
  exact ⟨rfl, rfl, CS_end g2_q ob_56 (by decide +kernel)⟩
set_option maxHeartbeats 4000000 in
set_option maxRecDepth 20000 in
theorem i_March_55 {Γ : zv_M} {L : Int} {σ : zv_H} (h00_q : ∀ k, 0 ≤ k → σ 55 k = zdf 3 k) : zC Γ m_March_init 2 2 73 (GP L 56) [zR 55] σ (zIn L 55 58 σ) := by
  refine zC_of (ls0 := [_]) zm_March_init (by decide) rfl (Nat.le_of_ble_eq_true rfl) ?_
  have h0_q : CS L EX 55 ((56 : Nat) : Int) (zdf 3) σ σ := CS_0 h00_q rfl
  refine zaload_n (k := 0) rfl rfl ?_
  refine zobjInit (k := 1) rfl (tin2 126 (by decide +kernel)) (tin1 26 (by decide +kernel)) (tin1 27 (by decide +kernel)) (by decide) rfl (Nat.le_of_ble_eq_true rfl) ?_
  refine zaload_n (k := 2) rfl rfl ?_
  refine qnew (k := 3) (ci := 5) (n := 56) (u' := (1, 9)) rfl rfl in_X5 tyX5_ok kd_X5 ob_56 rfl (tin2 127 (by decide +kernel)) (tin2 128 (by decide +kernel)) (tin1 13 (by decide +kernel)) (Nat.le_of_ble_eq_true rfl) (Nat.le_of_ble_eq_true rfl) rfl h0_q (by decide) (fun s1_q g1_q zg1_q fg1_q => ?_)
  refine zdup (k := 4) rfl rfl ?_
  refine qinit (k := 5) (n := 56) (m := 58) (u' := (2, 73)) (as := []) rfl (i_Reckoner_56 (L := L) zg1_q) fm_Reckoner_init lk_3_11 rfl rfl (Nat.le_of_ble_eq_true rfl) (Nat.le_of_ble_eq_true rfl) (Nat.le_of_ble_eq_true rfl) (Nat.le_of_ble_eq_true rfl) rfl rfl g1_q (by decide) (fun _ _ _ _ => rfl) (fun s2_q g2_q => ?_)
  refine qput 0 (k := 6)  rfl ob_55 (by decide) fl_3_12 ⟨_, rfl, rfl⟩ (Or.inr (Or.inr (Or.inr (Or.inl ⟨_, rfl⟩)))) True.intro rfl ⟨_, rfl, rfl⟩ g2_q (fun s3_q g3_q => ?_)
  refine zreturn (k := 7) rfl rfl rfl ?_
  exact ⟨rfl, rfl, CS_end g3_q ob_55 (by decide +kernel)⟩
set_option maxHeartbeats 4000000 in
set_option maxRecDepth 20000 in
theorem i_Rounds_58 {Γ : zv_M} {L : Int} {σ : zv_H} (h00_q : ∀ k, 0 ≤ k → σ 58 k = zdf 6 k) : zC Γ m_Rounds_init 1 3 12 (GP L 59) [zR 58, zR 4, zR 30] σ (zIn L 58 62 σ) := by
  refine zC_of (ls0 := [_, _, _]) zm_Rounds_init (by decide) rfl (Nat.le_of_ble_eq_true rfl) ?_
  have h0_q : CS L EX 58 ((59 : Nat) : Int) (zdf 6) σ σ := CS_0 h00_q rfl
  refine zaload_n (k := 0) rfl rfl ?_
  refine zobjInit (k := 1) rfl (tin2 178 (by decide +kernel)) (tin1 26 (by decide +kernel)) (tin1 27 (by decide +kernel)) (by decide) rfl (Nat.le_of_ble_eq_true rfl) ?_
  refine zaload_n (k := 2) rfl rfl ?_
  refine ziconst (k := 3) rfl (by decide) ?_
  refine qarr (k := 4) (n := 59) (u' := (1, 4)) rfl rfl (Or.inl rfl) (by decide) ar_59 rfl (EX_ar (L := L) ar_59 (by decide)) (tin1 43 (by decide +kernel)) (Nat.le_of_ble_eq_true rfl) (Nat.le_of_ble_eq_true rfl) rfl h0_q (by decide) (fun s1_q g1_q => ?_)
  refine qput 0 (k := 5)  rfl ob_58 (by decide) fl_6_9 ⟨_, rfl, rfl⟩ (Or.inr (Or.inr (Or.inr (Or.inr ⟨_, rfl⟩)))) True.intro rfl ⟨_, rfl, rfl⟩ g1_q (fun s2_q g2_q => ?_)
  refine zaload_n (k := 6) rfl rfl ?_
  refine ziconst (k := 7) rfl (by decide) ?_
  refine qarr (k := 8) (n := 60) (u' := (2, 8)) rfl rfl (Or.inl rfl) (by decide) ar_60 rfl (EX_ar (L := L) ar_60 (by decide)) (tin1 43 (by decide +kernel)) (Nat.le_of_ble_eq_true rfl) (Nat.le_of_ble_eq_true rfl) rfl g2_q (by decide) (fun s3_q g3_q => ?_)
  refine qput 4 (k := 9)  rfl ob_58 (by decide) fl_6_15 ⟨_, rfl, rfl⟩ (Or.inr (Or.inr (Or.inr (Or.inr ⟨_, rfl⟩)))) True.intro rfl ⟨_, rfl, rfl⟩ g3_q (fun s4_q g4_q => ?_)
  refine zaload_n (k := 10) rfl rfl ?_
  refine ziconst (k := 11) rfl (by decide) ?_
  refine qarr (k := 12) (n := 61) (u' := (3, 12)) rfl rfl (Or.inl rfl) (by decide) ar_61 rfl (EX_ar (L := L) ar_61 (by decide)) (tin1 43 (by decide +kernel)) (Nat.le_of_ble_eq_true rfl) (Nat.le_of_ble_eq_true rfl) rfl g4_q (by decide) (fun s5_q g5_q => ?_)
  refine qput 5 (k := 13)  rfl ob_58 (by decide) fl_6_18 ⟨_, rfl, rfl⟩ (Or.inr (Or.inr (Or.inr (Or.inr ⟨_, rfl⟩)))) True.intro rfl ⟨_, rfl, rfl⟩ g5_q (fun s6_q g6_q => ?_)
  refine zaload_n (k := 14) rfl rfl ?_
  refine zaload_n (k := 15) rfl rfl ?_
  refine qput 6 (k := 16)  rfl ob_58 (by decide) fl_6_21 ⟨_, rfl, rfl⟩ (Or.inr (Or.inr (Or.inr (Or.inl ⟨_, rfl⟩)))) True.intro rfl ⟨_, rfl, rfl⟩ g6_q (fun s7_q g7_q => ?_)
  refine zaload_n (k := 17) rfl rfl ?_
  refine zaload_n (k := 18) rfl rfl ?_
  refine qput 7 (k := 19)  rfl ob_58 (by decide) fl_6_25 ⟨_, rfl, rfl⟩ (Or.inr (Or.inr (Or.inr (Or.inl ⟨_, rfl⟩)))) True.intro rfl ⟨_, rfl, rfl⟩ g7_q (fun s8_q g8_q => ?_)
  refine zreturn (k := 20) rfl rfl rfl ?_
  exact ⟨rfl, rfl, CS_end g8_q ob_58 (by decide +kernel)⟩
set_option maxHeartbeats 4000000 in
set_option maxRecDepth 20000 in
theorem i_Image_284 {Γ : zv_M} {L : Int} {σ : zv_H} (h00_q : ∀ k, 0 ≤ k → σ 284 k = zdf 2 k) : zC Γ m_Image_init 1 1 109 (GP L 285) [zR 284, zR 2] σ (zIn L 284 286 σ) := by
  refine zC_of (ls0 := [_, _]) zm_Image_init (by decide) rfl (Nat.le_of_ble_eq_true rfl) ?_
  have h0_q : CS L EX 284 ((285 : Nat) : Int) (zdf 2) σ σ := CS_0 h00_q rfl
  refine zaload_n (k := 0) rfl rfl ?_
  refine zobjInit (k := 1) rfl (tin2 236 (by decide +kernel)) (tin1 26 (by decide +kernel)) (tin1 27 (by decide +kernel)) (by decide) rfl (Nat.le_of_ble_eq_true rfl) ?_
  refine zaload_n (k := 2) rfl rfl ?_
  refine zbipush (k := 3) rfl rfl ?_
  refine qarr (k := 4) (n := 285) (u' := (1, 109)) rfl rfl (Or.inl rfl) (by decide) ar_285 rfl (EX_ar (L := L) ar_285 (by decide)) (tin1 43 (by decide +kernel)) (Nat.le_of_ble_eq_true rfl) (Nat.le_of_ble_eq_true rfl) rfl h0_q (by decide) (fun s1_q g1_q => ?_)
  refine qput 0 (k := 5)  rfl ob_284 (by decide) fl_2_11 ⟨_, rfl, rfl⟩ (Or.inr (Or.inr (Or.inr (Or.inr ⟨_, rfl⟩)))) True.intro rfl ⟨_, rfl, rfl⟩ g1_q (fun s2_q g2_q => ?_)
  refine zaload_n (k := 6) rfl rfl ?_
  refine ziconst (k := 7) rfl (by decide) ?_
  refine qput 1 (k := 8)  rfl ob_284 (by decide) fl_2_15 ⟨_, rfl, rfl⟩ (Or.inl rfl) True.intro rfl ⟨_, rfl, rfl⟩ g2_q (fun s3_q g3_q => ?_)
  refine zaload_n (k := 9) rfl rfl ?_
  refine zaload_n (k := 10) rfl rfl ?_
  refine qput 2 (k := 11)  rfl ob_284 (by decide) fl_2_19 ⟨_, rfl, rfl⟩ (Or.inr (Or.inr (Or.inr (Or.inl ⟨_, rfl⟩)))) True.intro rfl ⟨_, rfl, rfl⟩ g3_q (fun s4_q g4_q => ?_)
  refine zreturn (k := 12) rfl rfl rfl ?_
  exact ⟨rfl, rfl, CS_end g4_q ob_284 (by decide +kernel)⟩
