/-! HEAP ROWS -/
def zup (σ : zv_H) (a k v : Int) : zv_H := fun a' k' => if a' = a ∧ k' = k then v else σ a' k'
theorem zup_s (σ : zv_H) (a k v : Int) : zup σ a k v a k = v := by simp [zup]
theorem zup_n {σ : zv_H} {a k v a' k' : Int} (h : ¬ (a' = a ∧ k' = k)) : zup σ a k v a' k' = σ a' k' := by simp [zup, h]
def zv_ob (G : zv_W) (a : Int) (ci : Nat) : Prop := zv_sh G a = some (.inl ci)
def zv_ar (G : zv_W) (a : Int) (ty : FieldType) (n : Int) : Prop := zv_sh G a = some (.inr (ty, n)) ∧ ∀ k, G.2 a k = none
/-- the link of a field: class, number, tag -/
def zv_fl (own : String) (idx ci kf tag : Nat) : Prop := ∃ r : vw_C, vwCl[ci]? = some r ∧ kf < r.2.2 ∧ (∀ w ∈ u_ws r.1 r.2.1 r.2.2, w ∈ lw_tbl) ∧ (∀ k, k < r.2.2 → parseFieldDescriptor (r.2.1 k).2.2.1 = some (zv_ty ci k)) ∧ (∀ a, a < r.2.2 → ∀ b, b < r.2.2 → a ≠ b → (r.2.1 a).2.1 ≠ (r.2.1 b).2.1) ∧
  zv_tag (zv_ty ci kf) = tag ∧ (r.2.1 kf).1 = r.1 ∧ (Cond.fieldLink own idx r.1 (r.2.1 kf).2.1 (r.2.1 kf).2.2.1 ∈ lw_tbl ∨ ∃ h : String, Cond.fieldLinkNest own idx r.1 (r.2.1 kf).2.1 (r.2.1 kf).2.2.1 h ∈ lw_tbl)
def zv_nf (ci kf : Nat) (b : Bool) : Prop := ∃ r : vw_C, vwCl[ci]? = some r ∧ (r.2.1 kf).2.2.2 = b
theorem zv_nest {w : Cond} {Γ : zv_M} {s : State} (he : zv_e Γ) (hw : w ∈ lw_tbl) (ho : w.onTables = true) : va_Nw w Γ.1 := va_Nw.of ho (he.1 w hw)
theorem zv_uws {C : String} {T : u_T} {N : Nat} {w : Cond} (h : w ∈ u_ws C T N) : goodWord w = true := by
  obtain ⟨k, -, rfl⟩ := List.mem_map.mp h
  unfold u_lay
  split <;> rfl
theorem zv_wu {Γ : zv_M} {s : State} {args : Array Value} {C : String} {T : u_T} {N : Nat} (he : zv_e Γ) (hW : Γ.1.WarmedH s.vm) (hin : ∀ w ∈ u_ws C T N, w ∈ lw_tbl) : ∀ w ∈ u_ws C T N, w.before args s = true := fun w h => zv_word he hW (zv_uws h) (hin w h)
theorem zv_rng {ad : Int → Nat} {z : Int} {v : Value} (h : zv_R ad (zI z) v) : -2147483648 ≤ z ∧ z ≤ 2147483647 := by
  obtain ⟨x, -, rfl⟩ := h
  exact zi_r x
theorem zv_sh0 {G : zv_W} {a : Int} {sh : zv_S} (h : zv_sh G a = some sh) : 0 ≤ a ∧ a < G.1.length := by
  unfold zv_sh at h
  split at h
  · have := (List.getElem?_eq_some_iff.mp h).1
    simp only [Int.ofNat_eq_natCast]
    omega
  · cases h
theorem zv_inj {Γ : zv_M} (he : zv_e Γ) {a b : Int} (ha : 0 ≤ a) (hb : 0 ≤ b) (h : zv_ad Γ a = zv_ad Γ b) : a = b := by
  have hlt := he.2.2
  unfold zv_ad at h
  split at h <;> split at h <;> omega
theorem zv_new {Γ : zv_M} {a : Int} (ha : 0 < a) : Γ.1.heap.size ≤ zv_ad Γ a := by
  unfold zv_ad
  rw [if_neg (by omega)]
  omega
theorem zv_cR_kept {Γ : zv_M} {G : zv_W} {σ σ' : zv_H} {a : Int} {sh : zv_S} {H H' : Heap} (h : zv_cR Γ G σ a sh H) (hh : H'[zv_ad Γ a]? = H[zv_ad Γ a]?) (hs : ∀ k, zv_val G σ' a k = zv_val G σ a k) : zv_cR Γ G σ' a sh H' := by
  cases sh with
  | inl ci =>
    obtain ⟨r, V, h1, h2, h3⟩ := h
    exact ⟨r, V, h1, h2.kept hh, fun k hk => by rw [hs]; exact h3 k hk⟩
  | inr q =>
    obtain ⟨cell, h1, h2, h3, hra, h4, h5, h6⟩ := h
    exact ⟨cell, by rw [hh]; exact h1, h2, h3, hra, h4, h5, fun j hj => by rw [hs]; exact h6 j hj⟩
/-- a heap in which one cell has changed -/
theorem zv_hR_set {Γ : zv_M} {G : zv_W} {σ : zv_H} {H H' : Heap} {a k z : Int} {sh : zv_S} (he : zv_e Γ) (hH : zv_hR Γ G σ H) (hsh : zv_sh G a = some sh) (ha : 0 < a) (hsz : H'.size = H.size) (hne : ∀ q, q ≠ zv_ad Γ a → H'[q]? = H[q]?) (hc : zv_cR Γ G (zup σ a k z) a sh H') : zv_hR Γ G (zup σ a k z) H' := by
  obtain ⟨⟨h1, h2⟩, h3, h4⟩ := hH
  refine ⟨⟨by rw [hsz]; exact h1, h2⟩, fun q hq => ?_, fun b sb hb => ?_⟩
  · rw [hne q (by have := zv_new (Γ := Γ) ha; omega)]
    exact h3 q hq
  · by_cases e : b = a
    · subst e
      cases hsh.symm.trans hb
      exact hc
    · refine zv_cR_kept (h4 b sb hb) (hne _ (fun q => e (zv_inj he (zv_sh0 hb).1 (by omega) q))) (fun j => ?_)
      unfold zv_val
      rw [zup_n (fun q => e q.1)]
section ZHEAP
variable {Γ : zv_M} {y : zv_Y} {f mc ms : Nat} {Q : zv_P} {G : zv_W} {u : Nat × Nat} {pc pc' k : Nat} {ls : List (Option zv_A)} {st : List zv_A} {σ : zv_H}
theorem zgetfield {idx ci kf tag : Nat} {a : Int} (hd : y.2.2.2.2[k]? = some (pc, .getfield idx, 3, pc')) (hsh : zv_ob G a ci) (hF : zv_fl y.1.cls idx ci kf tag) (kk : zV Γ y f mc ms Q G u pc' ls ((tag, zv_val G σ a kf) :: st) σ) : zV Γ y f mc ms Q G u pc ls (zR a :: st) σ := by
  intro hm he p l e s m args below meth c X H locs lsA stV hH hL hl hs
  obtain ⟨hdec, rfl⟩ := zv_dec hm hd
  obtain ⟨v, r', rfl, hv, hs1⟩ := zv_sR_cons hs
  obtain ⟨r, V, h1, h2, h3⟩ := hH.2.2 a _ hsh
  obtain ⟨r2, g1, hk, hin, -, -, rfl, hdecl, hlink⟩ := hF
  cases h1.symm.trans g1
  obtain ⟨C, T, N⟩ := r
  have ha := (zv_sh0 hsh).1
  rcases hv with ⟨z, -⟩ | ⟨-, rfl⟩
  · exact absurd ha (by show ¬ 0 ≤ a; have : a < 0 := z; omega)
  have hu := zv_wu (s := s) (args := args) he X.2.2.2.2.2.2.2 hin
  have hK : va_K Γ.2.1 vwCl [] s := ⟨fun ci r hr => u_Kn_moved X.2.2.2.2.2.2.2.alike (he.2.1 ci r hr), fun k q h => by simp at h⟩
  have hP : va_P Γ.2.1 vwCl [(zv_ad Γ a, .inr (ci, (List.range N).map V))] H := by
    intro k q hq
    have hz : k < 1 := (List.getElem?_eq_some_iff.mp hq).1
    rw [show k = 0 by omega] at hq
    cases hq
    refine ⟨(C, T, N), h1, h2.to fun j hj => ?_⟩
    have hj : j < N := hj
    unfold vp_V
    simp [List.getD, hj]
  have hkN : kf < N := hk
  have hval : ((List.range N).map V)[kf]? = some (V kf) := by simp [hkN]
  have hdecl : (T kf).1 = C := hdecl
  have go : ∀ w, W p l e (zv_Rm f mc ms) s m args below meth c H locs u.1 u.2 w (F0 m (pc + 3) lsA (V kf :: r')) → W p l e (zv_Rm f mc ms) s m args below meth c H locs u.1 u.2 w (F0 m pc lsA (.ref (zv_ad Γ a) :: r')) := by
    intro w kw
    rcases hlink with hlink | ⟨host, hlink⟩
    · exact va_get X.1 X.2.1 hu (fun w h => h) X.2.2.2.2.2.2.1 hK hP 0 rfl h1 kf hkN (zv_word he X.2.2.2.2.2.2.2 rfl hlink) (fun x hx => by rw [hdecl] at hx; exact hx) hval hdec kw
    · exact va_getN X.1 X.2.1 hu (fun w h => h) X.2.2.2.2.2.2.1 hK hP 0 rfl h1 kf hkN (va_Nw.use rfl (va_Nw.warmF X.2.2.2.2.2.2.2 (zv_nest (s := s) he hlink rfl))) (fun x hx => by rw [hdecl] at hx; exact hx) hval hdec kw
  exact go _ (kk hm he p l e s m args below meth c X H locs lsA (V kf :: r') hH hL hl (zv_sR_mk (h3 kf hkN).1 hs1))
theorem zgetI {idx ci kf : Nat} {a : Int} (hd : y.2.2.2.2[k]? = some (pc, .getfield idx, 3, pc')) (hsh : zv_ob G a ci) (hF : zv_fl y.1.cls idx ci kf 0) (hx : G.2 a kf = none) (kk : zV Γ y f mc ms Q G u pc' ls (zI (σ a kf) :: st) σ) : zV Γ y f mc ms Q G u pc ls (zR a :: st) σ :=
  zgetfield hd hsh hF (by unfold zv_val; rw [hx]; exact kk)
theorem zgetL {idx ci kf : Nat} {a : Int} (hd : y.2.2.2.2[k]? = some (pc, .getfield idx, 3, pc')) (hsh : zv_ob G a ci) (hF : zv_fl y.1.cls idx ci kf 1) (hx : G.2 a kf = none) (kk : zV Γ y f mc ms Q G u pc' ls (zL (σ a kf) :: st) σ) : zV Γ y f mc ms Q G u pc ls (zR a :: st) σ :=
  zgetfield hd hsh hF (by unfold zv_val; rw [hx]; exact kk)
theorem zgetR {idx ci kf : Nat} {a : Int} (hd : y.2.2.2.2[k]? = some (pc, .getfield idx, 3, pc')) (hsh : zv_ob G a ci) (hF : zv_fl y.1.cls idx ci kf 2) (hx : G.2 a kf = none) (kk : zV Γ y f mc ms Q G u pc' ls (zR (σ a kf) :: st) σ) : zV Γ y f mc ms Q G u pc ls (zR a :: st) σ :=
  zgetfield hd hsh hF (by unfold zv_val; rw [hx]; exact kk)
/-- a final field of which the world says what it holds -/
theorem zgetF {idx ci kf tag : Nat} {a z : Int} (hd : y.2.2.2.2[k]? = some (pc, .getfield idx, 3, pc')) (hsh : zv_ob G a ci) (hF : zv_fl y.1.cls idx ci kf tag) (hx : G.2 a kf = some z) (kk : zV Γ y f mc ms Q G u pc' ls ((tag, z) :: st) σ) : zV Γ y f mc ms Q G u pc ls (zR a :: st) σ :=
  zgetfield hd hsh hF (by unfold zv_val; rw [hx]; exact kk)
theorem zv_fit {ad : Int → Nat} {ty : FieldType} {z : Int} {v : Value} (h : zv_R ad (zv_tag ty, z) v) (hok : zv_ok ty z) (hty : ty = .int ∨ ty = .boolean ∨ ty = .long ∨ (∃ n, ty = .object n) ∨ ∃ t, ty = .array t) : narrow ty v = v ∧ fits ty v = true := by
  rcases hty with rfl | rfl | rfl | ⟨n, rfl⟩ | ⟨t, rfl⟩
  · obtain ⟨x, rfl, -⟩ := h
    exact ⟨rfl, rfl⟩
  · obtain ⟨x, rfl, ex⟩ := h
    have hx : x = 0 ∨ x = 1 := by
      rcases hok with q | q
      · exact Or.inl (Int32.toInt_inj.mp (ex.trans q))
      · exact Or.inr (Int32.toInt_inj.mp (ex.trans q))
    rcases hx with rfl | rfl <;> exact ⟨rfl, rfl⟩
  · obtain ⟨x, rfl, -⟩ := h
    exact ⟨rfl, rfl⟩
  · rcases h with ⟨-, rfl⟩ | ⟨-, rfl⟩ <;> exact ⟨rfl, rfl⟩
  · rcases h with ⟨-, rfl⟩ | ⟨-, rfl⟩ <;> exact ⟨rfl, rfl⟩
def zv_kd (ty : FieldType) : Prop := ty = .int ∨ ty = .boolean ∨ ty = .long ∨ (∃ n, ty = .object n) ∨ ∃ t, ty = .array t
theorem zputfield {idx ci kf : Nat} {a : Int} {q : zv_A} (hd : y.2.2.2.2[k]? = some (pc, .putfield idx, 3, pc')) (hsh : zv_ob G a ci) (hF : zv_fl y.1.cls idx ci kf q.1) (hnf : zv_nf ci kf false) (hkd : zv_kd (zv_ty ci kf)) (hok : zv_ok (zv_ty ci kf) q.2) (ha : 0 < a) (hx : G.2 a kf = none) (kk : zV Γ y f mc ms Q G u pc' ls st (zup σ a kf q.2)) : zV Γ y f mc ms Q G u pc ls (q :: zR a :: st) σ := by
  intro hm he p l e s m args below meth c X H locs lsA stV hH hL hl hs
  obtain ⟨hdec, rfl⟩ := zv_dec hm hd
  obtain ⟨v, r', rfl, hv, hs1⟩ := zv_sR_cons hs
  obtain ⟨vr, r', rfl, hvr, hs2⟩ := zv_sR_cons hs1
  obtain ⟨r, V, h1, h2, h3⟩ := hH.2.2 a _ hsh
  obtain ⟨r2, g1, hk, hin, hpt, hnm, htag, hdecl, hlink⟩ := hF
  cases h1.symm.trans g1
  obtain ⟨r3, g3, hfin⟩ := hnf
  cases h1.symm.trans g3
  obtain ⟨C, T, N⟩ := r
  rcases hvr with ⟨z, -⟩ | ⟨-, rfl⟩
  · exact absurd ha (by show ¬ 0 < a; have : a < 0 := z; omega)
  have hu := zv_wu (s := s) (args := args) he X.2.2.2.2.2.2.2 hin
  have hK : va_K Γ.2.1 vwCl [] s := ⟨fun ci r hr => u_Kn_moved X.2.2.2.2.2.2.2.alike (he.2.1 ci r hr), fun k q h => by simp at h⟩
  have hkN : kf < N := hk
  have hdecl : (T kf).1 = C := hdecl
  have hap := va_apart (own := C) hu (fun w h => h) (zv_ty ci) hpt hnm hK h1
  obtain ⟨cell, q1, q2, q3, q4⟩ := h2
  obtain ⟨hS, hfc, kC, hkC, hkind⟩ := hK.1 ci _ h1
  obtain ⟨cf, kf', fi, fd, hi, hsl⟩ := hS kf hkN
  have hlay := hu _ (u_in_lay hkN)
  unfold u_lay at hlay
  have hfin : (T kf).2.2.2 = false := hfin
  rw [if_neg (by rw [hfin]; decide)] at hlay
  have hst := (u_facts hfc hkC (u_lays hu (fun w h => h) hkN) hi).1
  have hvt : zv_R (zv_ad Γ) (zv_tag (zv_ty ci kf), q.2) v := by rw [htag]; exact hv
  obtain ⟨hn, hft⟩ := zv_fit hvt hok hkd
  have h6 := u_store hfc hkC hkind hlay hi (hpt kf hkN) hn hft
  have go : ∀ w, (∀ H' : Heap, H'[zv_ad Γ a]? = some (cell.setSlot fd.slot v) → H'.size = H.size → (∀ q, q ≠ zv_ad Γ a → H'[q]? = H[q]?) → W p l e (zv_Rm f mc ms) s m args below meth c H' (locs ++ [⟨zv_ad Γ a, fd.slot⟩]) u.1 u.2 w (F0 m (pc + 3) lsA r')) → W p l e (zv_Rm f mc ms) s m args below meth c H locs u.1 u.2 w (F0 m pc lsA (v :: .ref (zv_ad Γ a) :: r')) := by
    intro w kw
    have hi' : s.fieldFound? C (T kf).2.1 (T kf).2.2.1 = some (cf, kf', fi, fd) := by rw [← hdecl]; exact hi
    rcases hlink with hlink | ⟨host, hlink⟩
    · exact W.putK X.1 X.2.1 (f := fd) ⟨X.2.2.2.2.2.2.1, zv_word he X.2.2.2.2.2.2.2 rfl hlink, ⟨_, _, _, hi'⟩, hst⟩ (by rw [q2]; exact h6) q1 q3 (by rw [hsl]; exact k2_hasslot (q4 kf hkN)) rfl rfl hdec kw
    · exact va_WputK X.1 X.2.1 (f := fd) X.2.2.2.2.2.2.1 (va_Nw.use rfl (va_Nw.warmF X.2.2.2.2.2.2.2 (zv_nest (s := s) he hlink rfl))) hi' hst (by rw [q2]; exact h6) q1 q3 (by rw [hsl]; exact k2_hasslot (q4 kf hkN)) rfl rfl hdec kw
  refine go _ (fun H' e1 e2 e3 => ?_)
  rw [hsl] at e1
  refine kk hm he p l e s m args below meth c X H' _ lsA r' (zv_hR_set he hH hsh ha e2 e3 ?_) (fun q hq => ?_) hl hs2
  · refine ⟨(C, T, N), updV V kf v, h1, ⟨_, e1, q2, q3, t_set q4 hap hkN v⟩, fun j hj => ?_⟩
    have hj : j < N := hj
    by_cases ej : j = kf
    · subst ej
      unfold zv_val updV
      rw [hx, zup_s, if_pos rfl]
      exact ⟨hvt, hok⟩
    · have e : zv_val G (zup σ a kf q.2) a j = zv_val G σ a j := by
        unfold zv_val
        rw [zup_n (by omega)]
      rw [e]
      unfold updV
      rw [if_neg ej]
      exact h3 j hj
  · rcases List.mem_append.mp hq with h | h
    · exact hL q h
    · simp at h
      subst h
      exact zv_new ha
/-- a final field, in the constructor -/
theorem zputF {idx ci kf : Nat} {a : Int} {q : zv_A} (hd : y.2.2.2.2[k]? = some (pc, .putfield idx, 3, pc')) (hsh : zv_ob G a ci) (hF : zv_fl y.1.cls idx ci kf q.1) (hnf : zv_nf ci kf true) (hkd : zv_kd (zv_ty ci kf)) (hok : zv_ok (zv_ty ci kf) q.2) (hin : y.1.name = "<init>") (hcl : ∃ r : vw_C, vwCl[ci]? = some r ∧ r.1 = y.1.cls) (ha : 0 < a) (hx : G.2 a kf = none) (kk : zV Γ y f mc ms Q G u pc' ls st (zup σ a kf q.2)) : zV Γ y f mc ms Q G u pc ls (q :: zR a :: st) σ := by
  intro hm he p l e s m args below meth c X H locs lsA stV hH hL hl hs
  obtain ⟨hdec, rfl⟩ := zv_dec hm hd
  obtain ⟨v, r', rfl, hv, hs1⟩ := zv_sR_cons hs
  obtain ⟨vr, r', rfl, hvr, hs2⟩ := zv_sR_cons hs1
  obtain ⟨r, V, h1, h2, h3⟩ := hH.2.2 a _ hsh
  obtain ⟨r2, g1, hk, hin', hpt, hnm, htag, hdecl, hlink⟩ := hF
  cases h1.symm.trans g1
  obtain ⟨r3, g3, hfin⟩ := hnf
  cases h1.symm.trans g3
  obtain ⟨r4, g4, hcl⟩ := hcl
  cases h1.symm.trans g4
  obtain ⟨C, T, N⟩ := r
  rcases hvr with ⟨z, -⟩ | ⟨-, rfl⟩
  · exact absurd ha (by show ¬ 0 < a; have : a < 0 := z; omega)
  have hu := zv_wu (s := s) (args := args) he X.2.2.2.2.2.2.2 hin'
  have hK : va_K Γ.2.1 vwCl [] s := ⟨fun ci r hr => u_Kn_moved X.2.2.2.2.2.2.2.alike (he.2.1 ci r hr), fun k q h => by simp at h⟩
  have hkN : kf < N := hk
  have hdecl : (T kf).1 = C := hdecl
  have hcl : C = y.1.cls := hcl
  have hap := va_apart (own := C) hu (fun w h => h) (zv_ty ci) hpt hnm hK h1
  obtain ⟨cell, q1, q2, q3, q4⟩ := h2
  obtain ⟨hS, hfc, kC, hkC, hkind⟩ := hK.1 ci _ h1
  obtain ⟨cf, kf', fi, fd, hi, hsl⟩ := hS kf hkN
  have hlay := hu _ (u_in_lay hkN)
  unfold u_lay at hlay
  have hfin : (T kf).2.2.2 = true := hfin
  rw [if_pos hfin] at hlay
  have hst := (u_facts hfc hkC (u_lays hu (fun w h => h) hkN) hi).1
  have hcf : m.cls = cf := by
    obtain ⟨_, _, c', _, _, _, -, -, hf', -, -, -, hown2, -⟩ := Cond.laysFinal_spec hlay
    have e1 : c' = cf := by have := hi.symm.trans hf'; simp at this; exact this.1.symm
    rw [hdecl, hcl] at hown2
    rw [← e1]; exact Option.some.inj (X.2.2.2.2.2.2.1.symm.trans hown2)
  have hvt : zv_R (zv_ad Γ) (zv_tag (zv_ty ci kf), q.2) v := by rw [htag]; exact hv
  obtain ⟨hn, hft⟩ := zv_fit hvt hok hkd
  have h6 := u_fits hfc hkC hkind (Or.inr hlay) hi (hpt kf hkN) hn hft
  have hi' : s.fieldFound? C (T kf).2.1 (T kf).2.2.1 = some (cf, kf', fi, fd) := by rw [← hdecl]; exact hi
  rcases hlink with hlink | ⟨host, hlink⟩
  · refine W.putFinK X.1 X.2.1 X.2.2.2.2.2.2.1 (zv_word he X.2.2.2.2.2.2.2 rfl hlink) hi' hst hcf (X.2.2.2.2.2.1.trans hin) (by rw [q2]; exact h6) q1 q3 (by rw [hsl]; exact k2_hasslot (q4 kf hkN)) rfl rfl hdec (fun H' e1 e2 e3 => ?_)
    rw [hsl] at e1
    refine kk hm he p l e s m args below meth c X H' _ lsA r' (zv_hR_set he hH hsh ha e2 e3 ?_) (fun q hq => ?_) hl hs2
    · refine ⟨(C, T, N), updV V kf v, h1, ⟨_, e1, q2, q3, t_set q4 hap hkN v⟩, fun j hj => ?_⟩
      have hj : j < N := hj
      by_cases ej : j = kf
      · subst ej
        unfold zv_val updV
        rw [hx, zup_s, if_pos rfl]
        exact ⟨hvt, hok⟩
      · have e : zv_val G (zup σ a kf q.2) a j = zv_val G σ a j := by
          unfold zv_val
          rw [zup_n (by omega)]
        rw [e]
        unfold updV
        rw [if_neg ej]
        exact h3 j hj
    · rcases List.mem_append.mp hq with h | h
      · exact hL q h
      · simp at h
        subst h
        exact zv_new ha
  · have hcls : m.cls = cf := hcf
    refine va_Wputf X.1 X.2.1 X.2.2.2.2.2.2.1 (va_Nw.use rfl (va_Nw.warmF X.2.2.2.2.2.2.2 (zv_nest (s := s) he hlink rfl))) hi' hst (Or.inr ⟨hcf, X.2.2.2.2.2.1.trans hin⟩) q1 (by rw [q3]; exact fun h => by cases h) (by rw [hsl]; exact k2_hasslot (q4 kf hkN)) h6.1 (by rw [q2, q3]; exact h6.2) rfl rfl hdec ?_
    have haH : zv_ad Γ a < H.size := (Array.getElem?_eq_some_iff.mp q1).1
    rw [hsl]
    refine kk hm he p l e s m args below meth c X _ _ lsA r' (zv_hR_set he hH hsh ha (by simp) (fun q hq => by simp [Array.getElem?_setIfInBounds, Ne.symm hq]) ?_) (fun q hq => ?_) hl hs2
    · refine ⟨(C, T, N), updV V kf v, h1, ⟨cell.setSlot (Γ.2.1.2 ci kf) v, by simp [Array.getElem?_setIfInBounds, haH], q2, q3, t_set q4 hap hkN v⟩, fun j hj => ?_⟩
      have hj : j < N := hj
      by_cases ej : j = kf
      · subst ej
        unfold zv_val updV
        rw [hx, zup_s, if_pos rfl]
        exact ⟨hvt, hok⟩
      · have e : zv_val G (zup σ a kf q.2) a j = zv_val G σ a j := by
          unfold zv_val
          rw [zup_n (by omega)]
        rw [e]
        unfold updV
        rw [if_neg ej]
        exact h3 j hj
    · rcases List.mem_append.mp hq with h | h
      · exact hL q h
      · simp at h
        subst h
        exact zv_new ha
end ZHEAP
