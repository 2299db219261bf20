/-! ARRAYS OF REFERENCES: a new one, a store into one; the constructors of Acts and of the model -/
section ZAREF
variable {Γ : zv_M} {y : zv_Y} {f mc ms : Nat} {Q : zv_P} {G : zv_W} {u : Nat × Nat} {pc pc' k : Nat} {ls : List (Option zv_A)} {st : List zv_A} {σ : zv_H}
theorem zanewarray {idx : Nat} {C : String} {n : Int} (hd : y.2.2.2.2[k]? = some (pc, .anewarray idx, 3, pc')) (hn : 0 ≤ n ∧ n ≤ 100000) (hx : ∀ k, G.2 G.1.length k = none)
    (hl1_q : Cond.classLink y.1.cls idx C ∈ lw_tbl) (hl2_q : Cond.arrayOver (.object C) ∈ lw_tbl) (hr1_q : u.1 + 1 ≤ mc) (hr2_q : u.2 + n.toNat ≤ ms) (kk : zV Γ y f mc ms Q (G.1 ++ [.inr (.object C, n)], G.2) (u.1 + 1, u.2 + n.toNat) pc' ls (zR G.1.length :: st) (znw σ G.1.length (fun _ => -1))) : zV Γ y f mc ms Q G u pc ls (zI n :: st) σ := by
  intro hm he p l e s m args below meth c X H locs lsA stV hH hL hl hs
  obtain ⟨hdec, rfl⟩ := zv_dec hm hd
  obtain ⟨v, r', rfl, hv, hs1_q⟩ := zv_sR_cons hs
  obtain ⟨z, rfl, ez⟩ := hv
  have ez : z.toInt = n := ez
  have had := zv_adN hH (Or.inr hH.1.2)
  have hzn : z.toNatClampNeg = n.toNat := by show z.toInt.toNat = _; rw [ez]
  have hneg : ¬ z < 0 := by
    have e0_q : (0 : Int32).toInt = 0 := rfl
    rw [Int32.lt_iff_toInt_lt, e0_q]
    omega
  have hal := X.2.2.2.2.2.2.2.alike
  have hao : va_AO C Γ.1 := va_AO.of (he.1 _ hl2_q)
  refine W.anew X.1 X.2.1 X.2.2.2.2.2.2.1 (zv_word he X.2.2.2.2.2.2.2 rfl hl1_q) (va_AO.use (va_AO.moved hal hao)) rfl hdec rfl hneg (by omega) hr1_q (by rw [hzn]; exact hr2_q) fun cA kA comp f1_q f2_q f3_q f4_q => ?_
  obtain ⟨compG, cG, kG, g1_q, g2_q, g3_q, g4_q, g5_q⟩ := Cond.arrayOver_spec hao
  rw [hal.findClass] at f1_q
  have ec : cG = cA := Option.some.inj (g5_q.symm.trans f1_q)
  subst ec
  rw [hzn]
  refine kk hm he p l e s m args below meth c X _ locs lsA (_ :: r') (zv_hR_push hH (Array.size_push _) (fun q hq => by rw [Array.getElem?_push, if_neg (Nat.ne_of_lt hq)]) he ?_) hL hl (zv_sR_mk (Or.inr ⟨by show (0 : Int) ≤ G.1.length; omega, by show _ = Value.ref (zv_ad Γ G.1.length); rw [had]⟩) hs1_q)
  refine ⟨_, by rw [had]; exact Array.getElem?_push_size, ⟨(fun k h => by cases h), kG, g3_q, compG, g4_q⟩, (by intro h; cases h), ⟨kG, compG, g3_q, g4_q, g1_q⟩, ?_, by show n < 2147483648; omega, fun j hj => ?_⟩
  · show (((Array.replicate n.toNat Value.null).size : Nat) : Int) = n
    rw [Array.size_replicate]
    omega
  · have hj : (j : Int) < n := hj
    have hv : zv_val (G.1 ++ [.inr (.object C, n)], G.2) (znw σ G.1.length (fun _ => -1)) G.1.length j = -1 := by
      show (G.2 G.1.length j).getD _ = _
      rw [hx, znw_s]
      rfl
    rw [hv]
    refine ⟨.null, ?_, Or.inl ⟨by show (-1 : Int) < 0; omega, rfl⟩, trivial⟩
    show (Array.replicate n.toNat Value.null)[j]? = some .null
    rw [Array.getElem?_replicate, if_pos (by omega)]
theorem zaastore {a i n b : Int} {C : String} {T : u_T} {N ci : Nat} (hd : y.2.2.2.2[k]? = some (pc, .aastore, 1, pc')) (ha : zv_sh G a = some (.inr (.object C, n))) (hx : ∀ k, G.2 a k = none) (hi : 0 ≤ i ∧ i < n) (h0_q : 0 < a) (hb : zv_ob G b ci) (hc : vwCl[ci]? = some (C, T, N)) (kk : zV Γ y f mc ms Q G u pc' ls st (zup σ a i b)) : zV Γ y f mc ms Q G u pc ls (zR b :: zI i :: zR a :: st) σ := by
  intro hm he p l e s m args below meth c X H locs lsA stV hH hL hl hs
  obtain ⟨hdec, rfl⟩ := zv_dec hm hd
  obtain ⟨w0_q, r', rfl, hw, hs0_q⟩ := zv_sR_cons hs
  obtain ⟨w1_q, r', rfl, hw1_q, hs1_q⟩ := zv_sR_cons hs0_q
  obtain ⟨x, rfl, ex⟩ := hw1_q
  have ex : x.toInt = i := ex
  obtain ⟨vr, r', rfl, hvr, hs2_q⟩ := zv_sR_cons hs1_q
  obtain ⟨cell, c1_q, c2_q, c3_q, cra, c4_q, c5_q, c6_q⟩ := hH.2.2 a _ ha
  rcases hvr with ⟨z, -⟩ | ⟨-, rfl⟩
  · exact absurd h0_q (by show ¬ 0 < a; have : a < 0 := z; omega)
  have hb0_q := (zv_sh0 hb).1
  rcases hw with ⟨z, -⟩ | ⟨-, rfl⟩
  · exact absurd hb0_q (by show ¬ 0 ≤ b; have : b < 0 := z; omega)
  have hj := zv_cl32 ex hi.1
  have c4_q : (cell.slots.size : Int) = n := c4_q
  have hal := X.2.2.2.2.2.2.2.alike
  obtain ⟨kA, comp, k1_q, k2_q, k3_q⟩ := cra
  obtain ⟨kA', hkA', he'⟩ := hal.2.2 _ _ k1_q
  have hkind : kA'.kind = .array comp (.object C) := by rw [he']; exact k2_q
  obtain ⟨rr, V, h1_q, ⟨cellB, q1_q, q2_q, q3_q, -⟩, -⟩ := hH.2.2 b _ hb
  cases h1_q.symm.trans hc
  have hKn : u_Kn s C T N (Γ.2.1.1 ci) (Γ.2.1.2 ci) := u_Kn_moved hal (he.2.1 ci _ hc)
  have hcls := hKn.2
  have ecomp : comp = Γ.2.1.1 ci := by
    have k4_q : s.vm.findClass C = some comp := by rw [hal.findClass]; exact k3_q
    exact Option.some.inj (k4_q.symm.trans hcls.1)
  subst ecomp
  obtain ⟨kC, hkC, -⟩ := hcls.2
  refine W.aast X.1 X.2.1 c1_q (c2_q.1) c3_q hkA' hkind rfl hkC ⟨fun q => zv_nin ex hi.1 (by rw [c4_q]; exact hi.2) (Or.inl q), by omega⟩ q1_q (fun q h => by rw [q3_q] at h; cases h) (by rw [q2_q]; exact hkC) (by rw [q2_q]; exact va_assign hcls) rfl rfl hdec (fun H' e1_q e2_q e3_q => ?_)
  refine kk hm he p l e s m args below meth c X H' _ lsA r' (zv_hR_set he hH ha h0_q e2_q e3_q ?_) (fun q hq => ?_) hl hs2_q
  · refine ⟨_, e1_q, c2_q, c3_q, ⟨kA, _, k1_q, k2_q, k3_q⟩, by simp [Cell.setSlot]; exact c4_q, c5_q, fun j hjn => ?_⟩
    have hjn : (j : Int) < n := hjn
    by_cases ej : j = x.toNatClampNeg
    · subst ej
      refine ⟨.ref (zv_ad Γ b), ?_, ?_⟩
      · have : x.toNatClampNeg < cell.slots.size := by omega
        simp [Cell.setSlot, this]
      · have e : zv_val G (zup σ a i b) a (x.toNatClampNeg : Int) = b := by
          unfold zv_val
          rw [hx, hj, zup_s]
          rfl
        show zv_R (zv_ad Γ) (zR (zv_val G (zup σ a i b) a (x.toNatClampNeg : Int))) _ ∧ zv_ok _ _
        rw [e]
        exact ⟨Or.inr ⟨hb0_q, rfl⟩, trivial⟩
    · obtain ⟨w, g1_q, g2_q⟩ := c6_q j hjn
      have e : zv_val G (zup σ a i b) a (j : Int) = zv_val G σ a (j : Int) := by
        unfold zv_val
        rw [zup_n (by omega)]
      rw [e]
      exact ⟨w, by rw [slot_ne _ _ (Ne.symm ej)]; exact g1_q, g2_q⟩
  · rcases List.mem_append.mp hq with h | h
    · exact hL q h
    · simp at h
      subst h
      exact zv_new h0_q
end ZAREF
/-- the rows on the way, while j states stand in 63 -/
def EA (j : Int) : zv_H := fun a k => if a = 63 ∧ j ≤ k then -1 else EX a k
theorem EA_o {j a : Int} (h : a ≠ 63) (k : Int) : EA j a k = EX a k := if_neg (fun q => h q.1)
theorem EX_63 {j : Int} (h0_q : 0 ≤ j) (h1_q : j < 20) : EX 63 j = 64 + 11 * j := EX_f (L := 0) (st_acts h0_q h1_q).1
theorem EA_up {j : Int} (h0_q : 0 ≤ j) (h1_q : j < 20) : zup (EA j) 63 j (64 + 11 * j) = EA (j + 1) := by
  funext a k
  by_cases e : a = 63 ∧ k = j
  · rw [e.1, e.2, zup_s]
    unfold EA
    rw [if_neg (by omega), EX_63 h0_q h1_q]
  · rw [zup_n (by omega)]
    unfold EA
    by_cases e2_q : a = 63 ∧ j ≤ k
    · rw [if_pos e2_q, if_pos (by omega)]
    · rw [if_neg e2_q, if_neg (by omega)]
theorem CS_E {L : Int} {E E' : zv_H} {B n : Int} {R : Int → Int} {σ0 σ : zv_H} (h : CS L E B n R σ0 σ) (e : ∀ a, B < a → a < n → ∀ sh, zv_sh (GM L) a = some sh → ∀ k, 0 ≤ k → k < szz sh → E' a k = E a k) : CS L E' B n R σ0 σ :=
  ⟨h.1, h.2.1, fun a h1_q h2_q sh hs k k0_q k1_q => by rw [e a h1_q h2_q sh hs k k0_q k1_q]; exact h.2.2 a h1_q h2_q sh hs k k0_q k1_q⟩
theorem CS_up {L : Int} {E : zv_H} {B n : Int} {R : Int → Int} {σ0 σ : zv_H} (h : CS L E B n R σ0 σ) {a k v : Int} (ha : B < a) : CS L (zup E a k v) B n R σ0 (zup σ a k v) := by
  refine ⟨fun x j h1_q => by rw [zup_n (by omega)]; exact h.1 x j h1_q, fun j h1_q => by rw [zup_n (by omega)]; exact h.2.1 j h1_q, fun x h1_q h2_q sh hs j j0_q j1_q => ?_⟩
  by_cases e : x = a ∧ j = k
  · rw [e.1, e.2, zup_s, zup_s]
  · rw [zup_n e, zup_n e]
    exact h.2.2 x h1_q h2_q sh hs j j0_q j1_q
theorem st_k {k : Int} (h0_q : 0 ≤ k) (h1_q : k < 20) : 64 + 11 * k ∈ stL := (st_acts (L := 0) h0_q h1_q).2

set_option maxHeartbeats 4000000 in
set_option maxRecDepth 20000 in
theorem i_Acts_62 {Γ : zv_M} {L : Int} {σ : zv_H} (h00_q : ∀ k, 0 ≤ k → σ 62 k = zdf 0 k) : zC Γ m_Acts_init 2 221 3340 (GP L 63) [zR 62] σ (zIn L 62 284 σ) := by
  refine zC_of (ls0 := [_, _]) zm_Acts_init (by decide) rfl (Nat.le_of_ble_eq_true rfl) ?_
  have h0_q : CS L EX 62 ((63 : Nat) : Int) (zdf 0) σ σ := CS_0 h00_q rfl
  refine zaload_n (k := 0) rfl rfl ?_
  refine zobjInit (k := 1) rfl (tin2 216 (by decide +kernel)) (tin1 26 (by decide +kernel)) (tin1 27 (by decide +kernel)) (by decide) rfl (Nat.le_of_ble_eq_true rfl) ?_
  refine zaload_n (k := 2) rfl rfl ?_
  refine zbipush (k := 3) rfl rfl ?_
  refine zanewarray (k := 4) (C := "NineTimes$State") rfl (by decide) (fun _ => rfl) (tin2 217 (by decide +kernel)) (tin2 218 (by decide +kernel)) (Nat.le_of_ble_eq_true rfl) (Nat.le_of_ble_eq_true rfl) ?_
  rw [GP_len (by decide), GP_push (sh := .inr (.object "NineTimes$State", 20)) rfl]
  have ho : zv_sh (GM L) 63 = some (.inr (.object "NineTimes$State", 20)) := rfl
  have g0_q : CS L (EA 0) 62 ((64 : Nat) : Int) (zdf 0) σ (znw σ ((63 : Nat) : Int) (fun _ => -1)) := by
    have q := CS_E (E' := EA 0) h0_q (fun a h1_q h2_q => by have h2_q : a < 63 := h2_q; omega)
    refine CS_sub (n := 63) (CS_new q (by decide) (fun a k h1_q => znw_n (by have h1_q : a < 63 := h1_q; show ¬ a = 63; omega))) (fun a h1_q h2_q => ?_)
    have h2_q : a < 64 := h2_q
    have e : a = 63 := by omega
    rw [e]
    intro sh hs j j0_q j1_q
    rw [show znw σ ((63 : Nat) : Int) (fun _ => -1) 63 j = -1 from znw_s _ _ _ _]
    exact (if_pos ⟨rfl, j0_q⟩).symm
  generalize znw σ ((63 : Nat) : Int) (fun _ => -1) = s0_q at g0_q ⊢
  refine qput 0 (k := 5) rfl ob_62 (by decide) fl_0_11 ⟨_, rfl, rfl⟩ (Or.inr (Or.inr (Or.inr (Or.inr ⟨_, rfl⟩)))) True.intro rfl ⟨_, rfl, rfl⟩ g0_q (fun s1_q g1_q => ?_)
  refine zaload_n (k := 6) rfl rfl ?_
  refine ziconst (k := 7) rfl (by decide) ?_
  refine qput 1 (k := 8) rfl ob_62 (by decide) fl_0_17 ⟨_, rfl, rfl⟩ (Or.inl rfl) True.intro rfl ⟨_, rfl, rfl⟩ g1_q (fun s2_q g2_q => ?_)
  refine zaload_n (k := 9) rfl rfl ?_
  refine ziconst (k := 10) rfl (by decide) ?_
  refine qput 2 (k := 11) rfl ob_62 (by decide) fl_0_21 ⟨_, rfl, rfl⟩ (Or.inl rfl) True.intro rfl ⟨_, rfl, rfl⟩ g2_q (fun s3_q g3_q => ?_)
  refine ziconst (k := 12) rfl (by decide) ?_
  refine zistore_n (k := 13) (ls' := [some (zR 62), some (zI 0)]) rfl (Nat.le_of_ble_eq_true rfl) rfl ?_
  generalize hR : rup (rup (rup (zdf 0) 0 63) 1 0) 2 0 = R
  have hR0 : ∀ j, CS L (EA j) 62 = CS L (EA j) 62 := fun _ => rfl
  have lp : ∀ (g i : Nat) (s : zv_H), i ≤ 20 → 20 - i < g → CS L (EA i) 62 ((64 + 11 * i : Nat) : Int) R σ s → zV Γ m_Acts_init 2 221 3340 (zIn L 62 284 σ) (GP L (64 + 11 * i)) (1 + 11 * i, 20 + 166 * i) 25 [some (zR 62), some (zI i)] [] s := by
    intro g
    induction g with
    | zero => intro i s _ hg; exact absurd hg (Nat.not_lt_zero _)
    | succ g ih =>
      intro i s hi hg hS
      have er : s 62 0 = 63 := by rw [hS.2.1 0 (by decide), ← hR]; rfl
      refine ziload_n (k := 14) rfl rfl ?_
      refine zaload_n (k := 15) rfl rfl ?_
      refine qgetR (k := 16) (z := 63) rfl ob_62 (by omega) fl_0_11 er ?_
      refine zarraylength (k := 17) rfl (GP_shp ho (by omega)) ?_
      refine zicmp_ge (k := 18) rfl rfl (fun c1_q => ?_) (fun c1_q => ?_)
      · have ei : i = 20 := by omega
        subst ei
        refine zreturn (k := 28) rfl rfl rfl ?_
        have q : CS L EX 62 ((284 : Nat) : Int) R σ s := CS_E hS (fun a h1_q h2_q sh hs k k0_q k1_q => by
          by_cases e : a = 63
          · rw [e] at hs
            cases ho.symm.trans hs
            have k1_q : k < 20 := k1_q
            unfold EA
            rw [if_neg (by omega)]
          · exact (EA_o e k).symm)
        exact ⟨rfl, rfl, CS_end q ob_62 (by rw [← hR]; decide +kernel)⟩
      · have hm := st_k (k := (i : Int)) (by omega) (by omega)
        refine zaload_n (k := 19) rfl rfl ?_
        refine qgetR (k := 20) (z := 63) rfl ob_62 (by omega) fl_0_11 er ?_
        refine ziload_n (k := 21) rfl rfl ?_
        refine qnew (k := 22) (ci := 8) (n := 64 + 11 * i) (u' := (1 + 11 * i + 1, 20 + 166 * i + 13)) rfl rfl in_X8 tyX8_ok kd_X8 (st_ob hm) (by omega) (tin2 217 (by decide +kernel)) (tin1 149 (by decide +kernel)) (tin1 5 (by decide +kernel)) (by show 1 + 11 * i + 1 ≤ 221; omega) (by show 20 + 166 * i + 13 ≤ 3340; omega) rfl hS (by omega) (fun t1_q d1_q z1_q f1_q => ?_)
        refine zdup (k := 23) rfl rfl ?_
        refine qinit (k := 24) (n := 64 + 11 * i) (m := 64 + 11 * i + 11) (u' := (1 + 11 * i + 1 + 10, 20 + 166 * i + 13 + 153)) (as := []) rfl (i_State (by omega) hm z1_q) fm_State_init lk_0_24 rfl rfl (Nat.le_of_ble_eq_true rfl) (Nat.le_of_ble_eq_true rfl) (by show 1 + 11 * i + 1 + 10 ≤ 221; omega) (by show 20 + 166 * i + 13 + 153 ≤ 3340; omega) rfl (by omega) d1_q (by omega) (fun x x1_q x2_q j => EA_o (by omega) j) (fun t2_q d2_q => ?_)
        refine zaastore (k := 25) (C := "NineTimes$State") rfl (GP_shp ho (by omega)) (fun _ => rfl) (by omega) (by decide) (GP_ob (st_ob hm) (by omega)) rfl ?_
        have d3_q := CS_up (a := 63) (k := i) (v := 64 + 11 * i) d2_q (by decide)
        rw [EA_up (by omega) (by omega)] at d3_q
        refine ziincB (k := 26) (ls' := [some (zR 62), some (zI ((i + 1 : Nat) : Int))]) rfl rfl (by decide) (by omega) rfl ?_
        refine zgoto (k := 27) rfl rfl ?_
        have e1_q : (1 + 11 * i + 1 + 10, 20 + 166 * i + 13 + 153) = (1 + 11 * (i + 1), 20 + 166 * (i + 1)) := by
          rw [show 1 + 11 * i + 1 + 10 = 1 + 11 * (i + 1) by omega, show 20 + 166 * i + 13 + 153 = 20 + 166 * (i + 1) by omega]
        have e2_q : 64 + 11 * i + 11 = 64 + 11 * (i + 1) := by omega
        rw [e2_q] at d3_q ⊢
        rw [e1_q]
        exact ih (i + 1) _ (by omega) (by omega) d3_q
  exact lp 21 0 s3_q (by decide) (by decide) (by rw [← hR]; exact g3_q)
