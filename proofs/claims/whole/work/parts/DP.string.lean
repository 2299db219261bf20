/-! THE STRING OF THE OWN WORDS: a reference by its address; the library's methods that read it -/
def TXT : String := "county quota pays guard rail to weeks man at signs jumps likes post names purse week far if or and not all min max "
def BYT : List Int32 := [99, 111, 117, 110, 116, 121, 32, 113, 117, 111, 116, 97, 32, 112, 97, 121, 115, 32, 103, 117, 97, 114, 100, 32, 114, 97, 105, 108, 32, 116, 111, 32, 119, 101, 101, 107, 115, 32, 109, 97, 110, 32, 97, 116, 32, 115, 105, 103, 110, 115, 32, 106, 117, 109, 112, 115, 32, 108, 105, 107, 101, 115, 32, 112, 111, 115, 116, 32, 110, 97, 109, 101, 115, 32, 112, 117, 114, 115, 101, 32, 119, 101, 101, 107, 32, 102, 97, 114, 32, 105, 102, 32, 111, 114, 32, 97, 110, 100, 32, 110, 111, 116, 32, 97, 108, 108, 32, 109, 105, 110, 32, 109, 97, 120, 32]
def bZ (j : Nat) : Int := (BYT.getD j 0).toInt
def zsA (Γ : zv_M) : Nat → Prop := fun q => Γ.1.heap.size ≤ q
/-- what the claim says of the string and of the library's static fields -/
def zv_str (Γ : zv_M) (aK aV : Nat) (aF : Int) : Prop := vk_R "NineTimes$Scanner" 15 TXT aK Γ.1 ∧ va_O "java/lang/String" aK (zsA Γ) Γ.1 Γ.1.heap ∧ va_OF "java/lang/String" "coder" "B" (.int 0) aK (zsA Γ) Γ.1 Γ.1.heap ∧ va_OF "java/lang/String" "value" "[B" (.ref aV) aK (zsA Γ) Γ.1 Γ.1.heap ∧
  va_T .byte aV 115 (fun j => .int (BYT.getD j 0)) (zsA Γ) Γ.1 Γ.1.heap ∧ va_Z "java/lang/String" "COMPACT_STRINGS" "Z" (.int 1) (zsA Γ) Γ.1 Γ.1.heap ∧ ∃ vF : Value, va_Z "jdk/internal/util/Preconditions" "SIOOBE_FORMATTER" "Ljava/util/function/BiFunction;" vF (zsA Γ) Γ.1 Γ.1.heap ∧ ∀ ad : Int → Nat, zv_R ad (3, aF) vF
theorem bZ_c : ∀ j : Nat, j < 115 → ((BYT.getD j 0).toUInt32 % 65536).toInt32 = BYT.getD j 0 ∧ narrow .char (.int (BYT.getD j 0)) = .int (BYT.getD j 0) ∧ zand (bZ j) 255 = bZ j ∧ 0 ≤ bZ j ∧ bZ j ≤ 122 := by decide +kernel
abbrev zS (a : Nat) : zv_A := (3, (a : Int))
section ZSTR
variable {Γ : zv_M} {y : zv_Y} {f mc ms : Nat} {Q : zv_P} {G : zv_W} {u : Nat × Nat} {pc pc' k : Nat} {ls : List (Option zv_A)} {st : List zv_A} {σ : zv_H} {aK : Nat}
theorem zold {H : Heap} (hH : zv_hR Γ G σ H) : ∀ a : Nat, a < Γ.1.heap.size → ¬ zsA Γ a → H[a]? = Γ.1.heap[a]? := fun a h _ => hH.2.1 a h
theorem zS_mk {ad : Int → Nat} (a : Nat) : zv_R ad (zS a) (.ref a) := Or.inr ⟨Int.natCast_nonneg _, rfl⟩
theorem zS_of {ad : Int → Nat} {a : Nat} {v : Value} (h : zv_R ad (zS a) v) : v = .ref a := by
  rcases h with ⟨z, -⟩ | ⟨-, h⟩
  · exact absurd (Int.natCast_nonneg a) (by show ¬ (0 : Int) ≤ (a : Int); have : (a : Int) < 0 := z; omega)
  · exact h
theorem zldcS {idx : Nat} {tx : String} (hd : y.2.2.2.2[k]? = some (pc, .ldc idx, 2, pc')) (hZ : vk_R y.1.cls idx tx aK Γ.1) (kk : zV Γ y f mc ms Q G u pc' ls (zS aK :: st) σ) : zV Γ y f mc ms Q G u pc ls st σ := by
  intro hm he p l e s m args below meth c X H locs lsA stV hH hL hl hs
  obtain ⟨hdec, rfl⟩ := zv_dec hm hd
  exact va_ldcS X.1 X.2.1 X.2.2.2.2.2.2.1 (vk_R.warm X.2.2.2.2.2.2.2 hZ) hdec (kk hm he p l e s m args below meth c X H locs lsA (_ :: stV) hH hL hl (zv_sR_mk (zS_mk aK) hs))
theorem zaload3 {i : Fin 4} (hd : y.2.2.2.2[k]? = some (pc, .aload_n i, 1, pc')) (hx : ls[i.val]? = some (some (zS aK))) (kk : zV Γ y f mc ms Q G u pc' ls (zS aK :: st) σ) : zV Γ y f mc ms Q G u pc ls st σ := by
  intro hm he p l e s m args below meth c X H locs lsA stV hH hL hl hs
  obtain ⟨hdec, rfl⟩ := zv_dec hm hd
  obtain ⟨v, hv, h⟩ := zv_lR_at hl hx
  have e1_q := zS_of h
  subst e1_q
  exact lv_aload_n X.1 X.2.1 hdec rfl hv (kk hm he p l e s m args below meth c X H locs lsA (_ :: stV) hH hL hl (zv_sR_mk (zS_mk aK) hs))
theorem zgetS {idx : Nat} {o n d : String} {v : Value} {q : zv_A} (hd : y.2.2.2.2[k]? = some (pc, .getfield idx, 3, pc')) (hE : va_OF o n d v aK (zsA Γ) Γ.1 Γ.1.heap) (hl1_q : Cond.fieldLink y.1.cls idx o n d ∈ lw_tbl) (hq : zv_R (zv_ad Γ) q v) (kk : zV Γ y f mc ms Q G u pc' ls (q :: st) σ) : zV Γ y f mc ms Q G u pc ls (zS aK :: st) σ := by
  intro hm he p l e s m args below meth c X H locs lsA stV hH hL hl hs
  obtain ⟨hdec, rfl⟩ := zv_dec hm hd
  obtain ⟨w, r', rfl, hw, hs1_q⟩ := zv_sR_cons hs
  have e1_q := zS_of hw
  subst e1_q
  obtain ⟨cf, kc, fi, fd, cell, h1_q, h2_q, h3_q, h4_q, h5_q, h6_q⟩ := (va_OF.moved X.2.2.2.2.2.2.2.alike hE).kept (zold hH)
  exact W.getf X.1 X.2.1 X.2.2.2.2.2.2.1 (zv_word he X.2.2.2.2.2.2.2 rfl hl1_q) h1_q h2_q h3_q h4_q (v := v) h5_q rfl rfl hdec (kk hm he p l e s m args below meth c X H locs lsA (_ :: r') hH hL hl (zv_sR_mk hq hs1_q))
theorem zgetst {idx : Nat} {o n d : String} {v : Value} {q : zv_A} (hd : y.2.2.2.2[k]? = some (pc, .getstatic idx, 3, pc')) (hE : va_Z o n d v (zsA Γ) Γ.1 Γ.1.heap) (hl1_q : Cond.fieldLink y.1.cls idx o n d ∈ lw_tbl) (hq : zv_R (zv_ad Γ) q v) (kk : zV Γ y f mc ms Q G u pc' ls (q :: st) σ) : zV Γ y f mc ms Q G u pc ls st σ := by
  intro hm he p l e s m args below meth c X H locs lsA stV hH hL hl hs
  obtain ⟨hdec, rfl⟩ := zv_dec hm hd
  obtain ⟨cf, kc, fi, fd, a, cell, h1_q, h2_q, h3_q, h4_q, h5_q, h6_q, h7_q, h8_q⟩ := (va_Z.moved X.2.2.2.2.2.2.2.alike hE).kept (zold hH)
  exact W.gets X.1 X.2.1 X.2.2.2.2.2.2.1 (zv_word he X.2.2.2.2.2.2.2 rfl hl1_q) h1_q h2_q h3_q h4_q h5_q (fun e => by rw [e] at h6_q; cases h6_q) h7_q rfl hdec (kk hm he p l e s m args below meth c X H locs lsA (_ :: stV) hH hL hl (zv_sR_mk hq hs))
theorem zalen3 {ty : FieldType} {N : Nat} {g : Nat → Value} (hd : y.2.2.2.2[k]? = some (pc, .arraylength, 1, pc')) (hT : va_T ty aK N g (zsA Γ) Γ.1 Γ.1.heap) (hN : N < 2147483648) (kk : zV Γ y f mc ms Q G u pc' ls (zI N :: st) σ) : zV Γ y f mc ms Q G u pc ls (zS aK :: st) σ := by
  intro hm he p l e s m args below meth c X H locs lsA stV hH hL hl hs
  obtain ⟨hdec, rfl⟩ := zv_dec hm hd
  obtain ⟨w, r', rfl, hw, hs1_q⟩ := zv_sR_cons hs
  have e1_q := zS_of hw
  subst e1_q
  obtain ⟨cell, h1_q, h2_q, h3_q, h4_q, h5_q, h6_q, h7_q⟩ := (va_T.moved X.2.2.2.2.2.2.2.alike hT).kept (zold hH)
  exact W.alen X.1 X.2.1 h1_q h2_q h5_q rfl rfl hdec (kk hm he p l e s m args below meth c X H locs lsA (_ :: r') hH hL hl (zv_sR_mk (zv_mI (Int32.toInt_ofNat_of_lt (by show N < 2147483648; exact hN))) hs1_q))
theorem zbald3 {N : Nat} {g : Nat → Int32} {i v : Int} (hd : y.2.2.2.2[k]? = some (pc, .baload, 1, pc')) (hT : va_T .byte aK N (fun j => .int (g j)) (zsA Γ) Γ.1 Γ.1.heap) (hi : 0 ≤ i ∧ i < N) (hv : (g i.toNat).toInt = v) (kk : zV Γ y f mc ms Q G u pc' ls (zI v :: st) σ) : zV Γ y f mc ms Q G u pc ls (zI i :: zS aK :: st) σ := by
  intro hm he p l e s m args below meth c X H locs lsA stV hH hL hl hs
  obtain ⟨hdec, rfl⟩ := zv_dec hm hd
  obtain ⟨w0_q, r', rfl, hw0_q, hs0_q⟩ := zv_sR_cons hs
  obtain ⟨x, rfl, ex⟩ := hw0_q
  have ex : x.toInt = i := ex
  obtain ⟨w, r', rfl, hw, hs1_q⟩ := zv_sR_cons hs0_q
  have e1_q := zS_of hw
  subst e1_q
  obtain ⟨cell, h1_q, h2_q, h3_q, h4_q, h5_q, h6_q, h7_q⟩ := (va_T.moved X.2.2.2.2.2.2.2.alike hT).kept (zold hH)
  have hj := zv_cl32 ex hi.1
  have ej : x.toNatClampNeg = i.toNat := by omega
  exact W.bald X.1 X.2.1 h1_q h2_q h3_q (zv_nin (n := cell.slots.size) ex hi.1 (by omega)) (by rw [ej]; exact h6_q _ (by omega)) rfl rfl hdec (kk hm he p l e s m args below meth c X H locs lsA (_ :: r') hH hL hl (zv_sR_mk (zv_mI hv) hs1_q))
theorem zi2cB {x : Int} (hd : y.2.2.2.2[k]? = some (pc, .i2c, 1, pc')) (hx : ∀ z : Int32, z.toInt = x → (z.toUInt32 % 65536).toInt32 = z) (kk : zV Γ y f mc ms Q G u pc' ls (zI x :: st) σ) : zV Γ y f mc ms Q G u pc ls (zI x :: st) σ := by
  intro hm he p l e s m args below meth c X H locs lsA stV hH hL hl hs
  obtain ⟨hdec, rfl⟩ := zv_dec hm hd
  obtain ⟨w0_q, r', rfl, hw0_q, hs0_q⟩ := zv_sR_cons hs
  obtain ⟨z, rfl, ez⟩ := hw0_q
  have ez : z.toInt = x := ez
  exact lv_i2c X.1 X.2.1 hdec (hx z ez) (kk hm he p l e s m args below meth c X H locs lsA (_ :: r') hH hL hl (zv_sR_mk (zv_mI ez) hs0_q))
theorem znreturn {x : Int} {ty : FieldType} (hd : y.2.2.2.2[k]? = some (pc, .ireturn, 1, pc')) (hr : y.2.2.2.1 = some ty) (hx : ∀ z : Int32, z.toInt = x → narrow ty (.int z) = .int z) (hu : u = (mc, ms)) (hQ : Q (some (zI x)) G σ) : zV Γ y f mc ms Q G u pc ls [zI x] σ := by
  intro hm he p l e s m args below meth c X H locs lsA stV hH hL hl hs
  obtain ⟨hdec, rfl⟩ := zv_dec hm hd
  obtain ⟨v, r', rfl, hv, hs1_q⟩ := zv_sR_cons hs
  obtain ⟨z, rfl, ez⟩ := hv
  have ez : z.toInt = x := ez
  have e := zv_sR_nil' hs1_q
  subst e
  subst hu
  exact W.zret X.1 X.2.1 (X.2.2.2.1.trans hr) (hx z ez) (fun t ht _ => ⟨_, _, _, hQ, by rw [ht]; exact hH, _, rfl, z, rfl, ez⟩) hL hdec (hlocks := X.2.2.2.2.1)
theorem zcallS3 {y' : zv_Y} {f' mc' ms' idx n : Nat} {as rest : List zv_A} {Q1 : zv_P} (hd : y.2.2.2.2[k]? = some (pc, .invokevirtual idx, 3, pc')) (hC : zC Γ y' f' mc' ms' G (zS aK :: as) σ Q1) (hM : zv_mV y' n) (hk : zv_lk y.1.cls idx y') (hst : st = as.reverse ++ zS aK :: rest) (hn : as.length = n) (hO : va_O y'.1.cls aK (zsA Γ) Γ.1 Γ.1.heap) (hz : zcat rest ≤ 8) (hf : f' + 1 ≤ f) (hmc : u.1 + mc' ≤ mc) (hms : u.2 + ms' ≤ ms)
    (kk : ∀ r G' σ', Q1 r G' σ' → zV Γ y f mc ms Q G' (u.1 + mc', u.2 + ms') pc' ls (r.toList ++ rest) σ') : zV Γ y f mc ms Q G u pc ls st σ := by
  intro hm he p l e s m args below meth c X H locs lsA stV hH hL hl hs
  obtain ⟨hdec, rfl⟩ := zv_dec hm hd
  subst hst
  obtain ⟨v1_q, v2_q, rfl, g1_q, g2_q⟩ := zv_sR_app hs
  obtain ⟨vb, rv, rfl, hvb, hrv⟩ := zv_sR_cons g2_q
  have e1_q := zS_of hvb
  subst e1_q
  obtain ⟨cellB, q1_q, q2_q, q3_q, -⟩ := (va_O.moved X.2.2.2.2.2.2.2.alike hO).kept (zold hH)
  have hrev := zv_sR_rev g1_q
  rw [List.reverse_reverse] at hrev
  have hlen : v1_q.reverse.length = n := by rw [hrev.1, hn]
  have hcat : 2 * (F0 m pc lsA (v1_q ++ Value.ref aK :: rv)).monitorRoom + (rv.map fun v => v.category).sum ≤ 8 := lv_room (by rw [zv_cats hrv]; exact hz)
  have hpre : PreV s H y'.1.cls aK (zv_Pc Γ G (zS aK :: as) σ) v1_q.reverse := ⟨zv_blind, ⟨cellB, q1_q, q2_q, q3_q⟩, fun U hU hW => ⟨State.WarmedH.trans X.2.2.2.2.2.2.2 hW, by rw [hU]; exact hH, _, rfl, zv_sR_mk (zS_mk aK) hrev⟩⟩
  obtain ⟨⟨m1_q, m2_q, m3_q, m4_q, m5_q⟩, m6_q, m7_q⟩ := hM
  have hW := X.2.2.2.2.2.2.2
  have hco : ∀ w ∈ [Cond.code y'.1 y'.2.1 y'.2.2.1 y'.2.2.2.1], ∀ (a' : Array Value) (U : State), s.WarmedH U.vm → w.before a' U = true := by
    intro w hw a' U hU
    simp at hw
    subst hw
    exact zv_word he (State.WarmedH.trans hW hU) rfl m2_q
  have hroom : (zv_Rm f' mc' ms').frames + 1 ≤ (zv_Rm f mc ms).frames ∧ 8 + (y'.2.2.1 + 11) + (zv_Rm f' mc' ms').locals ≤ (zv_Rm f mc ms).locals := ⟨hf, by show 8 + (y'.2.2.1 + 11) + 64 * f' ≤ 64 * f; omega⟩
  refine zv_back (a := (Value.ref aK :: v1_q.reverse).toArray) hm he X hL hl hrv (stV := v1_q ++ Value.ref aK :: rv) ?_ kk
  rcases hk with hk | ⟨host, hk⟩
  · exact va_runV (Ts := []) ⟨X.1, X.2.1, X.2.2.1, X.2.2.2.2.2.2.1, fun w h => by simp at h⟩ (hC he l) ⟨⟨rfl, rfl, hroom.1, hroom.2, hco, by simp, zv_word he hW rfl m2_q, zv_word he hW rfl m1_q, m3_q, zv_parse m4_q, zv_word he hW rfl hk⟩, zv_word he hW rfl m6_q, zv_word he hW rfl m7_q⟩ hpre rfl hlen (zv_lR_len hl) (by rw [List.reverse_reverse]) hcat hdec ⟨hmc, hms⟩
  · exact va_runVN (Ts := []) (C := y'.1.cls) ⟨X.1, X.2.1, X.2.2.1, X.2.2.2.2.2.2.1, fun w h => by simp at h⟩ (hC he l) ⟨⟨⟨rfl, rfl, hroom.1, hroom.2, hco, by simp⟩, zv_word he hW rfl m2_q, zv_word he hW rfl m1_q, m3_q, zv_parse m4_q, va_Nw.use rfl (va_Nw.warmM hW (zv_nest (s := s) he hk rfl))⟩, zv_word he hW rfl m6_q, zv_word he hW rfl m7_q⟩ hpre rfl hlen (zv_lR_len hl) (by rw [List.reverse_reverse]) hcat hdec ⟨hmc, hms⟩
theorem zf3 {y' : zv_Y} {f' idx n : Nat} {as rest : List zv_A} {q : zv_A} (hd : y.2.2.2.2[k]? = some (pc, .invokevirtual idx, 3, pc')) (hC : zC Γ y' f' 0 0 G (zS aK :: as) σ (zFn (some q) G σ)) (hM : zv_mV y' n) (hk : zv_lk y.1.cls idx y') (hst : st = as.reverse ++ zS aK :: rest) (hn : as.length = n) (hO : va_O y'.1.cls aK (zsA Γ) Γ.1 Γ.1.heap) (hz : zcat rest ≤ 8) (hf : f' + 1 ≤ f) (hu : u.1 ≤ mc ∧ u.2 ≤ ms) (kk : zV Γ y f mc ms Q G u pc' ls (q :: rest) σ) : zV Γ y f mc ms Q G u pc ls st σ :=
  zcallS3 hd hC hM hk hst hn hO hz hf hu.1 hu.2 (fun r G' σ' h => by obtain ⟨rfl, rfl, rfl⟩ := h; exact kk)
end ZSTR
theorem i32_of {x : Int} {z w : Int32} (h : z.toInt = x) (e : w.toInt = x) : z = w := Int32.toInt_inj.mp (h.trans e.symm)
section ZLIB
variable {Γ : zv_M} {G : zv_W} {σ : zv_H} {aK aV : Nat} {aF : Int}
theorem j_coder (h : zv_str Γ aK aV aF) : zC Γ m_J0_coder_7d493 0 0 0 G [zS aK] σ (zFn (some (zI 0)) G σ) := by
  obtain ⟨-, -, h3_q, -, -, h6_q, -⟩ := h
  refine zC_ofJ (ls0 := [_]) zm_J0_coder_7d493 (by decide) rfl (Nat.le_of_ble_eq_true rfl) ?_
  refine zgetst (k := 0) (q := zI 1) rfl h6_q (tin2 10 (by decide +kernel)) ⟨1, rfl, rfl⟩ ?_
  refine zif_eq (k := 1) rfl rfl (fun c1_q => absurd c1_q (by decide)) (fun _ => ?_)
  refine zaload3 (k := 2) rfl rfl ?_
  refine zgetS (k := 3) (q := zI 0) rfl h3_q (tin8 197 (by decide +kernel)) ⟨0, rfl, rfl⟩ ?_
  refine zgoto (k := 4) rfl rfl ?_
  refine znreturn (k := 6) (ty := .byte) rfl rfl (fun z hz => ?_) rfl ⟨rfl, rfl, rfl⟩
  rw [i32_of hz (w := 0) rfl]
  rfl
theorem j_isLatin1 (h : zv_str Γ aK aV aF) : zC Γ m_J0_isLatin1_aae02 0 0 0 G [zS aK] σ (zFn (some (zI 1)) G σ) := by
  obtain ⟨-, -, h3_q, -, -, h6_q, -⟩ := h
  refine zC_ofJ (ls0 := [_]) zm_J0_isLatin1_aae02 (by decide) rfl (Nat.le_of_ble_eq_true rfl) ?_
  refine zgetst (k := 0) (q := zI 1) rfl h6_q (tin2 10 (by decide +kernel)) ⟨1, rfl, rfl⟩ ?_
  refine zif_eq (k := 1) rfl rfl (fun c1_q => absurd c1_q (by decide)) (fun _ => ?_)
  refine zaload3 (k := 2) rfl rfl ?_
  refine zgetS (k := 3) (q := zI 0) rfl h3_q (tin8 197 (by decide +kernel)) ⟨0, rfl, rfl⟩ ?_
  refine zif_ne (k := 4) rfl rfl (fun c1_q => absurd c1_q (by decide)) (fun _ => ?_)
  refine ziconst (k := 5) rfl (by decide) ?_
  refine zgoto (k := 6) rfl rfl ?_
  exact zzreturn (k := 8) rfl rfl (Or.inr rfl) rfl ⟨rfl, rfl, rfl⟩
theorem j_length (h : zv_str Γ aK aV aF) : zC Γ m_J0_length_8abf5 1 0 0 G [zS aK] σ (zFn (some (zI 115)) G σ) := by
  have h0_q := h
  obtain ⟨-, h2_q, h3_q, h4_q, h5_q, h6_q, -⟩ := h
  refine zC_ofJ (ls0 := [_]) zm_J0_length_8abf5 (by decide) rfl (Nat.le_of_ble_eq_true rfl) ?_
  refine zaload3 (k := 0) rfl rfl ?_
  refine zgetS (k := 1) (q := zS aV) rfl h4_q (tin8 196 (by decide +kernel)) (zS_mk aV) ?_
  refine zalen3 (k := 2) rfl h5_q (by decide) ?_
  refine zaload3 (k := 3) rfl rfl ?_
  refine zf3 (k := 4) (as := []) rfl (j_coder h0_q) fm_J0_coder_7d493 lk_J0_335 rfl rfl h2_q (by decide) (by decide) (by decide) ?_
  refine zishr (k := 5) rfl ?_
  exact zireturn (k := 6) rfl rfl rfl ⟨rfl, rfl, rfl⟩
theorem j_check3 {i n a : Int} (hi : 0 ≤ i ∧ i < n) : zC Γ m_J3_checkIndex_8e157 0 0 0 G [zI i, zI n, (3, a)] σ (zFn (some (zI i)) G σ) := by
  refine zC_ofJ (ls0 := [_, _, _]) zm_J3_checkIndex_8e157 (by decide) rfl (Nat.le_of_ble_eq_true rfl) ?_
  refine ziload_n (k := 0) rfl rfl ?_
  refine zif_lt (k := 1) rfl rfl (fun c1_q => by omega) (fun _ => ?_)
  refine ziload_n (k := 2) rfl rfl ?_
  refine ziload_n (k := 3) rfl rfl ?_
  refine zicmp_lt (k := 4) rfl rfl (fun _ => ?_) (fun c1_q => by omega)
  refine ziload_n (k := 10) rfl rfl ?_
  exact zireturn (k := 11) rfl rfl rfl ⟨rfl, rfl, rfl⟩
theorem j_check {i n : Int} (h : zv_str Γ aK aV aF) (hi : 0 ≤ i ∧ i < n) : zC Γ m_J0_checkIndex_df160 1 0 0 G [zI i, zI n] σ (zFn none G σ) := by
  obtain ⟨-, -, -, -, -, -, vF, h7_q, h8_q⟩ := h
  refine zC_ofJ (ls0 := [_, _]) zm_J0_checkIndex_df160 (by decide) rfl (Nat.le_of_ble_eq_true rfl) ?_
  refine ziload_n (k := 0) rfl rfl ?_
  refine ziload_n (k := 1) rfl rfl ?_
  refine zgetst (k := 2) (q := (3, aF)) rfl h7_q (tin2 26 (by decide +kernel)) (h8_q _) ?_
  refine zfS1 (k := 3) (as := [zI i, zI n, (3, aF)]) (rest := []) rfl (j_check3 hi) fm_J3_checkIndex_8e157 lk_J0_1059 rfl rfl (by decide) (by decide) (by decide) ?_
  refine zpop (k := 4) rfl rfl ?_
  exact zreturn (k := 5) rfl rfl rfl ⟨rfl, rfl, rfl⟩
theorem j_lcharAt {i : Nat} (h : zv_str Γ aK aV aF) (hi : i < 115) : zC Γ m_J1_charAt_3b067 2 0 0 G [zS aV, zI i] σ (zFn (some (zI (bZ i))) G σ) := by
  have h0_q := h
  obtain ⟨-, -, -, -, h5_q, -, -⟩ := h
  obtain ⟨b1_q, b2_q, b3_q, b4_q, b5_q⟩ := bZ_c i hi
  refine zC_ofJ (ls0 := [_, _]) zm_J1_charAt_3b067 (by decide) rfl (Nat.le_of_ble_eq_true rfl) ?_
  refine ziload_n (k := 0) rfl rfl ?_
  refine zaload3 (k := 1) rfl rfl ?_
  refine zalen3 (k := 2) rfl h5_q (by decide) ?_
  refine zfS0 (k := 3) (as := [zI i, zI (115 : Nat)]) (rest := []) rfl (j_check h0_q ⟨by omega, by omega⟩) fm_J0_checkIndex_df160 lk_J1_9 rfl rfl (by decide) (by decide) (by decide) ?_
  refine zaload3 (k := 4) rfl rfl ?_
  refine ziload_n (k := 5) rfl rfl ?_
  refine zbald3 (k := 6) (g := fun j => BYT.getD j 0) (v := bZ i) rfl h5_q ⟨by omega, by omega⟩ (by show (BYT.getD ((i : Int).toNat) 0).toInt = _; rw [Int.toNat_natCast]; rfl) ?_
  refine zsipush (k := 7) rfl rfl ?_
  refine ziand (k := 8) rfl ?_
  rw [b3_q]
  refine zi2cB (k := 9) rfl (fun z hz => ?_) ?_
  · rw [i32_of hz (w := BYT.getD i 0) rfl]; exact b1_q
  refine znreturn (k := 10) (ty := .char) rfl rfl (fun z hz => ?_) rfl ⟨rfl, rfl, rfl⟩
  rw [i32_of hz (w := BYT.getD i 0) rfl]
  exact b2_q
theorem j_charAt {i : Nat} (h : zv_str Γ aK aV aF) (hi : i < 115) : zC Γ m_J0_charAt_5068e 3 0 0 G [zS aK, zI i] σ (zFn (some (zI (bZ i))) G σ) := by
  have h0_q := h
  obtain ⟨-, h2_q, -, h4_q, -, -, -⟩ := h
  obtain ⟨b1_q, b2_q, b3_q, b4_q, b5_q⟩ := bZ_c i hi
  refine zC_ofJ (ls0 := [_, _]) zm_J0_charAt_5068e (by decide) rfl (Nat.le_of_ble_eq_true rfl) ?_
  refine zaload3 (k := 0) rfl rfl ?_
  refine zf3 (k := 1) (as := []) rfl (j_isLatin1 h0_q) fm_J0_isLatin1_aae02 lk_J0_492 rfl rfl h2_q (by decide) (by decide) (by decide) ?_
  refine zif_eq (k := 2) rfl rfl (fun c1_q => absurd c1_q (by decide)) (fun _ => ?_)
  refine zaload3 (k := 3) rfl rfl ?_
  refine zgetS (k := 4) (q := zS aV) rfl h4_q (tin8 196 (by decide +kernel)) (zS_mk aV) ?_
  refine ziload_n (k := 5) rfl rfl ?_
  refine zfS1 (k := 6) (as := [zS aV, zI i]) (rest := []) rfl (j_lcharAt h0_q hi) fm_J1_charAt_3b067 lk_J0_495 rfl rfl (by decide) (by decide) (by decide) ?_
  refine znreturn (k := 7) (ty := .char) rfl rfl (fun z hz => ?_) rfl ⟨rfl, rfl, rfl⟩
  rw [i32_of hz (w := BYT.getD i 0) rfl]
  exact b2_q
end ZLIB
set_option maxHeartbeats 4000000 in
set_option maxRecDepth 20000 in
theorem g_c_NT_put {Γ : zv_M} {G : zv_W} {a n k v : Int} {σ : zv_H} (ha : zv_ar G a .int n) (h0_q : 0 < a) : zC Γ m_NT_put 0 0 0 G [zR a, zI k, zI v] σ (zFn none G (zpt σ a n k v)) := by
  refine zC_of zm_NT_put (by decide) rfl (Nat.le_of_ble_eq_true rfl) ?_
  generalize hQ : (zFn none G (zpt σ a n k v)) = Q
  refine ziload_n (k := 0) rfl rfl ?_
  refine zif_lt (k := 1) rfl rfl (fun c1_q => ?_) (fun c1_q => ?_)
  · skip
    refine zreturn (k := 10) rfl rfl rfl ?_
    rw [← hQ]
    exact ⟨rfl, rfl, by unfold zpt; first | rw [if_pos (by omega)] | rw [if_neg (by omega)]⟩
  · skip
    refine ziload_n (k := 2) rfl rfl ?_
    refine zaload_n (k := 3) rfl rfl ?_
    refine zarraylength (k := 4) rfl (ha).1 ?_
    refine zicmp_ge (k := 5) rfl rfl (fun c2_q => ?_) (fun c2_q => ?_)
    · skip
      refine zreturn (k := 10) rfl rfl rfl ?_
      rw [← hQ]
      exact ⟨rfl, rfl, by unfold zpt; first | rw [if_pos (by omega)] | rw [if_neg (by omega)]⟩
    · skip
      refine zaload_n (k := 6) rfl rfl ?_
      refine ziload_n (k := 7) rfl rfl ?_
      refine ziload_n (k := 8) rfl rfl ?_
      refine ziastore (k := 9) rfl ha ⟨by omega, by omega⟩ h0_q ?_
      refine zreturn (k := 10) rfl rfl rfl ?_
      rw [← hQ]
      exact ⟨rfl, rfl, by unfold zpt; first | rw [if_pos (by omega)] | rw [if_neg (by omega)]⟩
set_option maxHeartbeats 4000000 in
set_option maxRecDepth 20000 in
theorem g_c_Scanner_filledUp {Γ : zv_M} {G : zv_W} {v : Int} {σ : zv_H} {n : Nat} (hn : n ≤ 6) (hv : 0 ≤ v ∧ v < 27 ^ n) : zC Γ m_Scanner_filledUp 0 0 0 G [zI v, zI n] σ (zFn (some (zI (fil27 v (6 - n)))) G σ) := by
  refine zC_of (ls0 := [_, _, _, _]) zm_Scanner_filledUp (by decide) rfl (Nat.le_of_ble_eq_true rfl) ?_
  generalize hQ : (zFn (some (zI (fil27 v (6 - n)))) G σ) = Q
  refine ziload_n (k := 0) rfl rfl ?_
  refine zistore_n (k := 1) (ls' := [_, _, _, _]) rfl (Nat.le_of_ble_eq_true rfl) rfl ?_
  refine ziload_n (k := 2) rfl rfl ?_
  refine zistore_n (k := 3) (ls' := [_, _, _, _]) rfl (Nat.le_of_ble_eq_true rfl) rfl ?_
  have lp4_q : ∀ (g : Nat) (j : Nat), (6 - j) < g → (n + j ≤ 6) → zV Γ m_Scanner_filledUp 0 0 0 Q G (0, 0) 4 [some (zI v), some (zI n), some (zI (fil27 v j)), some (zI (n + j))] [] σ := by
    intro g
    induction g with
    | zero => intro j hg; exact absurd hg (Nat.not_lt_zero _)
    | succ g ih4_q =>
      intro j hg hj
      have fc := fil_c hv j
      have pl := p27_le (a := n + j) (b := 6) hj
      rw [show (27 : Int) ^ 6 = 387420489 from rfl] at pl
      refine ziload_n (k := 4) rfl rfl ?_
      refine zbipush (k := 5) rfl rfl ?_
      refine zicmp_ge (k := 6) rfl rfl (fun c1_q => ?_) (fun c1_q => ?_)
      · skip
        refine ziload_n (k := 13) rfl rfl ?_
        refine zireturn (k := 14) rfl rfl rfl ?_
        rw [← hQ]
        exact ⟨by rw [show 6 - n = j by omega], rfl, rfl⟩
      · skip
        refine ziload_n (k := 7) rfl rfl ?_
        refine zbipush (k := 8) rfl rfl ?_
        refine zimulB (k := 9) rfl (by have pl2_q := p27_le (a := n + (j + 1)) (b := 6) (by omega); rw [show (27 : Int) ^ 6 = 387420489 from rfl, show n + (j + 1) = n + j + 1 by omega, show (27 : Int) ^ (n + j + 1) = 27 ^ (n + j) * 27 from Int.pow_succ _ _] at pl2_q; omega) ?_
        refine zistore_n (k := 10) (ls' := [_, _, _, _]) rfl (Nat.le_of_ble_eq_true rfl) rfl ?_
        refine ziincB (k := 11) (ls' := [_, _, _, _]) rfl rfl (by decide) (by omega) rfl ?_
        refine zgoto (k := 12) rfl rfl ?_
        rw [show (n : Int) + (j : Int) + 1 = n + ((j + 1 : Nat) : Int) by omega]
        exact ih4_q (j + 1) (by omega) (by omega)
  have r := lp4_q 7 0 (by omega) (by omega)
  rw [show (n : Int) + ((0 : Nat) : Int) = n by omega] at r
  exact r

