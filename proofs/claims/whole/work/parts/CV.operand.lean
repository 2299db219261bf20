/-! an operand, or what opens one -/
noncomputable def askP (T : Int → Int) (p : Int) : Int := if tK T p = 2 then 0 else if tO T p = 3 then 1 else if tO T p = 2 then 2 else if tO T p = 13 then 3 else if tO T p = 14 then 4 else if tO T p = 15 then 5 else if tO T p = 1 then 6 else if tO T p = 16 then 7 else -1
theorem askP_b (T : Int → Int) (p : Int) : -1 ≤ askP T p ∧ askP T p ≤ 7 := by
  unfold askP
  omega
theorem askS_P {T : Int → Int} {p a : Int} {lk : Bool} (ha : a = askP T p) : askS T p lk = if a ≤ 5 ∨ lk = true then a else -1 := by
  rw [ha]
  unfold askS askP
  rcases lk with _ | _
  · simp only [Bool.false_eq_true, and_false, or_false, if_false]
    omega
  · simp only [and_true, or_true, if_true]
theorem askV_e {σ : zv_H} {T : Int → Int} {p : Int} (h : MSd σ T p) (hk : tK T p = 1 ∨ tK T p = 2) : σ 289 6 = askV T p := by
  unfold askV
  rcases hk with k | k
  · rw [if_neg (by omega)]; exact (h.2.2.2.2.2.1 k).1
  · rw [if_pos k]; exact h.2.2.2.2.1 k
theorem askS_k {T : Int → Int} {p : Int} {lk : Bool} (h : askS T p lk ≠ -1) : tK T p = 1 ∨ tK T p = 2 := by
  by_cases k : tK T p = 1
  · exact Or.inl k
  · refine Or.inr ?_
    by_cases k2_q : tK T p = 2
    · exact k2_q
    · exfalso
      have e := tO_n k
      refine h ?_
      unfold askS
      rw [if_neg k2_q, if_neg (by omega), if_neg (by omega), if_neg (by omega), if_neg (by omega), if_neg (by omega), if_neg (fun q => by have := q.1; omega), if_neg (fun q => by have := q.1; omega)]
theorem fn17 {T : Int → Int} {p e : Int} (hfn : isOw T p 22 ∨ isOw T p 23 ∨ isOw T p 17) (he : e = (if isOw T p 22 then 36 else if isOw T p 23 then 37 else 44)) : e = 44 ↔ isOw T p 17 := by
  by_cases a : isOw T p 22
  · rw [if_pos a] at he
    constructor
    · intro q; omega
    · intro q; have q1_q := a.2; have q2_q := q.2; omega
  · rw [if_neg a] at he
    by_cases b : isOw T p 23
    · rw [if_pos b] at he
      constructor
      · intro q; omega
      · intro q; have q1_q := b.2; have q2_q := q.2; omega
    · rw [if_neg b] at he
      exact ⟨fun _ => by rcases hfn with q | q | q; exact absurd q a; exact absurd q b; exact q, fun _ => he⟩
theorem opn_g {s : zSpan} {σ : zv_H} {T : Int → Int} {n i o pl : Int} {A : zv_H} {Q : Prop} (h : (o = 7 ∧ rdR s σ T n i A (Sum.inr (5, pl))) ∨ (o ≠ 7 ∧ Q)) (h0_q : σ 289 8 = 0) : o ≠ 7 ∧ Q := by
  rcases h with ⟨a, b⟩ | q
  · have b1_q := b.2.2.2.2.1
    have b2_q := b.2.2.2.2.2.1
    exfalso; omega
  · exact q
theorem opn_b {s : zSpan} {σ : zv_H} {T : Int → Int} {n i o pl : Int} {A : zv_H} {Q : Prop} (h : (o = 7 ∧ rdR s σ T n i A (Sum.inr (5, pl))) ∨ (o ≠ 7 ∧ Q)) (hq : Q → σ 289 8 = 0) (h0_q : σ 289 8 ≠ 0) : o = 7 ∧ rdR s σ T n i A (Sum.inr (5, pl)) := by
  rcases h with q | ⟨a, b⟩
  · exact q
  · exact absurd (hq b) h0_q
set_option maxHeartbeats 4000000 in
set_option maxRecDepth 20000 in
theorem g_oprb {Γ : zv_M} {L : Int} {s : zSpan} {σ : zv_H} {T : Int → Int} {n i p o kd ph pr : Int} {A : zv_H} {lk bg : Bool} {ops : List Int} {R : List zFr} {out : List (Int × Int)} (hi1_q : i = 0 ∨ i = 1) (hF : ∀ x k, inF i x k → s.2 x k) (hc : cfM s σ T n i A lk p ((kd, ph, bg, pr, ops) :: R) out o) (k4_q : tK T p ≠ 4) (hl : R.length ≤ 7) (ho : 0 ≤ o ∧ o ≤ 7) (hn : (tK T p = 1 ∨ tK T p = 2 ∨ tK T p = 3) → out.length < 1600) (hm : 0 ≤ σ 289 42 ∧ σ 289 42 < 500) (k5_q : tK T (tN T p) ≠ 4)  : zC Γ m_M_operand 3 0 0 (GM L) [zR 289] σ (zPI (GM L) (fun z σ' => (z = 0 ∨ z = 1) ∧ oprM s σ' T n i A lk z (oprF T lk p kd ph bg pr ops R out o))) := by
  refine zC_of (ls0 := [_, _, _, _]) zm_M_operand (by decide) rfl (Nat.le_of_ble_eq_true rfl) ?_
  generalize hQ : (zPI (GM L) (fun z σ' => (z = 0 ∨ z = 1) ∧ oprM s σ' T n i A lk z (oprF T lk p kd ph bg pr ops R out o))) = Q
  have f8_q := hc.1.2.2.2.2.1
  have sq := hc.1.2.2.2.2.2.2.1
  have hop := hc.2.2.2.2.2.1
  have hD : σ 289 39 = (R.length : Int) + 1 := by rw [hc.2.2.1, List.length_cons]; omega
  have fr := hc.2.1.1
  have cut441_q : ∀ (a : Int), (¬ ((isT kd ∧ bg = true) ∧ isOw T p 20)) → (¬ ((isT kd ∧ bg = true) ∧ isSg T p 91)) → (¬ ((isT kd ∧ bg = true) ∧ isOw T p 21)) → (¬ isSg T p 40) → (¬ (isOw T p 22 ∨ isOw T p 23 ∨ isOw T p 17)) → (a = askS T p lk) → (-1 ≤ a ∧ a ≤ 7) → zV Γ m_M_operand 3 0 0 Q (GM L) (0, 0) 441 [some (zR 289), some (zI (R.length : Int)), none, some (zI a)] [] (zup σ 310 (R.length : Int) 0) := by
    intro a n20_q n91_q n21_q n40_q nfn ha hab
    have hc0_q := hc
    replace hc := cfM_b (v := 0) (b' := false) hF hc rfl
    replace f8_q := hc.1.2.2.2.2.1
    replace sq := hc.1.2.2.2.2.2.2.1
    replace hop := hc.2.2.2.2.2.1
    refine ziload_n (k := 222) rfl rfl ?_
    refine ziconst (k := 223) rfl (by decide) ?_
    refine zicmp_ne (k := 224) rfl rfl (fun c1_q => ?_) (fun c1_q => ?_)
    · skip
      refine zaload_n (k := 230) rfl rfl ?_
      refine zgI 8 (k := 231) rfl ob_289 fl_12_36 rfl fx_289_8 ?_
      rw [f8_q]
      refine zif_le (k := 232) rfl rfl (fun c2_q => ?_) (fun c2_q => ?_)
      · skip
        have hk12_q := askS_k (T := T) (p := p) (lk := lk) (fun q => (by assumption : a ≠ -1) (ha.trans q))
        refine zaload_n (k := 235) rfl rfl ?_
        refine ziload_n (k := 236) rfl rfl ?_
        refine zaload_n (k := 237) rfl rfl ?_
        refine zgI 6 (k := 238) rfl ob_289 fl_12_29 rfl fx_289_6 ?_
        obtain ⟨val, hval⟩ : ∃ v, v = askV T p := ⟨_, rfl⟩
        rw [show zup σ 310 (R.length : Int) 0 289 6 = val from by rw [hval]; exact askV_e hc.1.2.2.2.2.2.2 hk12_q]
        refine zfV0 (k := 239) rfl (c_M_add (k := (out.length : Int)) hi1_q hc.1.2.2.1 hc.2.2.2.2.1 (by have q := hn (by omega); omega)) fm_M_add lk_12_322 rfl rfl ob_289 ⟨_, rfl, rfl⟩ (Nat.le_of_ble_eq_true rfl) (by decide) ⟨by decide, by decide⟩ ?_
        replace hc := cfM_a (a := a) (v := val) hF hc (hn (by omega))
        refine zaload_n (k := 240) rfl rfl ?_
        refine zpV0 (k := 241) rfl (c_ahd hc (by omega)) fm_M_ahead lk_12_256 rfl rfl ob_289 ⟨_, rfl, rfl⟩ (Nat.le_of_ble_eq_true rfl) (by decide) ⟨by decide, by decide⟩ (fun σ3 b3_q => ?_)
        obtain ⟨h3_q, e3_q⟩ := b3_q
        refine ziconst (k := 242) rfl (by decide) ?_
        refine zzreturn (k := 243) rfl rfl (by first | exact Or.inl rfl | exact Or.inr rfl | omega) rfl ?_
        rw [← hQ]
        refine ⟨rfl, _, rfl, (by first | exact Or.inl rfl | exact Or.inr rfl), ?_⟩
        unfold oprF
        rw [if_neg k4_q]
        rw [if_neg n20_q, if_neg n91_q, if_neg n21_q, if_neg n40_q, if_neg nfn]
        rw [if_neg (fun q => (by assumption : ¬ a = -1) (ha.trans q)), ← ha]
        rw [show askV T p = val from hval.symm]
        exact ⟨h3_q, rfl⟩
      · exfalso; omega
    · skip
      refine zaload_n (k := 225) rfl rfl ?_
      refine ziconst (k := 226) rfl (by decide) ?_
      refine zaload_n (k := 227) rfl rfl ?_
      refine zgI 4 (k := 228) rfl ob_289 fl_12_23 rfl fx_289_4 ?_
      rw [sq]
      refine zpV0 (k := 229) rfl (q_blm (k := 1) (pl := (tQ T p)) hc.1 f8_q (by omega)) fm_M_blame lk_12_239 rfl rfl ob_289 ⟨_, rfl, rfl⟩ (Nat.le_of_ble_eq_true rfl) (by decide) ⟨by decide, by decide⟩ (fun σ2 b2_q => ?_)
      -- BLAMED
      obtain ⟨h2_q, f8_q, fx⟩ := b2_q
      refine zaload_n (k := 230) rfl rfl ?_
      refine zgI 8 (k := 231) rfl ob_289 fl_12_36 rfl fx_289_8 ?_
      rw [f8_q]
      refine zif_le (k := 232) rfl rfl (fun c3_q => ?_) (fun c3_q => ?_)
      · exfalso; omega
      refine ziconst (k := 233) rfl (by decide) ?_
      refine zzreturn (k := 234) rfl rfl (by first | exact Or.inl rfl | exact Or.inr rfl | omega) rfl ?_
      rw [← hQ]
      refine ⟨rfl, _, rfl, (by first | exact Or.inl rfl | exact Or.inr rfl), ?_⟩
      unfold oprF
      rw [if_neg k4_q]
      rw [if_neg n20_q, if_neg n91_q, if_neg n21_q, if_neg n40_q, if_neg nfn]
      rw [if_pos (ha.symm.trans (by assumption))]
      exact h2_q
  have cut426_q : ∀ (a : Int), (¬ ((isT kd ∧ bg = true) ∧ isOw T p 20)) → (¬ ((isT kd ∧ bg = true) ∧ isSg T p 91)) → (¬ ((isT kd ∧ bg = true) ∧ isOw T p 21)) → (¬ isSg T p 40) → (¬ (isOw T p 22 ∨ isOw T p 23 ∨ isOw T p 17)) → (a = askP T p) → zV Γ m_M_operand 3 0 0 Q (GM L) (0, 0) 426 [some (zR 289), some (zI (R.length : Int)), none, none] [zI a] (zup σ 310 (R.length : Int) 0) := by
    intro a n20_q n91_q n21_q n40_q nfn hap
    have hc0_q := hc
    replace hc := cfM_b (v := 0) (b' := false) hF hc rfl
    replace f8_q := hc.1.2.2.2.2.1
    replace sq := hc.1.2.2.2.2.2.2.1
    replace hop := hc.2.2.2.2.2.1
    have hapb := askP_b T p
    refine zistore_n (k := 213) (ls' := [_, _, _, _]) rfl (Nat.le_of_ble_eq_true rfl) rfl ?_
    refine ziload_n (k := 214) rfl rfl ?_
    refine ziconst (k := 215) rfl (by decide) ?_
    refine zicmp_le (k := 216) rfl rfl (fun c4_q => ?_) (fun c4_q => ?_)
    · skip
      -- LOW
      exact cut441_q _ n20_q n91_q n21_q n40_q nfn (by rw [askS_P hap, if_pos (Or.inl (by omega))]) (by omega)
    · skip
      refine zaload_n (k := 217) rfl rfl ?_
      refine zgI 33 (k := 218) rfl ob_289 fl_12_112 rfl fx_289_33 ?_
      rw [hc.2.2.2.2.2.2]
      refine zif_ne (k := 219) rfl rfl (fun c5_q => ?_) (fun c5_q => ?_)
      · skip
        -- LIKES
        have hlk := zB_t (by assumption)
        exact cut441_q _ n20_q n91_q n21_q n40_q nfn (by rw [askS_P hap, if_pos (Or.inr hlk)]) (by omega)
      · skip
        have hlk := zB_f (by assumption)
        refine ziconst (k := 220) rfl (by decide) ?_
        refine zistore_n (k := 221) (ls' := [_, _, _, _]) rfl (Nat.le_of_ble_eq_true rfl) rfl ?_
        exact cut441_q _ n20_q n91_q n21_q n40_q nfn (by rw [askS_P hap, if_neg (fun q => q.elim (fun q => by omega) hlk)]) (by omega)
  have cut313_q : (¬ ((isT kd ∧ bg = true) ∧ isOw T p 20)) → (¬ ((isT kd ∧ bg = true) ∧ isSg T p 91)) → (¬ ((isT kd ∧ bg = true) ∧ isOw T p 21)) → (¬ isSg T p 40) → (¬ (isOw T p 22 ∨ isOw T p 23 ∨ isOw T p 17)) → zV Γ m_M_operand 3 0 0 Q (GM L) (0, 0) 313 [some (zR 289), some (zI (R.length : Int)), none, none] [] (zup σ 310 (R.length : Int) 0) := by
    intro  n20_q n91_q n21_q n40_q nfn
    have hc0_q := hc
    replace hc := cfM_b (v := 0) (b' := false) hF hc rfl
    replace f8_q := hc.1.2.2.2.2.1
    replace sq := hc.1.2.2.2.2.2.2.1
    replace hop := hc.2.2.2.2.2.1
    refine zaload_n (k := 164) rfl rfl ?_
    refine zgI 3 (k := 165) rfl ob_289 fl_12_20 rfl fx_289_3 ?_
    rw [(hc.1.2.2.2.2.2.2.2.2.1 k4_q).2.1]
    refine ziconst (k := 166) rfl (by decide) ?_
    refine zicmp_ne (k := 167) rfl rfl (fun c6_q => ?_) (fun c6_q => ?_)
    · skip
      refine zaload_n (k := 170) rfl rfl ?_
      refine zldc2 (k := 171) (z := 444350952036) rfl kc_12_265 rfl ?_
      refine zfV1 (k := 172) rfl c_M_isWord fm_M_isWord lk_12_331 rfl rfl ob_289 ⟨_, rfl, rfl⟩ (Nat.le_of_ble_eq_true rfl) (by decide) ⟨by decide, by decide⟩ ?_
      rw [isW_e (w := 444350952036) (u := 3) hc.1.2.2.2.2.2.2 k4_q (by omega) rfl]
      obtain ⟨z329_q, e329_q⟩ : ∃ z : Int, z = (if isOw T p 3 then 1 else 0) := ⟨_, rfl⟩
      rw [← e329_q]
      have l329_q := ite_o e329_q
      clear e329_q
      refine zif_eq (k := 173) rfl rfl (fun c7_q => ?_) (fun c7_q => ?_)
      · skip
        have w329_q := or_0 l329_q (by assumption)
        clear l329_q
        refine zaload_n (k := 176) rfl rfl ?_
        refine zldc2 (k := 177) (z := 1885436275) rfl kc_12_263 rfl ?_
        refine zfV1 (k := 178) rfl c_M_isWord fm_M_isWord lk_12_331 rfl rfl ob_289 ⟨_, rfl, rfl⟩ (Nat.le_of_ble_eq_true rfl) (by decide) ⟨by decide, by decide⟩ ?_
        rw [isW_e (w := 1885436275) (u := 2) hc.1.2.2.2.2.2.2 k4_q (by omega) rfl]
        obtain ⟨z343_q, e343_q⟩ : ∃ z : Int, z = (if isOw T p 2 then 1 else 0) := ⟨_, rfl⟩
        rw [← e343_q]
        have l343_q := ite_o e343_q
        clear e343_q
        refine zif_eq (k := 179) rfl rfl (fun c8_q => ?_) (fun c8_q => ?_)
        · skip
          have w343_q := or_0 l343_q (by assumption)
          clear l343_q
          refine zaload_n (k := 182) rfl rfl ?_
          refine zldc2 (k := 183) (z := 474080961907) rfl kc_12_285 rfl ?_
          refine zfV1 (k := 184) rfl c_M_isWord fm_M_isWord lk_12_331 rfl rfl ob_289 ⟨_, rfl, rfl⟩ (Nat.le_of_ble_eq_true rfl) (by decide) ⟨by decide, by decide⟩ ?_
          rw [isW_e (w := 474080961907) (u := 13) hc.1.2.2.2.2.2.2 k4_q (by omega) rfl]
          obtain ⟨z357_q, e357_q⟩ : ∃ z : Int, z = (if isOw T p 13 then 1 else 0) := ⟨_, rfl⟩
          rw [← e357_q]
          have l357_q := ite_o e357_q
          clear e357_q
          refine zif_eq (k := 185) rfl rfl (fun c9_q => ?_) (fun c9_q => ?_)
          · skip
            have w357_q := or_0 l357_q (by assumption)
            clear l357_q
            refine zaload_n (k := 188) rfl rfl ?_
            refine zldc2 (k := 189) (z := 483006772069) rfl kc_12_287 rfl ?_
            refine zfV1 (k := 190) rfl c_M_isWord fm_M_isWord lk_12_331 rfl rfl ob_289 ⟨_, rfl, rfl⟩ (Nat.le_of_ble_eq_true rfl) (by decide) ⟨by decide, by decide⟩ ?_
            rw [isW_e (w := 483006772069) (u := 14) hc.1.2.2.2.2.2.2 k4_q (by omega) rfl]
            obtain ⟨z371_q, e371_q⟩ : ∃ z : Int, z = (if isOw T p 14 then 1 else 0) := ⟨_, rfl⟩
            rw [← e371_q]
            have l371_q := ite_o e371_q
            clear e371_q
            refine zif_eq (k := 191) rfl rfl (fun c10_q => ?_) (fun c10_q => ?_)
            · skip
              have w371_q := or_0 l371_q (by assumption)
              clear l371_q
              refine zaload_n (k := 194) rfl rfl ?_
              refine zldc2 (k := 195) (z := 2003133803) rfl kc_12_289 rfl ?_
              refine zfV1 (k := 196) rfl c_M_isWord fm_M_isWord lk_12_331 rfl rfl ob_289 ⟨_, rfl, rfl⟩ (Nat.le_of_ble_eq_true rfl) (by decide) ⟨by decide, by decide⟩ ?_
              rw [isW_e (w := 2003133803) (u := 15) hc.1.2.2.2.2.2.2 k4_q (by omega) rfl]
              obtain ⟨z385_q, e385_q⟩ : ∃ z : Int, z = (if isOw T p 15 then 1 else 0) := ⟨_, rfl⟩
              rw [← e385_q]
              have l385_q := ite_o e385_q
              clear e385_q
              refine zif_eq (k := 197) rfl rfl (fun c11_q => ?_) (fun c11_q => ?_)
              · skip
                have w385_q := or_0 l385_q (by assumption)
                clear l385_q
                refine zaload_n (k := 200) rfl rfl ?_
                refine zldc2 (k := 201) (z := 487301543009) rfl kc_12_261 rfl ?_
                refine zfV1 (k := 202) rfl c_M_isWord fm_M_isWord lk_12_331 rfl rfl ob_289 ⟨_, rfl, rfl⟩ (Nat.le_of_ble_eq_true rfl) (by decide) ⟨by decide, by decide⟩ ?_
                rw [isW_e (w := 487301543009) (u := 1) hc.1.2.2.2.2.2.2 k4_q (by omega) rfl]
                obtain ⟨z399_q, e399_q⟩ : ∃ z : Int, z = (if isOw T p 1 then 1 else 0) := ⟨_, rfl⟩
                rw [← e399_q]
                have l399_q := ite_o e399_q
                clear e399_q
                refine zif_eq (k := 203) rfl rfl (fun c12_q => ?_) (fun c12_q => ?_)
                · skip
                  have w399_q := or_0 l399_q (by assumption)
                  clear l399_q
                  refine zaload_n (k := 206) rfl rfl ?_
                  refine zldc2 (k := 207) (z := 6709618) rfl kc_12_291 rfl ?_
                  refine zfV1 (k := 208) rfl c_M_isWord fm_M_isWord lk_12_331 rfl rfl ob_289 ⟨_, rfl, rfl⟩ (Nat.le_of_ble_eq_true rfl) (by decide) ⟨by decide, by decide⟩ ?_
                  rw [isW_e (w := 6709618) (u := 16) hc.1.2.2.2.2.2.2 k4_q (by omega) rfl]
                  obtain ⟨z414_q, e414_q⟩ : ∃ z : Int, z = (if isOw T p 16 then 1 else 0) := ⟨_, rfl⟩
                  rw [← e414_q]
                  have l414_q := ite_o e414_q
                  clear e414_q
                  refine zif_eq (k := 209) rfl rfl (fun c13_q => ?_) (fun c13_q => ?_)
                  · skip
                    have w414_q := or_0 l414_q (by assumption)
                    clear l414_q
                    refine ziconst (k := 212) rfl (by decide) ?_
                    refine cut426_q _ n20_q n91_q n21_q n40_q nfn ?_
                    have htO := tO_n (T := T) (p := p)
                    unfold askP
                    omega
                  · skip
                    have w414_q := or_1 l414_q (by assumption)
                    clear l414_q
                    refine zbipush (k := 210) rfl rfl ?_
                    refine zgoto (k := 211) rfl rfl ?_
                    refine cut426_q _ n20_q n91_q n21_q n40_q nfn ?_
                    have htO := tO_n (T := T) (p := p)
                    unfold askP
                    omega
                · skip
                  have w399_q := or_1 l399_q (by assumption)
                  clear l399_q
                  refine zbipush (k := 204) rfl rfl ?_
                  refine zgoto (k := 205) rfl rfl ?_
                  refine cut426_q _ n20_q n91_q n21_q n40_q nfn ?_
                  have htO := tO_n (T := T) (p := p)
                  unfold askP
                  omega
              · skip
                have w385_q := or_1 l385_q (by assumption)
                clear l385_q
                refine ziconst (k := 198) rfl (by decide) ?_
                refine zgoto (k := 199) rfl rfl ?_
                refine cut426_q _ n20_q n91_q n21_q n40_q nfn ?_
                have htO := tO_n (T := T) (p := p)
                unfold askP
                omega
            · skip
              have w371_q := or_1 l371_q (by assumption)
              clear l371_q
              refine ziconst (k := 192) rfl (by decide) ?_
              refine zgoto (k := 193) rfl rfl ?_
              refine cut426_q _ n20_q n91_q n21_q n40_q nfn ?_
              have htO := tO_n (T := T) (p := p)
              unfold askP
              omega
          · skip
            have w357_q := or_1 l357_q (by assumption)
            clear l357_q
            refine ziconst (k := 186) rfl (by decide) ?_
            refine zgoto (k := 187) rfl rfl ?_
            refine cut426_q _ n20_q n91_q n21_q n40_q nfn ?_
            have htO := tO_n (T := T) (p := p)
            unfold askP
            omega
        · skip
          have w343_q := or_1 l343_q (by assumption)
          clear l343_q
          refine ziconst (k := 180) rfl (by decide) ?_
          refine zgoto (k := 181) rfl rfl ?_
          refine cut426_q _ n20_q n91_q n21_q n40_q nfn ?_
          have htO := tO_n (T := T) (p := p)
          unfold askP
          omega
      · skip
        have w329_q := or_1 l329_q (by assumption)
        clear l329_q
        refine ziconst (k := 174) rfl (by decide) ?_
        refine zgoto (k := 175) rfl rfl ?_
        refine cut426_q _ n20_q n91_q n21_q n40_q nfn ?_
        have htO := tO_n (T := T) (p := p)
        unfold askP
        omega
    · skip
      refine ziconst (k := 168) rfl (by decide) ?_
      refine zgoto (k := 169) rfl rfl ?_
      refine cut426_q _ n20_q n91_q n21_q n40_q nfn ?_
      have htO := tO_n (T := T) (p := p)
      unfold askP
      omega
  have cut249_q : ∀ (e : Int), (¬ ((isT kd ∧ bg = true) ∧ isOw T p 20)) → (¬ ((isT kd ∧ bg = true) ∧ isSg T p 91)) → (¬ ((isT kd ∧ bg = true) ∧ isOw T p 21)) → (¬ isSg T p 40) → (isOw T p 22 ∨ isOw T p 23 ∨ isOw T p 17) → (e = (if isOw T p 22 then 36 else if isOw T p 23 then 37 else 44)) → zV Γ m_M_operand 3 0 0 Q (GM L) (0, 0) 249 [some (zR 289), some (zI (R.length : Int)), none, none] [zI e] (zup σ 310 (R.length : Int) 0) := by
    intro e n20_q n91_q n21_q n40_q hfn he
    have hc0_q := hc
    replace hc := cfM_b (v := 0) (b' := false) hF hc rfl
    replace f8_q := hc.1.2.2.2.2.1
    replace sq := hc.1.2.2.2.2.2.2.1
    replace hop := hc.2.2.2.2.2.1
    refine zistore_n (k := 129) (ls' := [_, _, _, _]) rfl (Nat.le_of_ble_eq_true rfl) rfl ?_
    refine zaload_n (k := 130) rfl rfl ?_
    refine zpV0 (k := 131) rfl (c_ahd hc (Or.inl (by omega))) fm_M_ahead lk_12_256 rfl rfl ob_289 ⟨_, rfl, rfl⟩ (Nat.le_of_ble_eq_true rfl) (by decide) ⟨by decide, by decide⟩ (fun σ3 b3_q => ?_)
    -- NEXT
    obtain ⟨h3_q, e3_q⟩ := b3_q
    replace hc := h3_q
    replace f8_q := hc.1.2.2.2.2.1
    replace sq := hc.1.2.2.2.2.2.2.1
    replace hop := hc.2.2.2.2.2.1
    refine zaload_n (k := 132) rfl rfl ?_
    refine zpV0 (k := 133) rfl (q_lex hc.1) fm_M_lex lk_12_250 rfl rfl ob_289 ⟨_, rfl, rfl⟩ (Nat.le_of_ble_eq_true rfl) (by decide) ⟨by decide, by decide⟩ (fun σ4 l4_q => ?_)
    obtain ⟨_, rfl⟩ : tK T (tN T p) ≠ 4 ∧ σ3 = σ4 := by
      rcases l4_q with q | q
      · exact ⟨q.1, q.2.symm⟩
      · exact absurd q.1 k5_q
    refine zaload_n (k := 134) rfl rfl ?_
    refine zbipush (k := 135) rfl rfl ?_
    refine zfV1 (k := 136) rfl c_M_isSign fm_M_isSign lk_12_253 rfl rfl ob_289 ⟨_, rfl, rfl⟩ (Nat.le_of_ble_eq_true rfl) (by decide) ⟨by decide, by decide⟩ ?_
    rw [isS_e hc.1.2.2.2.2.2.2 k5_q]
    obtain ⟨z261_q, e261_q⟩ : ∃ z : Int, z = (if isSg T (tN T p) 40 then 1 else 0) := ⟨_, rfl⟩
    rw [← e261_q]
    have l261_q := ite_o e261_q
    clear e261_q
    refine zif_ne (k := 137) rfl rfl (fun c14_q => ?_) (fun c14_q => ?_)
    · skip
      have w261_q := or_1 l261_q (by assumption)
      clear l261_q
      refine zaload_n (k := 143) rfl rfl ?_
      refine ziload_n (k := 144) rfl rfl ?_
      refine zbipush (k := 145) rfl rfl ?_
      refine zicmp_ne (k := 146) rfl rfl (fun c15_q => ?_) (fun c15_q => ?_)
      · skip
        refine ziconst (k := 149) rfl (by decide) ?_
        refine zpV0 (k := 150) rfl (c_M_opens hF hc (by rw [List.length_cons]; omega) ho w261_q.1) fm_M_opens lk_12_338 rfl rfl ob_289 ⟨_, rfl, rfl⟩ (Nat.le_of_ble_eq_true rfl) (by decide) ⟨by decide, by decide⟩ (fun σ5 b3_q => ?_)
        refine zaload_n (k := 151) rfl rfl ?_
        refine zgI 8 (k := 152) rfl ob_289 fl_12_36 rfl fx_289_8 ?_
        skip
        refine zif_ne (k := 153) rfl rfl (fun c16_q => ?_) (fun c16_q => ?_)
        · skip
          -- SHUT
          have hob := opn_b b3_q (fun q => (q _ (fun _ => rfl)).1.2.2.2.2.1) (by assumption)
          refine ziconst (k := 162) rfl (by decide) ?_
          refine zzreturn (k := 163) rfl rfl (by first | exact Or.inl rfl | exact Or.inr rfl | omega) rfl ?_
          rw [← hQ]
          refine ⟨rfl, _, rfl, (by first | exact Or.inl rfl | exact Or.inr rfl), ?_⟩
          unfold oprF
          rw [if_neg k4_q]
          rw [if_neg n20_q, if_neg n91_q, if_neg n21_q, if_neg n40_q, if_pos hfn]
          rw [if_neg k5_q]
          rw [if_neg (fun q => q w261_q)]
          unfold opn
          rw [if_pos hob.1]
          exact hob.2
        · skip
          -- FITS
          have hog := opn_g b3_q (by assumption)
          have hcp := hog.2 _ (fun _ => rfl)
          have hD2 := hcp.2.2.1
          rw [List.length_cons] at hD2
          have hD3 : (((kd, ph, false, pr, ops) :: R : List zFr).length : Int) = (R.length : Int) + 1 := by rw [List.length_cons]; omega
          refine zaload_n (k := 154) rfl rfl ?_
          refine zgF 37 (k := 155) rfl ob_289 fl_12_126 rfl fx_289_37 ?_
          refine zaload_n (k := 156) rfl rfl ?_
          refine zgI 39 (k := 157) rfl ob_289 fl_12_132 rfl fx_289_39 ?_
          rw [hD2]
          refine ziconst (k := 158) rfl (by decide) ?_
          refine zisubB (k := 159) rfl (by omega) ?_
          rw [show (((((kd, ph, false, pr, ops) :: R : List zFr).length + 1 : Nat) : Int)) - 1 = (((kd, ph, false, pr, ops) :: R : List zFr).length : Int) by omega]
          refine ziload_n (k := 160) rfl rfl ?_
          refine ziastore (k := 161) rfl ar_311 ⟨by omega, by omega⟩ (by omega) ?_
          have hcq := cfM_pr (v := e) hF hcp
          refine ziconst (k := 162) rfl (by decide) ?_
          refine zzreturn (k := 163) rfl rfl (by first | exact Or.inl rfl | exact Or.inr rfl | omega) rfl ?_
          rw [← hQ]
          refine ⟨rfl, _, rfl, (by first | exact Or.inl rfl | exact Or.inr rfl), ?_⟩
          unfold oprF
          rw [if_neg k4_q]
          rw [if_neg n20_q, if_neg n91_q, if_neg n21_q, if_neg n40_q, if_pos hfn]
          rw [if_neg k5_q]
          rw [if_neg (fun q => q w261_q)]
          unfold opn
          rw [if_neg hog.1]
          rw [if_neg (fun q => absurd ((fn17 hfn he).mpr q) (by omega)), ← he]
          exact ⟨hcq, rfl⟩
      · skip
        -- IFF
        refine zbipush (k := 147) rfl rfl ?_
        refine zgoto (k := 148) rfl rfl ?_
        refine zpV0 (k := 150) rfl (c_M_opens hF hc (by rw [List.length_cons]; omega) ho w261_q.1) fm_M_opens lk_12_338 rfl rfl ob_289 ⟨_, rfl, rfl⟩ (Nat.le_of_ble_eq_true rfl) (by decide) ⟨by decide, by decide⟩ (fun σ5 b3_q => ?_)
        refine zaload_n (k := 151) rfl rfl ?_
        refine zgI 8 (k := 152) rfl ob_289 fl_12_36 rfl fx_289_8 ?_
        skip
        refine zif_ne (k := 153) rfl rfl (fun c17_q => ?_) (fun c17_q => ?_)
        · skip
          -- SHUT
          have hob := opn_b b3_q (fun q => (q _ (fun _ => rfl)).1.2.2.2.2.1) (by assumption)
          refine ziconst (k := 162) rfl (by decide) ?_
          refine zzreturn (k := 163) rfl rfl (by first | exact Or.inl rfl | exact Or.inr rfl | omega) rfl ?_
          rw [← hQ]
          refine ⟨rfl, _, rfl, (by first | exact Or.inl rfl | exact Or.inr rfl), ?_⟩
          unfold oprF
          rw [if_neg k4_q]
          rw [if_neg n20_q, if_neg n91_q, if_neg n21_q, if_neg n40_q, if_pos hfn]
          rw [if_neg k5_q]
          rw [if_neg (fun q => q w261_q)]
          unfold opn
          rw [if_pos hob.1]
          exact hob.2
        · skip
          -- FITS
          have hog := opn_g b3_q (by assumption)
          have hcp := hog.2 _ (fun _ => rfl)
          have hD2 := hcp.2.2.1
          rw [List.length_cons] at hD2
          have hD3 : (((kd, ph, false, pr, ops) :: R : List zFr).length : Int) = (R.length : Int) + 1 := by rw [List.length_cons]; omega
          refine zaload_n (k := 154) rfl rfl ?_
          refine zgF 37 (k := 155) rfl ob_289 fl_12_126 rfl fx_289_37 ?_
          refine zaload_n (k := 156) rfl rfl ?_
          refine zgI 39 (k := 157) rfl ob_289 fl_12_132 rfl fx_289_39 ?_
          rw [hD2]
          refine ziconst (k := 158) rfl (by decide) ?_
          refine zisubB (k := 159) rfl (by omega) ?_
          rw [show (((((kd, ph, false, pr, ops) :: R : List zFr).length + 1 : Nat) : Int)) - 1 = (((kd, ph, false, pr, ops) :: R : List zFr).length : Int) by omega]
          refine ziload_n (k := 160) rfl rfl ?_
          refine ziastore (k := 161) rfl ar_311 ⟨by omega, by omega⟩ (by omega) ?_
          have hcq := cfM_pr (v := e) hF hcp
          refine ziconst (k := 162) rfl (by decide) ?_
          refine zzreturn (k := 163) rfl rfl (by first | exact Or.inl rfl | exact Or.inr rfl | omega) rfl ?_
          rw [← hQ]
          refine ⟨rfl, _, rfl, (by first | exact Or.inl rfl | exact Or.inr rfl), ?_⟩
          unfold oprF
          rw [if_neg k4_q]
          rw [if_neg n20_q, if_neg n91_q, if_neg n21_q, if_neg n40_q, if_pos hfn]
          rw [if_neg k5_q]
          rw [if_neg (fun q => q w261_q)]
          unfold opn
          rw [if_neg hog.1]
          rw [if_pos ((fn17 hfn he).mp (by omega)), ← he]
          exact ⟨hcq, rfl⟩
    · skip
      have w261_q := or_0 l261_q (by assumption)
      clear l261_q
      refine zaload_n (k := 138) rfl rfl ?_
      refine ziconst (k := 139) rfl (by decide) ?_
      refine zaload_n (k := 140) rfl rfl ?_
      refine zgI 4 (k := 141) rfl ob_289 fl_12_23 rfl fx_289_4 ?_
      rw [sq]
      refine zpV0 (k := 142) rfl (q_blm (k := 1) (pl := (tQ T (tN T p))) hc.1 f8_q (by omega)) fm_M_blame lk_12_239 rfl rfl ob_289 ⟨_, rfl, rfl⟩ (Nat.le_of_ble_eq_true rfl) (by decide) ⟨by decide, by decide⟩ (fun σ2 b2_q => ?_)
      -- BLAMED
      obtain ⟨h2_q, f8_q, fx⟩ := b2_q
      refine zaload_n (k := 143) rfl rfl ?_
      refine ziload_n (k := 144) rfl rfl ?_
      refine zbipush (k := 145) rfl rfl ?_
      refine zicmp_ne (k := 146) rfl rfl (fun c18_q => ?_) (fun c18_q => ?_)
      · skip
        refine ziconst (k := 149) rfl (by decide) ?_
        refine zfV0 (k := 150) rfl (b_opens (by omega)) fm_M_opens lk_12_338 rfl rfl ob_289 ⟨_, rfl, rfl⟩ (Nat.le_of_ble_eq_true rfl) (by decide) ⟨by decide, by decide⟩ ?_
        refine zaload_n (k := 151) rfl rfl ?_
        refine zgI 8 (k := 152) rfl ob_289 fl_12_36 rfl fx_289_8 ?_
        rw [f8_q]
        refine zif_ne (k := 153) rfl rfl (fun c19_q => ?_) (fun c19_q => ?_)
        · skip
          skip
          refine ziconst (k := 162) rfl (by decide) ?_
          refine zzreturn (k := 163) rfl rfl (by first | exact Or.inl rfl | exact Or.inr rfl | omega) rfl ?_
          rw [← hQ]
          refine ⟨rfl, _, rfl, (by first | exact Or.inl rfl | exact Or.inr rfl), ?_⟩
          unfold oprF
          rw [if_neg k4_q]
          rw [if_neg n20_q, if_neg n91_q, if_neg n21_q, if_neg n40_q, if_pos hfn]
          rw [if_neg k5_q]
          rw [if_pos w261_q]
          exact h2_q
        · exfalso; omega
      · skip
        -- IFF
        refine zbipush (k := 147) rfl rfl ?_
        refine zgoto (k := 148) rfl rfl ?_
        refine zfV0 (k := 150) rfl (b_opens (by omega)) fm_M_opens lk_12_338 rfl rfl ob_289 ⟨_, rfl, rfl⟩ (Nat.le_of_ble_eq_true rfl) (by decide) ⟨by decide, by decide⟩ ?_
        refine zaload_n (k := 151) rfl rfl ?_
        refine zgI 8 (k := 152) rfl ob_289 fl_12_36 rfl fx_289_8 ?_
        rw [f8_q]
        refine zif_ne (k := 153) rfl rfl (fun c20_q => ?_) (fun c20_q => ?_)
        · skip
          skip
          refine ziconst (k := 162) rfl (by decide) ?_
          refine zzreturn (k := 163) rfl rfl (by first | exact Or.inl rfl | exact Or.inr rfl | omega) rfl ?_
          rw [← hQ]
          refine ⟨rfl, _, rfl, (by first | exact Or.inl rfl | exact Or.inr rfl), ?_⟩
          unfold oprF
          rw [if_neg k4_q]
          rw [if_neg n20_q, if_neg n91_q, if_neg n21_q, if_neg n40_q, if_pos hfn]
          rw [if_neg k5_q]
          rw [if_pos w261_q]
          exact h2_q
        · exfalso; omega
  have cut217_q : (¬ ((isT kd ∧ bg = true) ∧ isOw T p 20)) → (¬ ((isT kd ∧ bg = true) ∧ isSg T p 91)) → (¬ ((isT kd ∧ bg = true) ∧ isOw T p 21)) → (¬ isSg T p 40) → (isOw T p 22 ∨ isOw T p 23 ∨ isOw T p 17) → zV Γ m_M_operand 3 0 0 Q (GM L) (0, 0) 217 [some (zR 289), some (zI (R.length : Int)), none, none] [] (zup σ 310 (R.length : Int) 0) := by
    intro  n20_q n91_q n21_q n40_q hfn
    have hc0_q := hc
    replace hc := cfM_b (v := 0) (b' := false) hF hc rfl
    replace f8_q := hc.1.2.2.2.2.1
    replace sq := hc.1.2.2.2.2.2.2.1
    replace hop := hc.2.2.2.2.2.1
    refine zaload_n (k := 116) rfl rfl ?_
    refine zldc2 (k := 117) (z := 7170414) rfl kc_12_303 rfl ?_
    refine zfV1 (k := 118) rfl c_M_isWord fm_M_isWord lk_12_331 rfl rfl ob_289 ⟨_, rfl, rfl⟩ (Nat.le_of_ble_eq_true rfl) (by decide) ⟨by decide, by decide⟩ ?_
    rw [isW_e (w := 7170414) (u := 22) hc.1.2.2.2.2.2.2 k4_q (by omega) rfl]
    obtain ⟨z221_q, e221_q⟩ : ∃ z : Int, z = (if isOw T p 22 then 1 else 0) := ⟨_, rfl⟩
    rw [← e221_q]
    have l221_q := ite_o e221_q
    clear e221_q
    refine zif_eq (k := 119) rfl rfl (fun c21_q => ?_) (fun c21_q => ?_)
    · skip
      have w221_q := or_0 l221_q (by assumption)
      clear l221_q
      refine zaload_n (k := 122) rfl rfl ?_
      refine zldc2 (k := 123) (z := 7168376) rfl kc_12_305 rfl ?_
      refine zfV1 (k := 124) rfl c_M_isWord fm_M_isWord lk_12_331 rfl rfl ob_289 ⟨_, rfl, rfl⟩ (Nat.le_of_ble_eq_true rfl) (by decide) ⟨by decide, by decide⟩ ?_
      rw [isW_e (w := 7168376) (u := 23) hc.1.2.2.2.2.2.2 k4_q (by omega) rfl]
      obtain ⟨z236_q, e236_q⟩ : ∃ z : Int, z = (if isOw T p 23 then 1 else 0) := ⟨_, rfl⟩
      rw [← e236_q]
      have l236_q := ite_o e236_q
      clear e236_q
      refine zif_eq (k := 125) rfl rfl (fun c22_q => ?_) (fun c22_q => ?_)
      · skip
        have w236_q := or_0 l236_q (by assumption)
        clear l236_q
        refine zbipush (k := 128) rfl rfl ?_
        exact cut249_q 44 n20_q n91_q n21_q n40_q hfn (by rw [if_neg w221_q, if_neg w236_q])
      · skip
        have w236_q := or_1 l236_q (by assumption)
        clear l236_q
        -- F23
        refine zbipush (k := 126) rfl rfl ?_
        refine zgoto (k := 127) rfl rfl ?_
        exact cut249_q 37 n20_q n91_q n21_q n40_q hfn (by rw [if_neg w221_q, if_pos w236_q])
    · skip
      have w221_q := or_1 l221_q (by assumption)
      clear l221_q
      -- F22
      refine zbipush (k := 120) rfl rfl ?_
      refine zgoto (k := 121) rfl rfl ?_
      exact cut249_q 36 n20_q n91_q n21_q n40_q hfn (if_pos w221_q).symm
  have cut171_q : ∀ (t : Int), (¬ ((isT kd ∧ bg = true) ∧ isOw T p 20)) → (¬ ((isT kd ∧ bg = true) ∧ isSg T p 91)) → (¬ ((isT kd ∧ bg = true) ∧ isOw T p 21)) → zV Γ m_M_operand 3 0 0 Q (GM L) (0, 0) 171 [some (zR 289), some (zI (R.length : Int)), none, none] [] (zup σ 310 (R.length : Int) 0) := by
    intro t n20_q n91_q n21_q
    have hc0_q := hc
    replace hc := cfM_b (v := 0) (b' := false) hF hc rfl
    replace f8_q := hc.1.2.2.2.2.1
    replace sq := hc.1.2.2.2.2.2.2.1
    replace hop := hc.2.2.2.2.2.1
    refine zaload_n (k := 95) rfl rfl ?_
    refine zbipush (k := 96) rfl rfl ?_
    refine zfV1 (k := 97) rfl c_M_isSign fm_M_isSign lk_12_253 rfl rfl ob_289 ⟨_, rfl, rfl⟩ (Nat.le_of_ble_eq_true rfl) (by decide) ⟨by decide, by decide⟩ ?_
    rw [isS_e hc.1.2.2.2.2.2.2 k4_q]
    obtain ⟨z174_q, e174_q⟩ : ∃ z : Int, z = (if isSg T p 40 then 1 else 0) := ⟨_, rfl⟩
    rw [← e174_q]
    have l174_q := ite_o e174_q
    clear e174_q
    refine zif_eq (k := 98) rfl rfl (fun c23_q => ?_) (fun c23_q => ?_)
    · skip
      have w174_q := or_0 l174_q (by assumption)
      clear l174_q
      refine zaload_n (k := 104) rfl rfl ?_
      refine zldc2 (k := 105) (z := 7170414) rfl kc_12_303 rfl ?_
      refine zfV1 (k := 106) rfl c_M_isWord fm_M_isWord lk_12_331 rfl rfl ob_289 ⟨_, rfl, rfl⟩ (Nat.le_of_ble_eq_true rfl) (by decide) ⟨by decide, by decide⟩ ?_
      rw [isW_e (w := 7170414) (u := 22) hc.1.2.2.2.2.2.2 k4_q (by omega) rfl]
      obtain ⟨z191_q, e191_q⟩ : ∃ z : Int, z = (if isOw T p 22 then 1 else 0) := ⟨_, rfl⟩
      rw [← e191_q]
      have l191_q := ite_o e191_q
      clear e191_q
      refine zif_ne (k := 107) rfl rfl (fun c24_q => ?_) (fun c24_q => ?_)
      · skip
        have w191_q := or_1 l191_q (by assumption)
        clear l191_q
        first
        | exact cut217_q n20_q n91_q n21_q w174_q (Or.inl w191_q)
        | exact cut217_q n20_q n91_q n21_q w174_q (Or.inr (Or.inl w201_q))
        | exact cut217_q n20_q n91_q n21_q w174_q (Or.inr (Or.inr w211_q))
      · skip
        have w191_q := or_0 l191_q (by assumption)
        clear l191_q
        refine zaload_n (k := 108) rfl rfl ?_
        refine zldc2 (k := 109) (z := 7168376) rfl kc_12_305 rfl ?_
        refine zfV1 (k := 110) rfl c_M_isWord fm_M_isWord lk_12_331 rfl rfl ob_289 ⟨_, rfl, rfl⟩ (Nat.le_of_ble_eq_true rfl) (by decide) ⟨by decide, by decide⟩ ?_
        rw [isW_e (w := 7168376) (u := 23) hc.1.2.2.2.2.2.2 k4_q (by omega) rfl]
        obtain ⟨z201_q, e201_q⟩ : ∃ z : Int, z = (if isOw T p 23 then 1 else 0) := ⟨_, rfl⟩
        rw [← e201_q]
        have l201_q := ite_o e201_q
        clear e201_q
        refine zif_ne (k := 111) rfl rfl (fun c25_q => ?_) (fun c25_q => ?_)
        · skip
          have w201_q := or_1 l201_q (by assumption)
          clear l201_q
          first
          | exact cut217_q n20_q n91_q n21_q w174_q (Or.inl w191_q)
          | exact cut217_q n20_q n91_q n21_q w174_q (Or.inr (Or.inl w201_q))
          | exact cut217_q n20_q n91_q n21_q w174_q (Or.inr (Or.inr w211_q))
        · skip
          have w201_q := or_0 l201_q (by assumption)
          clear l201_q
          refine zaload_n (k := 112) rfl rfl ?_
          refine zldc2 (k := 113) (z := 26982) rfl kc_12_293 rfl ?_
          refine zfV1 (k := 114) rfl c_M_isWord fm_M_isWord lk_12_331 rfl rfl ob_289 ⟨_, rfl, rfl⟩ (Nat.le_of_ble_eq_true rfl) (by decide) ⟨by decide, by decide⟩ ?_
          rw [isW_e (w := 26982) (u := 17) hc.1.2.2.2.2.2.2 k4_q (by omega) rfl]
          obtain ⟨z211_q, e211_q⟩ : ∃ z : Int, z = (if isOw T p 17 then 1 else 0) := ⟨_, rfl⟩
          rw [← e211_q]
          have l211_q := ite_o e211_q
          clear e211_q
          refine zif_eq (k := 115) rfl rfl (fun c26_q => ?_) (fun c26_q => ?_)
          · skip
            have w211_q := or_0 l211_q (by assumption)
            clear l211_q
            exact cut313_q n20_q n91_q n21_q w174_q (fun q => by rcases q with q | q | q; exact w191_q q; exact w201_q q; exact w211_q q)
          · skip
            have w211_q := or_1 l211_q (by assumption)
            clear l211_q
            first
            | exact cut217_q n20_q n91_q n21_q w174_q (Or.inl w191_q)
            | exact cut217_q n20_q n91_q n21_q w174_q (Or.inr (Or.inl w201_q))
            | exact cut217_q n20_q n91_q n21_q w174_q (Or.inr (Or.inr w211_q))
    · skip
      have w174_q := or_1 l174_q (by assumption)
      clear l174_q
      -- PAR
      refine zaload_n (k := 99) rfl rfl ?_
      refine ziconst (k := 100) rfl (by decide) ?_
      refine zpV0 (k := 101) rfl (c_M_opens hF hc (by rw [List.length_cons]; omega) ho w174_q.1) fm_M_opens lk_12_338 rfl rfl ob_289 ⟨_, rfl, rfl⟩ (Nat.le_of_ble_eq_true rfl) (by decide) ⟨by decide, by decide⟩ (fun σ3 b3_q => ?_)
      refine ziconst (k := 102) rfl (by decide) ?_
      refine zzreturn (k := 103) rfl rfl (by first | exact Or.inl rfl | exact Or.inr rfl | omega) rfl ?_
      rw [← hQ]
      refine ⟨rfl, _, rfl, (by first | exact Or.inl rfl | exact Or.inr rfl), ?_⟩
      unfold oprF
      rw [if_neg k4_q]
      rw [if_neg n20_q, if_neg n91_q, if_neg n21_q, if_pos w174_q]
      unfold opn
      rcases b3_q with ⟨h7_q, b⟩ | ⟨h7_q, b⟩
      · rw [if_pos h7_q]; exact b
      · rw [if_neg h7_q]; exact ⟨b 0 (fun q => by omega), rfl⟩
  have cut110_q : ∀ (t : Int), ((t = 1 ∧ isT kd ∧ bg = true) ∨ (t = 0 ∧ ¬ (isT kd ∧ bg = true))) → (¬ ((isT kd ∧ bg = true) ∧ isOw T p 20)) → zV Γ m_M_operand 3 0 0 Q (GM L) (0, 0) 110 [some (zR 289), some (zI (R.length : Int)), some (zI t), none] [] σ := by
    intro t ht n20_q
    refine zaload_n (k := 60) rfl rfl ?_
    refine zgF 36 (k := 61) rfl ob_289 fl_12_122 rfl fx_289_36 ?_
    refine ziload_n (k := 62) rfl rfl ?_
    refine ziconst (k := 63) rfl (by decide) ?_
    refine zbastore (k := 64) rfl ar_310 ⟨by omega, by omega⟩ (by omega) (by first | exact Or.inl rfl | exact Or.inr rfl | omega) ?_
    have hc0_q := hc
    replace hc := cfM_b (v := 0) (b' := false) hF hc rfl
    replace f8_q := hc.1.2.2.2.2.1
    replace sq := hc.1.2.2.2.2.2.2.1
    replace hop := hc.2.2.2.2.2.1
    refine ziload_n (k := 65) rfl rfl ?_
    refine zif_eq (k := 66) rfl rfl (fun c27_q => ?_) (fun c27_q => ?_)
    · skip
      -- T0
      have hTn := or_0 ht (by assumption)
      refine ziload_n (k := 76) rfl rfl ?_
      refine zif_eq (k := 77) rfl rfl (fun c28_q => ?_) (fun c28_q => ?_)
      · skip
        refine zforget (ls' := [_, _, _, _]) 2 rfl ?_
        exact cut171_q 0 n20_q (fun q => hTn q.1) (fun q => hTn q.1)
      · exfalso; omega
    · skip
      -- T1
      have hTb := or_1 ht (by assumption)
      refine zaload_n (k := 67) rfl rfl ?_
      refine zbipush (k := 68) rfl rfl ?_
      refine zfV1 (k := 69) rfl c_M_isSign fm_M_isSign lk_12_253 rfl rfl ob_289 ⟨_, rfl, rfl⟩ (Nat.le_of_ble_eq_true rfl) (by decide) ⟨by decide, by decide⟩ ?_
      rw [isS_e hc.1.2.2.2.2.2.2 k4_q]
      obtain ⟨z124_q, e124_q⟩ : ∃ z : Int, z = (if isSg T p 91 then 1 else 0) := ⟨_, rfl⟩
      rw [← e124_q]
      have l124_q := ite_o e124_q
      clear e124_q
      refine zif_eq (k := 70) rfl rfl (fun c29_q => ?_) (fun c29_q => ?_)
      · skip
        have w124_q := or_0 l124_q (by assumption)
        clear l124_q
        refine ziload_n (k := 76) rfl rfl ?_
        refine zif_eq (k := 77) rfl rfl (fun c30_q => ?_) (fun c30_q => ?_)
        · exfalso; omega
        refine zaload_n (k := 78) rfl rfl ?_
        refine zldc2 (k := 79) (z := 6384748) rfl kc_12_301 rfl ?_
        refine zfV1 (k := 80) rfl c_M_isWord fm_M_isWord lk_12_331 rfl rfl ob_289 ⟨_, rfl, rfl⟩ (Nat.le_of_ble_eq_true rfl) (by decide) ⟨by decide, by decide⟩ ?_
        rw [isW_e (w := 6384748) (u := 21) hc.1.2.2.2.2.2.2 k4_q (by omega) rfl]
        obtain ⟨z145_q, e145_q⟩ : ∃ z : Int, z = (if isOw T p 21 then 1 else 0) := ⟨_, rfl⟩
        rw [← e145_q]
        have l145_q := ite_o e145_q
        clear e145_q
        refine zif_eq (k := 81) rfl rfl (fun c31_q => ?_) (fun c31_q => ?_)
        · skip
          have w145_q := or_0 l145_q (by assumption)
          clear l145_q
          refine zforget (ls' := [_, _, _, _]) 2 rfl ?_
          exact cut171_q 0 n20_q (fun q => w124_q q.2) (fun q => w145_q q.2)
        · skip
          have w145_q := or_1 l145_q (by assumption)
          clear l145_q
          -- ALL
          refine zaload_n (k := 82) rfl rfl ?_
          refine zbipush (k := 83) rfl rfl ?_
          refine ziconst (k := 84) rfl (by decide) ?_
          refine zfV0 (k := 85) rfl (c_M_add (k := (out.length : Int)) hi1_q hc.1.2.2.1 hc.2.2.2.2.1 (by have q := hn (Or.inl w145_q.1); omega)) fm_M_add lk_12_322 rfl rfl ob_289 ⟨_, rfl, rfl⟩ (Nat.le_of_ble_eq_true rfl) (by decide) ⟨by decide, by decide⟩ ?_
          replace hc := cfM_a (a := 30) (v := 0) hF hc (hn (Or.inl w145_q.1))
          refine zaload_n (k := 86) rfl rfl ?_
          refine zgF 35 (k := 87) rfl ob_289 fl_12_119 rfl fx_289_35 ?_
          refine ziload_n (k := 88) rfl rfl ?_
          refine ziconst (k := 89) rfl (by decide) ?_
          refine ziastore (k := 90) rfl ar_309 ⟨by omega, by omega⟩ (by omega) ?_
          replace hc := cfM_ph (v := 2) hF hc
          refine zaload_n (k := 91) rfl rfl ?_
          refine zpV0 (k := 92) rfl (c_ahd hc (Or.inl w145_q.1)) fm_M_ahead lk_12_256 rfl rfl ob_289 ⟨_, rfl, rfl⟩ (Nat.le_of_ble_eq_true rfl) (by decide) ⟨by decide, by decide⟩ (fun σ3 b3_q => ?_)
          obtain ⟨h3_q, e3_q⟩ := b3_q
          refine ziconst (k := 93) rfl (by decide) ?_
          refine zzreturn (k := 94) rfl rfl (by first | exact Or.inl rfl | exact Or.inr rfl | omega) rfl ?_
          rw [← hQ]
          refine ⟨rfl, _, rfl, (by first | exact Or.inl rfl | exact Or.inr rfl), ?_⟩
          unfold oprF
          rw [if_neg k4_q]
          rw [if_neg n20_q, if_neg (fun q => w124_q q.2), if_pos ⟨hTb, w145_q⟩]
          exact ⟨h3_q, rfl⟩
      · skip
        have w124_q := or_1 l124_q (by assumption)
        clear l124_q
        -- BRA
        refine zaload_n (k := 71) rfl rfl ?_
        refine ziconst (k := 72) rfl (by decide) ?_
        refine zpV0 (k := 73) rfl (c_M_opens hF hc (by rw [List.length_cons]; omega) ho w124_q.1) fm_M_opens lk_12_338 rfl rfl ob_289 ⟨_, rfl, rfl⟩ (Nat.le_of_ble_eq_true rfl) (by decide) ⟨by decide, by decide⟩ (fun σ3 b3_q => ?_)
        refine ziconst (k := 74) rfl (by decide) ?_
        refine zzreturn (k := 75) rfl rfl (by first | exact Or.inl rfl | exact Or.inr rfl | omega) rfl ?_
        rw [← hQ]
        refine ⟨rfl, _, rfl, (by first | exact Or.inl rfl | exact Or.inr rfl), ?_⟩
        unfold oprF
        rw [if_neg k4_q]
        rw [if_neg n20_q, if_pos ⟨hTb, w124_q⟩]
        unfold opn
        rcases b3_q with ⟨h7_q, b⟩ | ⟨h7_q, b⟩
        · rw [if_pos h7_q]; exact b
        · rw [if_neg h7_q]; exact ⟨b 0 (fun q => by omega), rfl⟩
  have cut46_q : ∀ (t : Int), ((t = 1 ∧ isT kd ∧ bg = true) ∨ (t = 0 ∧ ¬ (isT kd ∧ bg = true))) → zV Γ m_M_operand 3 0 0 Q (GM L) (0, 0) 46 [some (zR 289), some (zI (R.length : Int)), none, none] [zI t] σ := by
    intro t ht
    refine zistore_n (k := 26) (ls' := [_, _, _, _]) rfl (Nat.le_of_ble_eq_true rfl) rfl ?_
    refine ziload_n (k := 27) rfl rfl ?_
    refine zif_eq (k := 28) rfl rfl (fun c32_q => ?_) (fun c32_q => ?_)
    · skip
      -- T0
      have hTn := or_0 ht (by assumption)
      exact cut110_q t ht (fun q => hTn q.1)
    · skip
      -- T1
      have hTb := or_1 ht (by assumption)
      refine zaload_n (k := 29) rfl rfl ?_
      refine zldc2 (k := 30) (z := 7237492) rfl kc_12_299 rfl ?_
      refine zfV1 (k := 31) rfl c_M_isWord fm_M_isWord lk_12_331 rfl rfl ob_289 ⟨_, rfl, rfl⟩ (Nat.le_of_ble_eq_true rfl) (by decide) ⟨by decide, by decide⟩ ?_
      rw [isW_e (w := 7237492) (u := 20) hc.1.2.2.2.2.2.2 k4_q (by omega) rfl]
      obtain ⟨z55_q, e55_q⟩ : ∃ z : Int, z = (if isOw T p 20 then 1 else 0) := ⟨_, rfl⟩
      rw [← e55_q]
      have l55_q := ite_o e55_q
      clear e55_q
      refine zif_eq (k := 32) rfl rfl (fun c33_q => ?_) (fun c33_q => ?_)
      · skip
        have w55_q := or_0 l55_q (by assumption)
        clear l55_q
        exact cut110_q t ht (fun q => w55_q q.2)
      · skip
        have w55_q := or_1 l55_q (by assumption)
        clear l55_q
        -- NOT
        refine zaload_n (k := 33) rfl rfl ?_
        refine zgI 40 (k := 34) rfl ob_289 fl_12_135 rfl fx_289_40 ?_
        rw [hop]
        refine zbipush (k := 35) rfl rfl ?_
        refine zicmp_ne (k := 36) rfl rfl (fun c34_q => ?_) (fun c34_q => ?_)
        · skip
          refine zaload_n (k := 42) rfl rfl ?_
          refine zgI 8 (k := 43) rfl ob_289 fl_12_36 rfl fx_289_8 ?_
          rw [f8_q]
          refine zif_le (k := 44) rfl rfl (fun c35_q => ?_) (fun c35_q => ?_)
          · skip
            refine zaload_n (k := 47) rfl rfl ?_
            refine zdup (k := 48) rfl rfl ?_
            refine zgI 40 (k := 49) rfl ob_289 fl_12_135 rfl fx_289_40 ?_
            rw [hop]
            refine ziconst (k := 50) rfl (by decide) ?_
            refine ziaddB (k := 51) rfl (by omega) ?_
            refine zpI 40 (k := 52) rfl ob_289 fl_12_135 ⟨_, rfl, rfl⟩ rfl (by omega) rfl fx_289_40 ?_
            have hc1_q := cfM_o (v := o + 1) hF hc
            refine zaload_n (k := 53) rfl rfl ?_
            refine zbipush (k := 54) rfl rfl ?_
            refine zfV0 (k := 55) rfl (c_M_holdsBack (m := σ 289 42) (by rw [zup_n (by omega)]) hm) fm_M_holdsBack lk_12_335 rfl rfl ob_289 ⟨_, rfl, rfl⟩ (Nat.le_of_ble_eq_true rfl) (by decide) ⟨by decide, by decide⟩ ?_
            have hc2_q := cfM_h (x := 43) (m := σ 289 42) hF hc1_q (zup_n (by omega))
            refine zaload_n (k := 56) rfl rfl ?_
            refine zpV0 (k := 57) rfl (c_ahd hc2_q (Or.inl w55_q.1)) fm_M_ahead lk_12_256 rfl rfl ob_289 ⟨_, rfl, rfl⟩ (Nat.le_of_ble_eq_true rfl) (by decide) ⟨by decide, by decide⟩ (fun σ3 b3_q => ?_)
            obtain ⟨h3_q, e3_q⟩ := b3_q
            refine ziconst (k := 58) rfl (by decide) ?_
            refine zzreturn (k := 59) rfl rfl (by first | exact Or.inl rfl | exact Or.inr rfl | omega) rfl ?_
            rw [← hQ]
            refine ⟨rfl, _, rfl, (by first | exact Or.inl rfl | exact Or.inr rfl), ?_⟩
            unfold oprF
            rw [if_neg k4_q]
            rw [if_pos ⟨hTb, w55_q⟩, if_neg (by omega)]
            exact ⟨h3_q, rfl⟩
          · exfalso; omega
        · skip
          refine zaload_n (k := 37) rfl rfl ?_
          refine ziconst (k := 38) rfl (by decide) ?_
          refine zaload_n (k := 39) rfl rfl ?_
          refine zgI 4 (k := 40) rfl ob_289 fl_12_23 rfl fx_289_4 ?_
          rw [sq]
          refine zpV0 (k := 41) rfl (q_blm (k := 5) (pl := (tQ T p)) hc.1 f8_q (by omega)) fm_M_blame lk_12_239 rfl rfl ob_289 ⟨_, rfl, rfl⟩ (Nat.le_of_ble_eq_true rfl) (by decide) ⟨by decide, by decide⟩ (fun σ2 b2_q => ?_)
          -- BLAMED
          obtain ⟨h2_q, f8_q, fx⟩ := b2_q
          refine zaload_n (k := 42) rfl rfl ?_
          refine zgI 8 (k := 43) rfl ob_289 fl_12_36 rfl fx_289_8 ?_
          rw [f8_q]
          refine zif_le (k := 44) rfl rfl (fun c36_q => ?_) (fun c36_q => ?_)
          · exfalso; omega
          refine ziconst (k := 45) rfl (by decide) ?_
          refine zzreturn (k := 46) rfl rfl (by first | exact Or.inl rfl | exact Or.inr rfl | omega) rfl ?_
          rw [← hQ]
          refine ⟨rfl, _, rfl, (by first | exact Or.inl rfl | exact Or.inr rfl), ?_⟩
          unfold oprF
          rw [if_neg k4_q]
          rw [if_pos ⟨hTb, w55_q⟩, if_pos (by omega)]
          exact h2_q
  refine zaload_n (k := 0) rfl rfl ?_
  refine zpV0 (k := 1) rfl (q_lex hc.1) fm_M_lex lk_12_250 rfl rfl ob_289 ⟨_, rfl, rfl⟩ (Nat.le_of_ble_eq_true rfl) (by decide) ⟨by decide, by decide⟩ (fun σ1 l1_q => ?_)
  obtain ⟨_, rfl⟩ : tK T p ≠ 4 ∧ σ = σ1 := by
    rcases l1_q with q | q
    · exact ⟨q.1, q.2.symm⟩
    · exact absurd q.1 k4_q
  refine zaload_n (k := 2) rfl rfl ?_
  refine zgI 8 (k := 3) rfl ob_289 fl_12_36 rfl fx_289_8 ?_
  rw [f8_q]
  refine zif_le (k := 4) rfl rfl (fun c37_q => ?_) (fun c37_q => ?_)
  · skip
    refine zaload_n (k := 7) rfl rfl ?_
    refine zgI 39 (k := 8) rfl ob_289 fl_12_132 rfl fx_289_39 ?_
    rw [hD]
    refine ziconst (k := 9) rfl (by decide) ?_
    refine zisubB (k := 10) rfl (by omega) ?_
    rw [show (R.length : Int) + 1 - 1 = (R.length : Int) by omega]
    refine zistore_n (k := 11) (ls' := [_, _, _, _]) rfl (Nat.le_of_ble_eq_true rfl) rfl ?_
    refine zaload_n (k := 12) rfl rfl ?_
    refine zgF 34 (k := 13) rfl ob_289 fl_12_116 rfl fx_289_34 ?_
    refine ziload_n (k := 14) rfl rfl ?_
    refine ziaload (k := 15) rfl ar_308 ⟨by omega, by omega⟩ ?_
    rw [fr.1]
    refine zfS1 (k := 16) rfl c_M_isTest fm_M_isTest lk_12_328 rfl rfl (Nat.le_of_ble_eq_true rfl) (by decide) ⟨by decide, by decide⟩ ?_
    obtain ⟨z26_q, e26_q⟩ : ∃ z : Int, z = (if isT kd then 1 else 0) := ⟨_, rfl⟩
    rw [← e26_q]
    have l26_q := ite_o e26_q
    clear e26_q
    refine zif_eq (k := 17) rfl rfl (fun c38_q => ?_) (fun c38_q => ?_)
    · skip
      have w26_q := or_0 l26_q (by assumption)
      clear l26_q
      refine ziconst (k := 25) rfl (by decide) ?_
      first
      | exact cut46_q 1 (Or.inl ⟨rfl, w26_q, hbg⟩)
      | exact cut46_q 0 (Or.inr ⟨rfl, fun q => w26_q q.1⟩)
      | exact cut46_q 0 (Or.inr ⟨rfl, fun q => hbg q.2⟩)
    · skip
      have w26_q := or_1 l26_q (by assumption)
      clear l26_q
      refine zaload_n (k := 18) rfl rfl ?_
      refine zgF 36 (k := 19) rfl ob_289 fl_12_122 rfl fx_289_36 ?_
      refine ziload_n (k := 20) rfl rfl ?_
      refine zbaload (k := 21) rfl ar_310 ⟨by omega, by omega⟩ ?_
      rw [fr.2.2.1]
      refine zif_eq (k := 22) rfl rfl (fun c39_q => ?_) (fun c39_q => ?_)
      · skip
        have hbg := zB_f (by assumption)
        refine ziconst (k := 25) rfl (by decide) ?_
        first
        | exact cut46_q 1 (Or.inl ⟨rfl, w26_q, hbg⟩)
        | exact cut46_q 0 (Or.inr ⟨rfl, fun q => w26_q q.1⟩)
        | exact cut46_q 0 (Or.inr ⟨rfl, fun q => hbg q.2⟩)
      · skip
        have hbg := zB_t (by assumption)
        refine ziconst (k := 23) rfl (by decide) ?_
        refine zgoto (k := 24) rfl rfl ?_
        first
        | exact cut46_q 1 (Or.inl ⟨rfl, w26_q, hbg⟩)
        | exact cut46_q 0 (Or.inr ⟨rfl, fun q => w26_q q.1⟩)
        | exact cut46_q 0 (Or.inr ⟨rfl, fun q => hbg q.2⟩)
  · exfalso; omega
