set_option maxHeartbeats 4000000 in
set_option maxRecDepth 20000 in
theorem g_gon5 {Γ : zv_M} {L : Int} {s : zSpan} {σ : zv_H} {T : Int → Int} {n i p o kd ph pr : Int} {A : zv_H} {lk bg : Bool} {ops : List Int} {R : List zFr} {out : List (Int × Int)} (hi1_q : i = 0 ∨ i = 1) (hF : ∀ x k, inF i x k → s.2 x k) (hc : cfM s σ T n i A lk p ((kd, ph, bg, pr, ops) :: R) out o) (k4_q : tK T p ≠ 4) (h43_q : σ 289 43 = 1) (hkd : 0 ≤ kd ∧ kd ≤ 6) (hR : 2 ≤ kd → R ≠ []) (hl : R.length ≤ 7) (ho : 0 ≤ o ∧ o ≤ 7) (hN : out.length + ops.length ≤ 1600) (hn : (tK T p = 1 ∨ tK T p = 2 ∨ tK T p = 3) → out.length + ops.length < 1600) (hm : 0 ≤ σ 289 42 ∧ σ 289 42 < 500)  : zC Γ m_M_goesOn 3 0 0 (GM L) [zR 289] σ (zPI (GM L) (fun z σ' => gonM s σ' T n i A lk z (gonS T p kd ph bg pr ops R out o))) := by
  refine zC_of (ls0 := [_, _, _, _, _]) zm_M_goesOn (by decide) rfl (Nat.le_of_ble_eq_true rfl) ?_
  generalize hQ : (zPI (GM L) (fun z σ' => gonM s σ' T n i A lk z (gonS T p kd ph bg pr ops R out o))) = Q
  have f8_q := hc.1.2.2.2.2.1
  have sq := hc.1.2.2.2.2.2.2.1
  have hD : σ 289 39 = (R.length : Int) + 1 := by rw [hc.2.2.1, List.length_cons]; omega
  have fr := hc.2.1.1
  have cut422_q : ∀ (t : Int), ((t = 1 ∧ isT kd) ∨ (t = 0 ∧ ¬ isT kd)) → (¬ (ph < 2 ∧ isA T p)) → (¬ (isT kd ∧ ph = 0 ∧ isC T p)) → (¬ (isT kd ∧ (isOw T p 19 ∨ isOw T p 18))) → (¬ (isT kd ∧ ph = 0)) → zV Γ m_M_goesOn 3 0 0 Q (GM L) (0, 0) 422 [some (zR 289), some (zI (R.length : Int)), some (zI kd), some (zI t), none] [] σ := by
    intro t ht hnA hnC hnO hnP
    refine ziload_n (k := 214) rfl rfl ?_
    refine ziconst (k := 215) rfl (by decide) ?_
    refine zicmp_ge (k := 216) rfl rfl (fun c1_q => ?_) (fun c1_q => ?_)
    · skip
      refine ziload_n (k := 225) rfl rfl ?_
      refine ziconst (k := 226) rfl (by decide) ?_
      refine zicmp_eq (k := 227) rfl rfl (fun c2_q => ?_) (fun c2_q => ?_)
      · skip
        -- LCOM
        refine zaload_n (k := 231) rfl rfl ?_
        refine zbipush (k := 232) rfl rfl ?_
        refine zfV1 (k := 233) rfl c_M_isSign fm_M_isSign lk_12_253 rfl rfl ob_289 ⟨_, rfl, rfl⟩ (Nat.le_of_ble_eq_true rfl) (by decide) ⟨by decide, by decide⟩ ?_
        rw [isS_e hc.1.2.2.2.2.2.2 k4_q]
        obtain ⟨z455_q, e455_q⟩ : ∃ z : Int, z = (if isSg T p 44 then 1 else 0) := ⟨_, rfl⟩
        rw [← e455_q]
        have l455_q := ite_o e455_q
        clear e455_q
        refine zif_ne (k := 234) rfl rfl (fun c3_q => ?_) (fun c3_q => ?_)
        · skip
          have w455_q := or_1 l455_q (by assumption)
          clear l455_q
          refine zaload_n (k := 240) rfl rfl ?_
          refine zgI 8 (k := 241) rfl ob_289 fl_12_36 rfl fx_289_8 ?_
          rw [f8_q]
          refine zif_le (k := 242) rfl rfl (fun c4_q => ?_) (fun c4_q => ?_)
          · skip
            refine zaload_n (k := 245) rfl rfl ?_
            refine ziconst (k := 246) rfl (by decide) ?_
            refine zpV0 (k := 247) rfl (q_joins (l := 1) hi1_q hF hc (by omega) (by omega) hN (by omega)) fm_M_joins lk_12_341 rfl rfl ob_289 ⟨_, rfl, rfl⟩ (Nat.le_of_ble_eq_true rfl) (by decide) ⟨by decide, by decide⟩ (fun σ5 b5_q => ?_)
            obtain ⟨hc5_q, hm5_q, hn5_q, e43_q⟩ := b5_q
            replace hc := hc5_q
            refine zaload_n (k := 248) rfl rfl ?_
            refine zgF 34 (k := 249) rfl ob_289 fl_12_116 rfl fx_289_34 ?_
            refine ziload_n (k := 250) rfl rfl ?_
            refine ziload_n (k := 251) rfl rfl ?_
            refine ziconst (k := 252) rfl (by decide) ?_
            refine zicmp_ne (k := 253) rfl rfl (fun c5_q => ?_) (fun c5_q => ?_)
            · skip
              refine ziconst (k := 256) rfl (by decide) ?_
              refine ziastore (k := 257) rfl ar_308 ⟨by omega, by omega⟩ (by omega) ?_
              have hc6_q := cfM_kd (v := 3) hF hc5_q (by omega)
              refine zaload_n (k := 258) rfl rfl ?_
              refine zgF 35 (k := 259) rfl ob_289 fl_12_119 rfl fx_289_35 ?_
              refine ziload_n (k := 260) rfl rfl ?_
              refine ziconst (k := 261) rfl (by decide) ?_
              refine ziastore (k := 262) rfl ar_309 ⟨by omega, by omega⟩ (by omega) ?_
              have hc7_q := cfM_ph (v := 0) hF hc6_q
              refine zaload_n (k := 263) rfl rfl ?_
              refine zpV0 (k := 264) rfl (c_ahd hc7_q (Or.inr (Or.inr w455_q.1))) fm_M_ahead lk_12_256 rfl rfl ob_289 ⟨_, rfl, rfl⟩ (Nat.le_of_ble_eq_true rfl) (by decide) ⟨by decide, by decide⟩ (fun σ7 b7_q => ?_)
              obtain ⟨h7_q, e7⟩ := b7_q
              refine zaload_n (k := 265) rfl rfl ?_
              refine ziconst (k := 266) rfl (by decide) ?_
              refine zpZ 43 (k := 267) rfl ob_289 fl_12_144 ⟨_, rfl, rfl⟩ rfl (by first | exact Or.inl rfl | exact Or.inr rfl | omega) (by omega) rfl fx_289_43 ?_
              refine ziconst (k := 268) rfl (by decide) ?_
              refine zzreturn (k := 269) rfl rfl (by first | exact Or.inl rfl | exact Or.inr rfl | omega) rfl ?_
              rw [← hQ]
              refine ⟨rfl, _, rfl, ?_⟩
              unfold gonS
              rw [if_neg k4_q]
              rw [if_neg hnA]
              rw [if_neg hnC]
              rw [if_neg hnO]
              rw [if_neg hnP]
              rw [if_neg (by omega)]
              rw [if_pos (by omega)]
              rw [if_neg (fun q => q w455_q), if_neg (by omega)]
              exact ⟨(cfM_43 (v := 0) hF h7_q), rfl, by rw [zup_s]; rfl⟩
            · skip
              -- C3
              refine ziconst (k := 254) rfl (by decide) ?_
              refine zgoto (k := 255) rfl rfl ?_
              refine ziastore (k := 257) rfl ar_308 ⟨by omega, by omega⟩ (by omega) ?_
              have hc6_q := cfM_kd (v := 4) hF hc5_q (by omega)
              refine zaload_n (k := 258) rfl rfl ?_
              refine zgF 35 (k := 259) rfl ob_289 fl_12_119 rfl fx_289_35 ?_
              refine ziload_n (k := 260) rfl rfl ?_
              refine ziconst (k := 261) rfl (by decide) ?_
              refine ziastore (k := 262) rfl ar_309 ⟨by omega, by omega⟩ (by omega) ?_
              have hc7_q := cfM_ph (v := 0) hF hc6_q
              refine zaload_n (k := 263) rfl rfl ?_
              refine zpV0 (k := 264) rfl (c_ahd hc7_q (Or.inr (Or.inr w455_q.1))) fm_M_ahead lk_12_256 rfl rfl ob_289 ⟨_, rfl, rfl⟩ (Nat.le_of_ble_eq_true rfl) (by decide) ⟨by decide, by decide⟩ (fun σ7 b7_q => ?_)
              obtain ⟨h7_q, e7⟩ := b7_q
              refine zaload_n (k := 265) rfl rfl ?_
              refine ziconst (k := 266) rfl (by decide) ?_
              refine zpZ 43 (k := 267) rfl ob_289 fl_12_144 ⟨_, rfl, rfl⟩ rfl (by first | exact Or.inl rfl | exact Or.inr rfl | omega) (by omega) rfl fx_289_43 ?_
              refine ziconst (k := 268) rfl (by decide) ?_
              refine zzreturn (k := 269) rfl rfl (by first | exact Or.inl rfl | exact Or.inr rfl | omega) rfl ?_
              rw [← hQ]
              refine ⟨rfl, _, rfl, ?_⟩
              unfold gonS
              rw [if_neg k4_q]
              rw [if_neg hnA]
              rw [if_neg hnC]
              rw [if_neg hnO]
              rw [if_neg hnP]
              rw [if_neg (by omega)]
              rw [if_pos (by omega)]
              rw [if_neg (fun q => q w455_q), if_pos (by omega)]
              exact ⟨(cfM_43 (v := 0) hF h7_q), rfl, by rw [zup_s]; rfl⟩
          · exfalso; omega
        · skip
          have w455_q := or_0 l455_q (by assumption)
          clear l455_q
          refine zaload_n (k := 235) rfl rfl ?_
          refine ziconst (k := 236) rfl (by decide) ?_
          refine zaload_n (k := 237) rfl rfl ?_
          refine zgI 4 (k := 238) rfl ob_289 fl_12_23 rfl fx_289_4 ?_
          rw [sq]
          refine zpV0 (k := 239) rfl (q_blm (k := 1) (pl := (tQ T p)) hc.1 f8_q (by omega)) fm_M_blame lk_12_239 rfl rfl ob_289 ⟨_, rfl, rfl⟩ (Nat.le_of_ble_eq_true rfl) (by decide) ⟨by decide, by decide⟩ (fun σ2 b2_q => ?_)
          -- BLAMED
          obtain ⟨h2_q, f8_q, fx⟩ := b2_q
          refine zaload_n (k := 240) rfl rfl ?_
          refine zgI 8 (k := 241) rfl ob_289 fl_12_36 rfl fx_289_8 ?_
          rw [f8_q]
          refine zif_le (k := 242) rfl rfl (fun c6_q => ?_) (fun c6_q => ?_)
          · exfalso; omega
          refine ziconst (k := 243) rfl (by decide) ?_
          refine zzreturn (k := 244) rfl rfl (by first | exact Or.inl rfl | exact Or.inr rfl | omega) rfl ?_
          rw [← hQ]
          refine ⟨rfl, _, rfl, ?_⟩
          unfold gonS
          rw [if_neg k4_q]
          rw [if_neg hnA]
          rw [if_neg hnC]
          rw [if_neg hnO]
          rw [if_neg hnP]
          rw [if_neg (by omega)]
          rw [if_pos (by omega)]
          rw [if_pos w455_q]
          exact h2_q
      · skip
        refine ziload_n (k := 228) rfl rfl ?_
        refine zbipush (k := 229) rfl rfl ?_
        refine zicmp_ne (k := 230) rfl rfl (fun c7_q => ?_) (fun c7_q => ?_)
        · skip
          refine zaload_n (k := 270) rfl rfl ?_
          refine ziload_n (k := 271) rfl rfl ?_
          refine ziconst (k := 272) rfl (by decide) ?_
          refine zicmp_ne (k := 273) rfl rfl (fun c8_q => ?_) (fun c8_q => ?_)
          · skip
            refine zbipush (k := 276) rfl rfl ?_
            refine zfV1 (k := 277) rfl c_M_isSign fm_M_isSign lk_12_253 rfl rfl ob_289 ⟨_, rfl, rfl⟩ (Nat.le_of_ble_eq_true rfl) (by decide) ⟨by decide, by decide⟩ ?_
            rw [isS_e hc.1.2.2.2.2.2.2 k4_q]
            obtain ⟨z531_q, e531_q⟩ : ∃ z : Int, z = (if isSg T p 41 then 1 else 0) := ⟨_, rfl⟩
            rw [← e531_q]
            have l531_q := ite_o e531_q
            clear e531_q
            refine zif_ne (k := 278) rfl rfl (fun c9_q => ?_) (fun c9_q => ?_)
            · skip
              have w531_q := or_1 l531_q (by assumption)
              clear l531_q
              refine zaload_n (k := 284) rfl rfl ?_
              refine zgI 8 (k := 285) rfl ob_289 fl_12_36 rfl fx_289_8 ?_
              rw [f8_q]
              refine zif_le (k := 286) rfl rfl (fun c10_q => ?_) (fun c10_q => ?_)
              · skip
                refine zaload_n (k := 289) rfl rfl ?_
                refine ziconst (k := 290) rfl (by decide) ?_
                refine zpV0 (k := 291) rfl (q_joins (l := 1) hi1_q hF hc (by omega) (by omega) hN (by omega)) fm_M_joins lk_12_341 rfl rfl ob_289 ⟨_, rfl, rfl⟩ (Nat.le_of_ble_eq_true rfl) (by decide) ⟨by decide, by decide⟩ (fun σ5 b5_q => ?_)
                obtain ⟨hc5_q, hm5_q, hn5_q, e43_q⟩ := b5_q
                replace hc := hc5_q
                have hz := mjo_1 ops out o
                rw [hz] at hc5_q hn5_q
                rw [List.length_nil] at hn5_q
                have hD5 := hc5_q.2.2.1
                rw [List.length_cons] at hD5
                have hob := mjo_o (l := 1) ops out o
                have hnn := hn (Or.inr (Or.inr w531_q.1))
                have hop5_q : (ops.length : Int) ≤ 1600 := by omega
                refine zaload_n (k := 292) rfl rfl ?_
                refine zdup (k := 293) rfl rfl ?_
                refine zgI 39 (k := 294) rfl ob_289 fl_12_132 rfl fx_289_39 ?_
                rw [hD5]
                refine ziconst (k := 295) rfl (by decide) ?_
                refine zisubB (k := 296) rfl (by omega) ?_
                rw [show ((R.length + 1 : Nat) : Int) - 1 = (R.length : Int) by omega]
                refine zpI 39 (k := 297) rfl ob_289 fl_12_132 ⟨_, rfl, rfl⟩ rfl (by omega) rfl fx_289_39 ?_
                have hc6_q := cfM_pop hF hc5_q
                refine zaload_n (k := 298) rfl rfl ?_
                refine zdup (k := 299) rfl rfl ?_
                refine zgI 40 (k := 300) rfl ob_289 fl_12_135 rfl fx_289_40 ?_
                rw [hc6_q.2.2.2.2.2.1]
                refine ziconst (k := 301) rfl (by decide) ?_
                refine zisubB (k := 302) rfl (by omega) ?_
                refine zpI 40 (k := 303) rfl ob_289 fl_12_135 ⟨_, rfl, rfl⟩ rfl (by omega) rfl fx_289_40 ?_
                have hc7_q := cfM_o (v := (mjo 1 ops out o).2.2 - 1) hF hc6_q
                refine ziload_n (k := 304) rfl rfl ?_
                refine ziconst (k := 305) rfl (by decide) ?_
                refine zicmp_ne (k := 306) rfl rfl (fun c11_q => ?_) (fun c11_q => ?_)
                · skip
                  skip
                  refine ziload_n (k := 314) rfl rfl ?_
                  refine ziconst (k := 315) rfl (by decide) ?_
                  refine zicmp_ne (k := 316) rfl rfl (fun c12_q => ?_) (fun c12_q => ?_)
                  · skip
                    skip
                    refine zaload_n (k := 325) rfl rfl ?_
                    refine zpV0 (k := 326) rfl (c_ahd hc7_q (Or.inr (Or.inr w531_q.1))) fm_M_ahead lk_12_256 rfl rfl ob_289 ⟨_, rfl, rfl⟩ (Nat.le_of_ble_eq_true rfl) (by decide) ⟨by decide, by decide⟩ (fun σ7 b7_q => ?_)
                    obtain ⟨h7_q, e7⟩ := b7_q
                    refine ziconst (k := 327) rfl (by decide) ?_
                    refine zzreturn (k := 328) rfl rfl (by first | exact Or.inl rfl | exact Or.inr rfl | omega) rfl ?_
                    have q43_q : σ7 289 43 = 1 := by rw [e7 289 43 (by omega), zup_n (by omega), zup_n (by omega), e43_q]; exact h43_q
                    rw [← hQ]
                    refine ⟨rfl, _, rfl, ?_⟩
                    unfold gonS
                    rw [if_neg k4_q]
                    rw [if_neg hnA]
                    rw [if_neg hnC]
                    rw [if_neg hnO]
                    rw [if_neg hnP]
                    rw [if_neg (by omega)]
                    rw [if_neg (by omega)]
                    rw [if_neg (c := kd = 5) (by omega)]
                    rw [if_neg (fun q => q w531_q)]
                    rw [if_neg (c := kd = 4) (by omega), clos_n (by omega)]
                    exact ⟨h7_q, rfl, q43_q⟩
                  · exfalso; omega
                · skip
                  -- K4
                  refine zaload_n (k := 307) rfl rfl ?_
                  refine zaload_n (k := 308) rfl rfl ?_
                  refine zgF 37 (k := 309) rfl ob_289 fl_12_126 rfl fx_289_37 ?_
                  refine ziload_n (k := 310) rfl rfl ?_
                  refine ziaload (k := 311) rfl ar_311 ⟨by omega, by omega⟩ ?_
                  rw [zup_n (by omega), zup_n (by omega), hc5_q.2.1.1.2.2.2.1 (by omega)]
                  refine ziconst (k := 312) rfl (by decide) ?_
                  refine zfV0 (k := 313) rfl (c_M_add (k := ((mjo 1 ops out o).2.1.length : Int)) hi1_q hc7_q.1.2.2.1 hc7_q.2.2.2.2.1 (by omega)) fm_M_add lk_12_322 rfl rfl ob_289 ⟨_, rfl, rfl⟩ (Nat.le_of_ble_eq_true rfl) (by decide) ⟨by decide, by decide⟩ ?_
                  have hc8_q := cfM_a (a := pr) (v := 0) hF hc7_q (by omega)
                  refine ziload_n (k := 314) rfl rfl ?_
                  refine ziconst (k := 315) rfl (by decide) ?_
                  refine zicmp_ne (k := 316) rfl rfl (fun c13_q => ?_) (fun c13_q => ?_)
                  · skip
                    skip
                    refine zaload_n (k := 325) rfl rfl ?_
                    refine zpV0 (k := 326) rfl (c_ahd hc8_q (Or.inr (Or.inr w531_q.1))) fm_M_ahead lk_12_256 rfl rfl ob_289 ⟨_, rfl, rfl⟩ (Nat.le_of_ble_eq_true rfl) (by decide) ⟨by decide, by decide⟩ (fun σ7 b7_q => ?_)
                    obtain ⟨h7_q, e7⟩ := b7_q
                    refine ziconst (k := 327) rfl (by decide) ?_
                    refine zzreturn (k := 328) rfl rfl (by first | exact Or.inl rfl | exact Or.inr rfl | omega) rfl ?_
                    have q43_q : σ7 289 43 = 1 := by rw [e7 289 43 (by omega), zup_n (by omega), zup_n (by omega), zup_n (by omega), zup_n (by omega), zup_n (by omega), e43_q]; exact h43_q
                    rw [← hQ]
                    refine ⟨rfl, _, rfl, ?_⟩
                    unfold gonS
                    rw [if_neg k4_q]
                    rw [if_neg hnA]
                    rw [if_neg hnC]
                    rw [if_neg hnO]
                    rw [if_neg hnP]
                    rw [if_neg (by omega)]
                    rw [if_neg (by omega)]
                    rw [if_neg (c := kd = 5) (by omega)]
                    rw [if_neg (fun q => q w531_q)]
                    rw [if_pos (c := kd = 4) (by omega), clos_n (by omega)]
                    exact ⟨h7_q, rfl, q43_q⟩
                  · exfalso; omega
              · exfalso; omega
            · skip
              have w531_q := or_0 l531_q (by assumption)
              clear l531_q
              refine zaload_n (k := 279) rfl rfl ?_
              refine ziconst (k := 280) rfl (by decide) ?_
              refine zaload_n (k := 281) rfl rfl ?_
              refine zgI 4 (k := 282) rfl ob_289 fl_12_23 rfl fx_289_4 ?_
              rw [sq]
              refine zpV0 (k := 283) rfl (q_blm (k := 1) (pl := (tQ T p)) hc.1 f8_q (by omega)) fm_M_blame lk_12_239 rfl rfl ob_289 ⟨_, rfl, rfl⟩ (Nat.le_of_ble_eq_true rfl) (by decide) ⟨by decide, by decide⟩ (fun σ2 b2_q => ?_)
              -- BLAMED
              obtain ⟨h2_q, f8_q, fx⟩ := b2_q
              refine zaload_n (k := 284) rfl rfl ?_
              refine zgI 8 (k := 285) rfl ob_289 fl_12_36 rfl fx_289_8 ?_
              rw [f8_q]
              refine zif_le (k := 286) rfl rfl (fun c14_q => ?_) (fun c14_q => ?_)
              · exfalso; omega
              refine ziconst (k := 287) rfl (by decide) ?_
              refine zzreturn (k := 288) rfl rfl (by first | exact Or.inl rfl | exact Or.inr rfl | omega) rfl ?_
              rw [← hQ]
              refine ⟨rfl, _, rfl, ?_⟩
              unfold gonS
              rw [if_neg k4_q]
              rw [if_neg hnA]
              rw [if_neg hnC]
              rw [if_neg hnO]
              rw [if_neg hnP]
              rw [if_neg (by omega)]
              rw [if_neg (by omega)]
              rw [if_neg (c := kd = 5) (by omega)]
              rw [if_pos w531_q]
              exact h2_q
          · skip
            -- K5
            refine zbipush (k := 274) rfl rfl ?_
            refine zgoto (k := 275) rfl rfl ?_
            refine zfV1 (k := 277) rfl c_M_isSign fm_M_isSign lk_12_253 rfl rfl ob_289 ⟨_, rfl, rfl⟩ (Nat.le_of_ble_eq_true rfl) (by decide) ⟨by decide, by decide⟩ ?_
            rw [isS_e hc.1.2.2.2.2.2.2 k4_q]
            obtain ⟨z531_q, e531_q⟩ : ∃ z : Int, z = (if isSg T p 93 then 1 else 0) := ⟨_, rfl⟩
            rw [← e531_q]
            have l531_q := ite_o e531_q
            clear e531_q
            refine zif_ne (k := 278) rfl rfl (fun c15_q => ?_) (fun c15_q => ?_)
            · skip
              have w531_q := or_1 l531_q (by assumption)
              clear l531_q
              refine zaload_n (k := 284) rfl rfl ?_
              refine zgI 8 (k := 285) rfl ob_289 fl_12_36 rfl fx_289_8 ?_
              rw [f8_q]
              refine zif_le (k := 286) rfl rfl (fun c16_q => ?_) (fun c16_q => ?_)
              · skip
                refine zaload_n (k := 289) rfl rfl ?_
                refine ziconst (k := 290) rfl (by decide) ?_
                refine zpV0 (k := 291) rfl (q_joins (l := 1) hi1_q hF hc (by omega) (by omega) hN (by omega)) fm_M_joins lk_12_341 rfl rfl ob_289 ⟨_, rfl, rfl⟩ (Nat.le_of_ble_eq_true rfl) (by decide) ⟨by decide, by decide⟩ (fun σ5 b5_q => ?_)
                obtain ⟨hc5_q, hm5_q, hn5_q, e43_q⟩ := b5_q
                replace hc := hc5_q
                have hz := mjo_1 ops out o
                rw [hz] at hc5_q hn5_q
                rw [List.length_nil] at hn5_q
                have hD5 := hc5_q.2.2.1
                rw [List.length_cons] at hD5
                have hob := mjo_o (l := 1) ops out o
                have hnn := hn (Or.inr (Or.inr w531_q.1))
                have hop5_q : (ops.length : Int) ≤ 1600 := by omega
                refine zaload_n (k := 292) rfl rfl ?_
                refine zdup (k := 293) rfl rfl ?_
                refine zgI 39 (k := 294) rfl ob_289 fl_12_132 rfl fx_289_39 ?_
                rw [hD5]
                refine ziconst (k := 295) rfl (by decide) ?_
                refine zisubB (k := 296) rfl (by omega) ?_
                rw [show ((R.length + 1 : Nat) : Int) - 1 = (R.length : Int) by omega]
                refine zpI 39 (k := 297) rfl ob_289 fl_12_132 ⟨_, rfl, rfl⟩ rfl (by omega) rfl fx_289_39 ?_
                have hc6_q := cfM_pop hF hc5_q
                refine zaload_n (k := 298) rfl rfl ?_
                refine zdup (k := 299) rfl rfl ?_
                refine zgI 40 (k := 300) rfl ob_289 fl_12_135 rfl fx_289_40 ?_
                rw [hc6_q.2.2.2.2.2.1]
                refine ziconst (k := 301) rfl (by decide) ?_
                refine zisubB (k := 302) rfl (by omega) ?_
                refine zpI 40 (k := 303) rfl ob_289 fl_12_135 ⟨_, rfl, rfl⟩ rfl (by omega) rfl fx_289_40 ?_
                have hc7_q := cfM_o (v := (mjo 1 ops out o).2.2 - 1) hF hc6_q
                refine ziload_n (k := 304) rfl rfl ?_
                refine ziconst (k := 305) rfl (by decide) ?_
                refine zicmp_ne (k := 306) rfl rfl (fun c17_q => ?_) (fun c17_q => ?_)
                · skip
                  skip
                  refine ziload_n (k := 314) rfl rfl ?_
                  refine ziconst (k := 315) rfl (by decide) ?_
                  refine zicmp_ne (k := 316) rfl rfl (fun c18_q => ?_) (fun c18_q => ?_)
                  · exfalso; omega
                  -- K5
                  obtain ⟨⟨fa, fb, fc, fd, fe⟩, R2, rfl⟩ : ∃ f R2, R = f :: R2 := by
                    rcases R with _ | ⟨f, R2⟩
                    · exact absurd rfl (hR (by omega))
                    · exact ⟨f, R2, rfl⟩
                  have hl2_q := hl
                  rw [List.length_cons] at hl2_q
                  refine zaload_n (k := 317) rfl rfl ?_
                  refine zgF 35 (k := 318) rfl ob_289 fl_12_119 rfl fx_289_35 ?_
                  refine zaload_n (k := 319) rfl rfl ?_
                  refine zgI 39 (k := 320) rfl ob_289 fl_12_132 rfl fx_289_39 ?_
                  rw [hc7_q.2.2.1]
                  refine ziconst (k := 321) rfl (by decide) ?_
                  refine zisubB (k := 322) rfl (by omega) ?_
                  rw [show (((fa, fb, fc, fd, fe) :: R2 : List zFr).length : Int) - 1 = (R2.length : Int) by rw [List.length_cons]; omega]
                  refine ziconst (k := 323) rfl (by decide) ?_
                  refine ziastore (k := 324) rfl ar_309 ⟨by omega, by omega⟩ (by omega) ?_
                  have hc9_q := cfM_ph (v := 2) hF hc7_q
                  refine zaload_n (k := 325) rfl rfl ?_
                  refine zpV0 (k := 326) rfl (c_ahd hc9_q (Or.inr (Or.inr w531_q.1))) fm_M_ahead lk_12_256 rfl rfl ob_289 ⟨_, rfl, rfl⟩ (Nat.le_of_ble_eq_true rfl) (by decide) ⟨by decide, by decide⟩ (fun σ7 b7_q => ?_)
                  obtain ⟨h7_q, e7⟩ := b7_q
                  refine ziconst (k := 327) rfl (by decide) ?_
                  refine zzreturn (k := 328) rfl rfl (by first | exact Or.inl rfl | exact Or.inr rfl | omega) rfl ?_
                  have q43_q : σ7 289 43 = 1 := by rw [e7 289 43 (by omega), zup_n (by omega), zup_n (by omega), zup_n (by omega), e43_q]; exact h43_q
                  rw [← hQ]
                  refine ⟨rfl, _, rfl, ?_⟩
                  unfold gonS
                  rw [if_neg k4_q]
                  rw [if_neg hnA]
                  rw [if_neg hnC]
                  rw [if_neg hnO]
                  rw [if_neg hnP]
                  rw [if_neg (by omega)]
                  rw [if_neg (by omega)]
                  rw [if_pos (c := kd = 5) (by omega)]
                  rw [if_neg (fun q => q w531_q)]
                  rw [if_neg (c := kd = 4) (by omega)]
                  rw [show clos kd ((fa, fb, fc, fd, fe) :: R2) = (fa, 2, fc, fd, fe) :: R2 from if_pos (by omega)]
                  exact ⟨h7_q, rfl, q43_q⟩
                · exfalso; omega
              · exfalso; omega
            · skip
              have w531_q := or_0 l531_q (by assumption)
              clear l531_q
              refine zaload_n (k := 279) rfl rfl ?_
              refine ziconst (k := 280) rfl (by decide) ?_
              refine zaload_n (k := 281) rfl rfl ?_
              refine zgI 4 (k := 282) rfl ob_289 fl_12_23 rfl fx_289_4 ?_
              rw [sq]
              refine zpV0 (k := 283) rfl (q_blm (k := 1) (pl := (tQ T p)) hc.1 f8_q (by omega)) fm_M_blame lk_12_239 rfl rfl ob_289 ⟨_, rfl, rfl⟩ (Nat.le_of_ble_eq_true rfl) (by decide) ⟨by decide, by decide⟩ (fun σ2 b2_q => ?_)
              -- BLAMED
              obtain ⟨h2_q, f8_q, fx⟩ := b2_q
              refine zaload_n (k := 284) rfl rfl ?_
              refine zgI 8 (k := 285) rfl ob_289 fl_12_36 rfl fx_289_8 ?_
              rw [f8_q]
              refine zif_le (k := 286) rfl rfl (fun c19_q => ?_) (fun c19_q => ?_)
              · exfalso; omega
              refine ziconst (k := 287) rfl (by decide) ?_
              refine zzreturn (k := 288) rfl rfl (by first | exact Or.inl rfl | exact Or.inr rfl | omega) rfl ?_
              rw [← hQ]
              refine ⟨rfl, _, rfl, ?_⟩
              unfold gonS
              rw [if_neg k4_q]
              rw [if_neg hnA]
              rw [if_neg hnC]
              rw [if_neg hnO]
              rw [if_neg hnP]
              rw [if_neg (by omega)]
              rw [if_neg (by omega)]
              rw [if_pos (c := kd = 5) (by omega)]
              rw [if_pos w531_q]
              exact h2_q
        · skip
          -- LCOM
          refine zaload_n (k := 231) rfl rfl ?_
          refine zbipush (k := 232) rfl rfl ?_
          refine zfV1 (k := 233) rfl c_M_isSign fm_M_isSign lk_12_253 rfl rfl ob_289 ⟨_, rfl, rfl⟩ (Nat.le_of_ble_eq_true rfl) (by decide) ⟨by decide, by decide⟩ ?_
          rw [isS_e hc.1.2.2.2.2.2.2 k4_q]
          obtain ⟨z455_q, e455_q⟩ : ∃ z : Int, z = (if isSg T p 44 then 1 else 0) := ⟨_, rfl⟩
          rw [← e455_q]
          have l455_q := ite_o e455_q
          clear e455_q
          refine zif_ne (k := 234) rfl rfl (fun c20_q => ?_) (fun c20_q => ?_)
          · skip
            have w455_q := or_1 l455_q (by assumption)
            clear l455_q
            refine zaload_n (k := 240) rfl rfl ?_
            refine zgI 8 (k := 241) rfl ob_289 fl_12_36 rfl fx_289_8 ?_
            rw [f8_q]
            refine zif_le (k := 242) rfl rfl (fun c21_q => ?_) (fun c21_q => ?_)
            · skip
              refine zaload_n (k := 245) rfl rfl ?_
              refine ziconst (k := 246) rfl (by decide) ?_
              refine zpV0 (k := 247) rfl (q_joins (l := 1) hi1_q hF hc (by omega) (by omega) hN (by omega)) fm_M_joins lk_12_341 rfl rfl ob_289 ⟨_, rfl, rfl⟩ (Nat.le_of_ble_eq_true rfl) (by decide) ⟨by decide, by decide⟩ (fun σ5 b5_q => ?_)
              obtain ⟨hc5_q, hm5_q, hn5_q, e43_q⟩ := b5_q
              replace hc := hc5_q
              refine zaload_n (k := 248) rfl rfl ?_
              refine zgF 34 (k := 249) rfl ob_289 fl_12_116 rfl fx_289_34 ?_
              refine ziload_n (k := 250) rfl rfl ?_
              refine ziload_n (k := 251) rfl rfl ?_
              refine ziconst (k := 252) rfl (by decide) ?_
              refine zicmp_ne (k := 253) rfl rfl (fun c22_q => ?_) (fun c22_q => ?_)
              · skip
                refine ziconst (k := 256) rfl (by decide) ?_
                refine ziastore (k := 257) rfl ar_308 ⟨by omega, by omega⟩ (by omega) ?_
                have hc6_q := cfM_kd (v := 3) hF hc5_q (by omega)
                refine zaload_n (k := 258) rfl rfl ?_
                refine zgF 35 (k := 259) rfl ob_289 fl_12_119 rfl fx_289_35 ?_
                refine ziload_n (k := 260) rfl rfl ?_
                refine ziconst (k := 261) rfl (by decide) ?_
                refine ziastore (k := 262) rfl ar_309 ⟨by omega, by omega⟩ (by omega) ?_
                have hc7_q := cfM_ph (v := 0) hF hc6_q
                refine zaload_n (k := 263) rfl rfl ?_
                refine zpV0 (k := 264) rfl (c_ahd hc7_q (Or.inr (Or.inr w455_q.1))) fm_M_ahead lk_12_256 rfl rfl ob_289 ⟨_, rfl, rfl⟩ (Nat.le_of_ble_eq_true rfl) (by decide) ⟨by decide, by decide⟩ (fun σ7 b7_q => ?_)
                obtain ⟨h7_q, e7⟩ := b7_q
                refine zaload_n (k := 265) rfl rfl ?_
                refine ziconst (k := 266) rfl (by decide) ?_
                refine zpZ 43 (k := 267) rfl ob_289 fl_12_144 ⟨_, rfl, rfl⟩ rfl (by first | exact Or.inl rfl | exact Or.inr rfl | omega) (by omega) rfl fx_289_43 ?_
                refine ziconst (k := 268) rfl (by decide) ?_
                refine zzreturn (k := 269) rfl rfl (by first | exact Or.inl rfl | exact Or.inr rfl | omega) rfl ?_
                rw [← hQ]
                refine ⟨rfl, _, rfl, ?_⟩
                unfold gonS
                rw [if_neg k4_q]
                rw [if_neg hnA]
                rw [if_neg hnC]
                rw [if_neg hnO]
                rw [if_neg hnP]
                rw [if_neg (by omega)]
                rw [if_pos (by omega)]
                rw [if_neg (fun q => q w455_q), if_neg (by omega)]
                exact ⟨(cfM_43 (v := 0) hF h7_q), rfl, by rw [zup_s]; rfl⟩
              · skip
                -- C3
                refine ziconst (k := 254) rfl (by decide) ?_
                refine zgoto (k := 255) rfl rfl ?_
                refine ziastore (k := 257) rfl ar_308 ⟨by omega, by omega⟩ (by omega) ?_
                have hc6_q := cfM_kd (v := 4) hF hc5_q (by omega)
                refine zaload_n (k := 258) rfl rfl ?_
                refine zgF 35 (k := 259) rfl ob_289 fl_12_119 rfl fx_289_35 ?_
                refine ziload_n (k := 260) rfl rfl ?_
                refine ziconst (k := 261) rfl (by decide) ?_
                refine ziastore (k := 262) rfl ar_309 ⟨by omega, by omega⟩ (by omega) ?_
                have hc7_q := cfM_ph (v := 0) hF hc6_q
                refine zaload_n (k := 263) rfl rfl ?_
                refine zpV0 (k := 264) rfl (c_ahd hc7_q (Or.inr (Or.inr w455_q.1))) fm_M_ahead lk_12_256 rfl rfl ob_289 ⟨_, rfl, rfl⟩ (Nat.le_of_ble_eq_true rfl) (by decide) ⟨by decide, by decide⟩ (fun σ7 b7_q => ?_)
                obtain ⟨h7_q, e7⟩ := b7_q
                refine zaload_n (k := 265) rfl rfl ?_
                refine ziconst (k := 266) rfl (by decide) ?_
                refine zpZ 43 (k := 267) rfl ob_289 fl_12_144 ⟨_, rfl, rfl⟩ rfl (by first | exact Or.inl rfl | exact Or.inr rfl | omega) (by omega) rfl fx_289_43 ?_
                refine ziconst (k := 268) rfl (by decide) ?_
                refine zzreturn (k := 269) rfl rfl (by first | exact Or.inl rfl | exact Or.inr rfl | omega) rfl ?_
                rw [← hQ]
                refine ⟨rfl, _, rfl, ?_⟩
                unfold gonS
                rw [if_neg k4_q]
                rw [if_neg hnA]
                rw [if_neg hnC]
                rw [if_neg hnO]
                rw [if_neg hnP]
                rw [if_neg (by omega)]
                rw [if_pos (by omega)]
                rw [if_neg (fun q => q w455_q), if_pos (by omega)]
                exact ⟨(cfM_43 (v := 0) hF h7_q), rfl, by rw [zup_s]; rfl⟩
            · exfalso; omega
          · skip
            have w455_q := or_0 l455_q (by assumption)
            clear l455_q
            refine zaload_n (k := 235) rfl rfl ?_
            refine ziconst (k := 236) rfl (by decide) ?_
            refine zaload_n (k := 237) rfl rfl ?_
            refine zgI 4 (k := 238) rfl ob_289 fl_12_23 rfl fx_289_4 ?_
            rw [sq]
            refine zpV0 (k := 239) rfl (q_blm (k := 1) (pl := (tQ T p)) hc.1 f8_q (by omega)) fm_M_blame lk_12_239 rfl rfl ob_289 ⟨_, rfl, rfl⟩ (Nat.le_of_ble_eq_true rfl) (by decide) ⟨by decide, by decide⟩ (fun σ2 b2_q => ?_)
            -- BLAMED
            obtain ⟨h2_q, f8_q, fx⟩ := b2_q
            refine zaload_n (k := 240) rfl rfl ?_
            refine zgI 8 (k := 241) rfl ob_289 fl_12_36 rfl fx_289_8 ?_
            rw [f8_q]
            refine zif_le (k := 242) rfl rfl (fun c23_q => ?_) (fun c23_q => ?_)
            · exfalso; omega
            refine ziconst (k := 243) rfl (by decide) ?_
            refine zzreturn (k := 244) rfl rfl (by first | exact Or.inl rfl | exact Or.inr rfl | omega) rfl ?_
            rw [← hQ]
            refine ⟨rfl, _, rfl, ?_⟩
            unfold gonS
            rw [if_neg k4_q]
            rw [if_neg hnA]
            rw [if_neg hnC]
            rw [if_neg hnO]
            rw [if_neg hnP]
            rw [if_neg (by omega)]
            rw [if_pos (by omega)]
            rw [if_pos w455_q]
            exact h2_q
    · skip
      -- LEND
      refine zaload_n (k := 217) rfl rfl ?_
      refine zgI 8 (k := 218) rfl ob_289 fl_12_36 rfl fx_289_8 ?_
      rw [f8_q]
      refine zif_ne (k := 219) rfl rfl (fun c24_q => ?_) (fun c24_q => ?_)
      · exfalso; omega
      refine zaload_n (k := 220) rfl rfl ?_
      refine ziconst (k := 221) rfl (by decide) ?_
      refine zpV0 (k := 222) rfl (q_joins (l := 1) hi1_q hF hc (by omega) (by omega) hN (by omega)) fm_M_joins lk_12_341 rfl rfl ob_289 ⟨_, rfl, rfl⟩ (Nat.le_of_ble_eq_true rfl) (by decide) ⟨by decide, by decide⟩ (fun σ5 b5_q => ?_)
      obtain ⟨hc5_q, hm5_q, hn5_q, e43_q⟩ := b5_q
      replace hc := hc5_q
      refine ziconst (k := 223) rfl (by decide) ?_
      refine zzreturn (k := 224) rfl rfl (by first | exact Or.inl rfl | exact Or.inr rfl | omega) rfl ?_
      rw [← hQ]
      refine ⟨rfl, _, rfl, ?_⟩
      unfold gonS
      rw [if_neg k4_q]
      rw [if_neg hnA]
      rw [if_neg hnC]
      rw [if_neg hnO]
      rw [if_neg hnP]
      rw [if_pos (by omega)]
      exact ⟨hc5_q, rfl⟩
  have cut400_q : ∀ (t : Int), ((t = 1 ∧ isT kd) ∨ (t = 0 ∧ ¬ isT kd)) → (¬ (ph < 2 ∧ isA T p)) → (¬ (isT kd ∧ ph = 0 ∧ isC T p)) → (¬ (isT kd ∧ (isOw T p 19 ∨ isOw T p 18))) → zV Γ m_M_goesOn 3 0 0 Q (GM L) (0, 0) 400 [some (zR 289), some (zI (R.length : Int)), some (zI kd), some (zI t), none] [] σ := by
    intro t ht hnA hnC hnO
    refine ziload_n (k := 202) rfl rfl ?_
    refine zif_eq (k := 203) rfl rfl (fun c25_q => ?_) (fun c25_q => ?_)
    · skip
      -- T0
      have hnT := or_0 ht (by assumption)
      exact cut422_q t ht hnA hnC hnO (fun q => hnT q.1)
    · skip
      -- T1
      have hT := or_1 ht (by assumption)
      refine zaload_n (k := 204) rfl rfl ?_
      refine zgF 35 (k := 205) rfl ob_289 fl_12_119 rfl fx_289_35 ?_
      refine ziload_n (k := 206) rfl rfl ?_
      refine ziaload (k := 207) rfl ar_309 ⟨by omega, by omega⟩ ?_
      rw [fr.2.1]
      refine zif_ne (k := 208) rfl rfl (fun c26_q => ?_) (fun c26_q => ?_)
      · skip
        exact cut422_q t ht hnA hnC hnO (fun q => absurd q.2 (by assumption))
      · skip
        -- LPH0
        refine zaload_n (k := 209) rfl rfl ?_
        refine ziconst (k := 210) rfl (by decide) ?_
        refine zaload_n (k := 211) rfl rfl ?_
        refine zgI 4 (k := 212) rfl ob_289 fl_12_23 rfl fx_289_4 ?_
        rw [sq]
        refine zpV0 (k := 213) rfl (q_blm (k := 1) (pl := (tQ T p)) hc.1 f8_q (by omega)) fm_M_blame lk_12_239 rfl rfl ob_289 ⟨_, rfl, rfl⟩ (Nat.le_of_ble_eq_true rfl) (by decide) ⟨by decide, by decide⟩ (fun σ2 b2_q => ?_)
        -- BLAMED
        obtain ⟨h2_q, f8_q, fx⟩ := b2_q
        refine ziload_n (k := 214) rfl rfl ?_
        refine ziconst (k := 215) rfl (by decide) ?_
        refine zicmp_ge (k := 216) rfl rfl (fun c27_q => ?_) (fun c27_q => ?_)
        · skip
          refine ziload_n (k := 225) rfl rfl ?_
          refine ziconst (k := 226) rfl (by decide) ?_
          refine zicmp_eq (k := 227) rfl rfl (fun c28_q => ?_) (fun c28_q => ?_)
          · skip
            skip
            refine zaload_n (k := 231) rfl rfl ?_
            refine zbipush (k := 232) rfl rfl ?_
            refine zfV1 (k := 233) rfl c_M_isSign fm_M_isSign lk_12_253 rfl rfl ob_289 ⟨_, rfl, rfl⟩ (Nat.le_of_ble_eq_true rfl) (by decide) ⟨by decide, by decide⟩ ?_
            refine zif_ne (k := 234) rfl rfl (fun c29_q => ?_) (fun c29_q => ?_)
            · skip
              refine zaload_n (k := 240) rfl rfl ?_
              refine zgI 8 (k := 241) rfl ob_289 fl_12_36 rfl fx_289_8 ?_
              rw [f8_q]
              refine zif_le (k := 242) rfl rfl (fun c30_q => ?_) (fun c30_q => ?_)
              · exfalso; omega
              refine ziconst (k := 243) rfl (by decide) ?_
              refine zzreturn (k := 244) rfl rfl (by first | exact Or.inl rfl | exact Or.inr rfl | omega) rfl ?_
              rw [← hQ]
              refine ⟨rfl, _, rfl, ?_⟩
              unfold gonS
              rw [if_neg k4_q]
              rw [if_neg hnA]
              rw [if_neg hnC]
              rw [if_neg hnO]
              rw [if_pos ⟨hT, by assumption⟩]
              exact h2_q
            · skip
              refine zaload_n (k := 235) rfl rfl ?_
              refine ziconst (k := 236) rfl (by decide) ?_
              refine zaload_n (k := 237) rfl rfl ?_
              refine zgI 4 (k := 238) rfl ob_289 fl_12_23 rfl fx_289_4 ?_
              skip
              refine zfV0 (k := 239) rfl (bad_blame (by omega)) fm_M_blame lk_12_239 rfl rfl ob_289 ⟨_, rfl, rfl⟩ (Nat.le_of_ble_eq_true rfl) (by decide) ⟨by decide, by decide⟩ ?_
              refine zaload_n (k := 240) rfl rfl ?_
              refine zgI 8 (k := 241) rfl ob_289 fl_12_36 rfl fx_289_8 ?_
              rw [f8_q]
              refine zif_le (k := 242) rfl rfl (fun c31_q => ?_) (fun c31_q => ?_)
              · exfalso; omega
              refine ziconst (k := 243) rfl (by decide) ?_
              refine zzreturn (k := 244) rfl rfl (by first | exact Or.inl rfl | exact Or.inr rfl | omega) rfl ?_
              rw [← hQ]
              refine ⟨rfl, _, rfl, ?_⟩
              unfold gonS
              rw [if_neg k4_q]
              rw [if_neg hnA]
              rw [if_neg hnC]
              rw [if_neg hnO]
              rw [if_pos ⟨hT, by assumption⟩]
              exact h2_q
          · skip
            refine ziload_n (k := 228) rfl rfl ?_
            refine zbipush (k := 229) rfl rfl ?_
            refine zicmp_ne (k := 230) rfl rfl (fun c32_q => ?_) (fun c32_q => ?_)
            · skip
              refine zaload_n (k := 270) rfl rfl ?_
              refine ziload_n (k := 271) rfl rfl ?_
              refine ziconst (k := 272) rfl (by decide) ?_
              refine zicmp_ne (k := 273) rfl rfl (fun c33_q => ?_) (fun c33_q => ?_)
              · skip
                refine zbipush (k := 276) rfl rfl ?_
                refine zfV1 (k := 277) rfl c_M_isSign fm_M_isSign lk_12_253 rfl rfl ob_289 ⟨_, rfl, rfl⟩ (Nat.le_of_ble_eq_true rfl) (by decide) ⟨by decide, by decide⟩ ?_
                refine zif_ne (k := 278) rfl rfl (fun c34_q => ?_) (fun c34_q => ?_)
                · skip
                  refine zaload_n (k := 284) rfl rfl ?_
                  refine zgI 8 (k := 285) rfl ob_289 fl_12_36 rfl fx_289_8 ?_
                  rw [f8_q]
                  refine zif_le (k := 286) rfl rfl (fun c35_q => ?_) (fun c35_q => ?_)
                  · exfalso; omega
                  refine ziconst (k := 287) rfl (by decide) ?_
                  refine zzreturn (k := 288) rfl rfl (by first | exact Or.inl rfl | exact Or.inr rfl | omega) rfl ?_
                  rw [← hQ]
                  refine ⟨rfl, _, rfl, ?_⟩
                  unfold gonS
                  rw [if_neg k4_q]
                  rw [if_neg hnA]
                  rw [if_neg hnC]
                  rw [if_neg hnO]
                  rw [if_pos ⟨hT, by assumption⟩]
                  exact h2_q
                · skip
                  refine zaload_n (k := 279) rfl rfl ?_
                  refine ziconst (k := 280) rfl (by decide) ?_
                  refine zaload_n (k := 281) rfl rfl ?_
                  refine zgI 4 (k := 282) rfl ob_289 fl_12_23 rfl fx_289_4 ?_
                  skip
                  refine zfV0 (k := 283) rfl (bad_blame (by omega)) fm_M_blame lk_12_239 rfl rfl ob_289 ⟨_, rfl, rfl⟩ (Nat.le_of_ble_eq_true rfl) (by decide) ⟨by decide, by decide⟩ ?_
                  refine zaload_n (k := 284) rfl rfl ?_
                  refine zgI 8 (k := 285) rfl ob_289 fl_12_36 rfl fx_289_8 ?_
                  rw [f8_q]
                  refine zif_le (k := 286) rfl rfl (fun c36_q => ?_) (fun c36_q => ?_)
                  · exfalso; omega
                  refine ziconst (k := 287) rfl (by decide) ?_
                  refine zzreturn (k := 288) rfl rfl (by first | exact Or.inl rfl | exact Or.inr rfl | omega) rfl ?_
                  rw [← hQ]
                  refine ⟨rfl, _, rfl, ?_⟩
                  unfold gonS
                  rw [if_neg k4_q]
                  rw [if_neg hnA]
                  rw [if_neg hnC]
                  rw [if_neg hnO]
                  rw [if_pos ⟨hT, by assumption⟩]
                  exact h2_q
              · skip
                -- K5
                refine zbipush (k := 274) rfl rfl ?_
                refine zgoto (k := 275) rfl rfl ?_
                refine zfV1 (k := 277) rfl c_M_isSign fm_M_isSign lk_12_253 rfl rfl ob_289 ⟨_, rfl, rfl⟩ (Nat.le_of_ble_eq_true rfl) (by decide) ⟨by decide, by decide⟩ ?_
                refine zif_ne (k := 278) rfl rfl (fun c37_q => ?_) (fun c37_q => ?_)
                · skip
                  refine zaload_n (k := 284) rfl rfl ?_
                  refine zgI 8 (k := 285) rfl ob_289 fl_12_36 rfl fx_289_8 ?_
                  rw [f8_q]
                  refine zif_le (k := 286) rfl rfl (fun c38_q => ?_) (fun c38_q => ?_)
                  · exfalso; omega
                  refine ziconst (k := 287) rfl (by decide) ?_
                  refine zzreturn (k := 288) rfl rfl (by first | exact Or.inl rfl | exact Or.inr rfl | omega) rfl ?_
                  rw [← hQ]
                  refine ⟨rfl, _, rfl, ?_⟩
                  unfold gonS
                  rw [if_neg k4_q]
                  rw [if_neg hnA]
                  rw [if_neg hnC]
                  rw [if_neg hnO]
                  rw [if_pos ⟨hT, by assumption⟩]
                  exact h2_q
                · skip
                  refine zaload_n (k := 279) rfl rfl ?_
                  refine ziconst (k := 280) rfl (by decide) ?_
                  refine zaload_n (k := 281) rfl rfl ?_
                  refine zgI 4 (k := 282) rfl ob_289 fl_12_23 rfl fx_289_4 ?_
                  skip
                  refine zfV0 (k := 283) rfl (bad_blame (by omega)) fm_M_blame lk_12_239 rfl rfl ob_289 ⟨_, rfl, rfl⟩ (Nat.le_of_ble_eq_true rfl) (by decide) ⟨by decide, by decide⟩ ?_
                  refine zaload_n (k := 284) rfl rfl ?_
                  refine zgI 8 (k := 285) rfl ob_289 fl_12_36 rfl fx_289_8 ?_
                  rw [f8_q]
                  refine zif_le (k := 286) rfl rfl (fun c39_q => ?_) (fun c39_q => ?_)
                  · exfalso; omega
                  refine ziconst (k := 287) rfl (by decide) ?_
                  refine zzreturn (k := 288) rfl rfl (by first | exact Or.inl rfl | exact Or.inr rfl | omega) rfl ?_
                  rw [← hQ]
                  refine ⟨rfl, _, rfl, ?_⟩
                  unfold gonS
                  rw [if_neg k4_q]
                  rw [if_neg hnA]
                  rw [if_neg hnC]
                  rw [if_neg hnO]
                  rw [if_pos ⟨hT, by assumption⟩]
                  exact h2_q
            · skip
              skip
              refine zaload_n (k := 231) rfl rfl ?_
              refine zbipush (k := 232) rfl rfl ?_
              refine zfV1 (k := 233) rfl c_M_isSign fm_M_isSign lk_12_253 rfl rfl ob_289 ⟨_, rfl, rfl⟩ (Nat.le_of_ble_eq_true rfl) (by decide) ⟨by decide, by decide⟩ ?_
              refine zif_ne (k := 234) rfl rfl (fun c40_q => ?_) (fun c40_q => ?_)
              · skip
                refine zaload_n (k := 240) rfl rfl ?_
                refine zgI 8 (k := 241) rfl ob_289 fl_12_36 rfl fx_289_8 ?_
                rw [f8_q]
                refine zif_le (k := 242) rfl rfl (fun c41_q => ?_) (fun c41_q => ?_)
                · exfalso; omega
                refine ziconst (k := 243) rfl (by decide) ?_
                refine zzreturn (k := 244) rfl rfl (by first | exact Or.inl rfl | exact Or.inr rfl | omega) rfl ?_
                rw [← hQ]
                refine ⟨rfl, _, rfl, ?_⟩
                unfold gonS
                rw [if_neg k4_q]
                rw [if_neg hnA]
                rw [if_neg hnC]
                rw [if_neg hnO]
                rw [if_pos ⟨hT, by assumption⟩]
                exact h2_q
              · skip
                refine zaload_n (k := 235) rfl rfl ?_
                refine ziconst (k := 236) rfl (by decide) ?_
                refine zaload_n (k := 237) rfl rfl ?_
                refine zgI 4 (k := 238) rfl ob_289 fl_12_23 rfl fx_289_4 ?_
                skip
                refine zfV0 (k := 239) rfl (bad_blame (by omega)) fm_M_blame lk_12_239 rfl rfl ob_289 ⟨_, rfl, rfl⟩ (Nat.le_of_ble_eq_true rfl) (by decide) ⟨by decide, by decide⟩ ?_
                refine zaload_n (k := 240) rfl rfl ?_
                refine zgI 8 (k := 241) rfl ob_289 fl_12_36 rfl fx_289_8 ?_
                rw [f8_q]
                refine zif_le (k := 242) rfl rfl (fun c42_q => ?_) (fun c42_q => ?_)
                · exfalso; omega
                refine ziconst (k := 243) rfl (by decide) ?_
                refine zzreturn (k := 244) rfl rfl (by first | exact Or.inl rfl | exact Or.inr rfl | omega) rfl ?_
                rw [← hQ]
                refine ⟨rfl, _, rfl, ?_⟩
                unfold gonS
                rw [if_neg k4_q]
                rw [if_neg hnA]
                rw [if_neg hnC]
                rw [if_neg hnO]
                rw [if_pos ⟨hT, by assumption⟩]
                exact h2_q
        · skip
          skip
          refine zaload_n (k := 217) rfl rfl ?_
          refine zgI 8 (k := 218) rfl ob_289 fl_12_36 rfl fx_289_8 ?_
          rw [f8_q]
          refine zif_ne (k := 219) rfl rfl (fun c43_q => ?_) (fun c43_q => ?_)
          · skip
            refine ziconst (k := 223) rfl (by decide) ?_
            refine zzreturn (k := 224) rfl rfl (by first | exact Or.inl rfl | exact Or.inr rfl | omega) rfl ?_
            rw [← hQ]
            refine ⟨rfl, _, rfl, ?_⟩
            unfold gonS
            rw [if_neg k4_q]
            rw [if_neg hnA]
            rw [if_neg hnC]
            rw [if_neg hnO]
            rw [if_pos ⟨hT, by assumption⟩]
            exact h2_q
          · exfalso; omega
  have cut309_q : ∀ (t : Int), (¬ (ph < 2 ∧ isA T p)) → (¬ (isT kd ∧ ph = 0 ∧ isC T p)) → (isT kd) → (isOw T p 19 ∨ isOw T p 18) → zV Γ m_M_goesOn 3 0 0 Q (GM L) (0, 0) 309 [some (zR 289), some (zI (R.length : Int)), some (zI kd), some (zI t), none] [] σ := by
    intro t hnA hnC hT hao
    refine zaload_n (k := 152) rfl rfl ?_
    -- LAND
    have hkw : tK T p = 1 := by
      rcases hao with q | q
      · exact q.1
      · exact q.1
    refine zgF 35 (k := 153) rfl ob_289 fl_12_119 rfl fx_289_35 ?_
    refine ziload_n (k := 154) rfl rfl ?_
    refine ziaload (k := 155) rfl ar_309 ⟨by omega, by omega⟩ ?_
    rw [fr.2.1]
    refine zif_ne (k := 156) rfl rfl (fun c44_q => ?_) (fun c44_q => ?_)
    · skip
      refine zaload_n (k := 162) rfl rfl ?_
      refine zgI 8 (k := 163) rfl ob_289 fl_12_36 rfl fx_289_8 ?_
      rw [f8_q]
      refine zif_le (k := 164) rfl rfl (fun c45_q => ?_) (fun c45_q => ?_)
      · skip
        refine zaload_n (k := 167) rfl rfl ?_
        refine zldc2 (k := 168) (z := 6385252) rfl kc_12_297 rfl ?_
        refine zfV1 (k := 169) rfl c_M_isWord fm_M_isWord lk_12_331 rfl rfl ob_289 ⟨_, rfl, rfl⟩ (Nat.le_of_ble_eq_true rfl) (by decide) ⟨by decide, by decide⟩ ?_
        rw [isW_e (w := 6385252) (u := 19) hc.1.2.2.2.2.2.2 k4_q (by omega) rfl]
        obtain ⟨z340_q, e340_q⟩ : ∃ z : Int, z = (if isOw T p 19 then 1 else 0) := ⟨_, rfl⟩
        rw [← e340_q]
        have l340_q := ite_o e340_q
        clear e340_q
        refine zistore (k := 170) (ls' := [_, _, _, _, _]) rfl (Nat.le_of_ble_eq_true rfl) rfl ?_
        refine zaload_n (k := 171) rfl rfl ?_
        refine ziload (k := 172) rfl rfl ?_
        refine zif_eq (k := 173) rfl rfl (fun c46_q => ?_) (fun c46_q => ?_)
        · skip
          -- OR
          have w340_q := or_0 l340_q (by assumption)
          clear l340_q
          refine ziconst (k := 176) rfl (by decide) ?_
          refine zpV0 (k := 177) rfl (q_joins (l := 1) hi1_q hF hc (by omega) (by omega) hN (by omega)) fm_M_joins lk_12_341 rfl rfl ob_289 ⟨_, rfl, rfl⟩ (Nat.le_of_ble_eq_true rfl) (by decide) ⟨by decide, by decide⟩ (fun σ5 b5_q => ?_)
          obtain ⟨hc5_q, hm5_q, hn5_q, e43_q⟩ := b5_q
          replace hc := hc5_q
          refine zaload_n (k := 178) rfl rfl ?_
          refine ziload (k := 179) rfl rfl ?_
          refine zif_eq (k := 180) rfl rfl (fun c47_q => ?_) (fun c47_q => ?_)
          · skip
            refine zbipush (k := 183) rfl rfl ?_
            refine zfV0 (k := 184) rfl (c_M_holdsBack (m := σ5 289 42) rfl (by omega)) fm_M_holdsBack lk_12_335 rfl rfl ob_289 ⟨_, rfl, rfl⟩ (Nat.le_of_ble_eq_true rfl) (by decide) ⟨by decide, by decide⟩ ?_
            have hc6_q := cfM_h (m := σ5 289 42) (x := 42) hF hc5_q rfl
            refine zaload_n (k := 185) rfl rfl ?_
            refine zgF 35 (k := 186) rfl ob_289 fl_12_119 rfl fx_289_35 ?_
            refine ziload_n (k := 187) rfl rfl ?_
            refine ziconst (k := 188) rfl (by decide) ?_
            refine ziastore (k := 189) rfl ar_309 ⟨by omega, by omega⟩ (by omega) ?_
            have hc7_q := cfM_ph (v := 0) hF hc6_q
            refine zaload_n (k := 190) rfl rfl ?_
            refine zgF 36 (k := 191) rfl ob_289 fl_12_122 rfl fx_289_36 ?_
            refine ziload_n (k := 192) rfl rfl ?_
            refine ziconst (k := 193) rfl (by decide) ?_
            refine zbastore (k := 194) rfl ar_310 ⟨by omega, by omega⟩ (by omega) (by first | exact Or.inl rfl | exact Or.inr rfl | omega) ?_
            have hc8_q := cfM_b (v := 1) (b' := true) hF hc7_q rfl
            refine zaload_n (k := 195) rfl rfl ?_
            refine zpV0 (k := 196) rfl (c_ahd hc8_q (Or.inl hkw)) fm_M_ahead lk_12_256 rfl rfl ob_289 ⟨_, rfl, rfl⟩ (Nat.le_of_ble_eq_true rfl) (by decide) ⟨by decide, by decide⟩ (fun σ7 b7_q => ?_)
            obtain ⟨h7_q, e7⟩ := b7_q
            refine zaload_n (k := 197) rfl rfl ?_
            refine ziconst (k := 198) rfl (by decide) ?_
            refine zpZ 43 (k := 199) rfl ob_289 fl_12_144 ⟨_, rfl, rfl⟩ rfl (by first | exact Or.inl rfl | exact Or.inr rfl | omega) (by omega) rfl fx_289_43 ?_
            refine ziconst (k := 200) rfl (by decide) ?_
            refine zzreturn (k := 201) rfl rfl (by first | exact Or.inl rfl | exact Or.inr rfl | omega) rfl ?_
            rw [← hQ]
            refine ⟨rfl, _, rfl, ?_⟩
            unfold gonS
            rw [if_neg k4_q]
            rw [if_neg hnA]
            rw [if_neg hnC]
            rw [if_pos ⟨hT, hao⟩, if_neg (by assumption)]
            simp only [if_neg w340_q]
            exact ⟨(cfM_43 (v := 0) hF h7_q), rfl, by rw [zup_s]; rfl⟩
          · exfalso; omega
        · skip
          -- AND
          have w340_q := or_1 l340_q (by assumption)
          clear l340_q
          refine ziconst (k := 174) rfl (by decide) ?_
          refine zgoto (k := 175) rfl rfl ?_
          refine zpV0 (k := 177) rfl (q_joins (l := 2) hi1_q hF hc (by omega) (by omega) hN (by omega)) fm_M_joins lk_12_341 rfl rfl ob_289 ⟨_, rfl, rfl⟩ (Nat.le_of_ble_eq_true rfl) (by decide) ⟨by decide, by decide⟩ (fun σ5 b5_q => ?_)
          obtain ⟨hc5_q, hm5_q, hn5_q, e43_q⟩ := b5_q
          replace hc := hc5_q
          refine zaload_n (k := 178) rfl rfl ?_
          refine ziload (k := 179) rfl rfl ?_
          refine zif_eq (k := 180) rfl rfl (fun c48_q => ?_) (fun c48_q => ?_)
          · exfalso; omega
          refine zbipush (k := 181) rfl rfl ?_
          refine zgoto (k := 182) rfl rfl ?_
          refine zfV0 (k := 184) rfl (c_M_holdsBack (m := σ5 289 42) rfl (by omega)) fm_M_holdsBack lk_12_335 rfl rfl ob_289 ⟨_, rfl, rfl⟩ (Nat.le_of_ble_eq_true rfl) (by decide) ⟨by decide, by decide⟩ ?_
          have hc6_q := cfM_h (m := σ5 289 42) (x := 41) hF hc5_q rfl
          refine zaload_n (k := 185) rfl rfl ?_
          refine zgF 35 (k := 186) rfl ob_289 fl_12_119 rfl fx_289_35 ?_
          refine ziload_n (k := 187) rfl rfl ?_
          refine ziconst (k := 188) rfl (by decide) ?_
          refine ziastore (k := 189) rfl ar_309 ⟨by omega, by omega⟩ (by omega) ?_
          have hc7_q := cfM_ph (v := 0) hF hc6_q
          refine zaload_n (k := 190) rfl rfl ?_
          refine zgF 36 (k := 191) rfl ob_289 fl_12_122 rfl fx_289_36 ?_
          refine ziload_n (k := 192) rfl rfl ?_
          refine ziconst (k := 193) rfl (by decide) ?_
          refine zbastore (k := 194) rfl ar_310 ⟨by omega, by omega⟩ (by omega) (by first | exact Or.inl rfl | exact Or.inr rfl | omega) ?_
          have hc8_q := cfM_b (v := 1) (b' := true) hF hc7_q rfl
          refine zaload_n (k := 195) rfl rfl ?_
          refine zpV0 (k := 196) rfl (c_ahd hc8_q (Or.inl hkw)) fm_M_ahead lk_12_256 rfl rfl ob_289 ⟨_, rfl, rfl⟩ (Nat.le_of_ble_eq_true rfl) (by decide) ⟨by decide, by decide⟩ (fun σ7 b7_q => ?_)
          obtain ⟨h7_q, e7⟩ := b7_q
          refine zaload_n (k := 197) rfl rfl ?_
          refine ziconst (k := 198) rfl (by decide) ?_
          refine zpZ 43 (k := 199) rfl ob_289 fl_12_144 ⟨_, rfl, rfl⟩ rfl (by first | exact Or.inl rfl | exact Or.inr rfl | omega) (by omega) rfl fx_289_43 ?_
          refine ziconst (k := 200) rfl (by decide) ?_
          refine zzreturn (k := 201) rfl rfl (by first | exact Or.inl rfl | exact Or.inr rfl | omega) rfl ?_
          rw [← hQ]
          refine ⟨rfl, _, rfl, ?_⟩
          unfold gonS
          rw [if_neg k4_q]
          rw [if_neg hnA]
          rw [if_neg hnC]
          rw [if_pos ⟨hT, hao⟩, if_neg (by assumption)]
          simp only [if_pos w340_q]
          exact ⟨(cfM_43 (v := 0) hF h7_q), rfl, by rw [zup_s]; rfl⟩
      · exfalso; omega
    · skip
      refine zaload_n (k := 157) rfl rfl ?_
      refine ziconst (k := 158) rfl (by decide) ?_
      refine zaload_n (k := 159) rfl rfl ?_
      refine zgI 4 (k := 160) rfl ob_289 fl_12_23 rfl fx_289_4 ?_
      rw [sq]
      refine zpV0 (k := 161) rfl (q_blm (k := 1) (pl := (tQ T p)) hc.1 f8_q (by omega)) fm_M_blame lk_12_239 rfl rfl ob_289 ⟨_, rfl, rfl⟩ (Nat.le_of_ble_eq_true rfl) (by decide) ⟨by decide, by decide⟩ (fun σ2 b2_q => ?_)
      -- BLAMED
      obtain ⟨h2_q, f8_q, fx⟩ := b2_q
      refine zaload_n (k := 162) rfl rfl ?_
      refine zgI 8 (k := 163) rfl ob_289 fl_12_36 rfl fx_289_8 ?_
      rw [f8_q]
      refine zif_le (k := 164) rfl rfl (fun c49_q => ?_) (fun c49_q => ?_)
      · exfalso; omega
      refine ziconst (k := 165) rfl (by decide) ?_
      refine zzreturn (k := 166) rfl rfl (by first | exact Or.inl rfl | exact Or.inr rfl | omega) rfl ?_
      rw [← hQ]
      refine ⟨rfl, _, rfl, ?_⟩
      unfold gonS
      rw [if_neg k4_q]
      rw [if_neg hnA]
      rw [if_neg hnC]
      rw [if_pos ⟨hT, hao⟩, if_pos (by assumption)]
      exact h2_q
  have cut285_q : ∀ (t : Int), ((t = 1 ∧ isT kd) ∨ (t = 0 ∧ ¬ isT kd)) → (¬ (ph < 2 ∧ isA T p)) → (¬ (isT kd ∧ ph = 0 ∧ isC T p)) → zV Γ m_M_goesOn 3 0 0 Q (GM L) (0, 0) 285 [some (zR 289), some (zI (R.length : Int)), some (zI kd), some (zI t), none] [] σ := by
    intro t ht hnA hnC
    refine ziload_n (k := 142) rfl rfl ?_
    refine zif_eq (k := 143) rfl rfl (fun c50_q => ?_) (fun c50_q => ?_)
    · skip
      -- T0
      have hnT := or_0 ht (by assumption)
      exact cut400_q t ht hnA hnC (fun q => hnT q.1)
    · skip
      -- T1
      have hT := or_1 ht (by assumption)
      refine zaload_n (k := 144) rfl rfl ?_
      refine zldc2 (k := 145) (z := 6385252) rfl kc_12_297 rfl ?_
      refine zfV1 (k := 146) rfl c_M_isWord fm_M_isWord lk_12_331 rfl rfl ob_289 ⟨_, rfl, rfl⟩ (Nat.le_of_ble_eq_true rfl) (by decide) ⟨by decide, by decide⟩ ?_
      rw [isW_e (w := 6385252) (u := 19) hc.1.2.2.2.2.2.2 k4_q (by omega) rfl]
      obtain ⟨z293_q, e293_q⟩ : ∃ z : Int, z = (if isOw T p 19 then 1 else 0) := ⟨_, rfl⟩
      rw [← e293_q]
      have l293_q := ite_o e293_q
      clear e293_q
      refine zif_ne (k := 147) rfl rfl (fun c51_q => ?_) (fun c51_q => ?_)
      · skip
        have w293_q := or_1 l293_q (by assumption)
        clear l293_q
        first
        | exact cut309_q t hnA hnC hT (Or.inl w293_q)
        | exact cut309_q t hnA hnC hT (Or.inr w303_q)
      · skip
        have w293_q := or_0 l293_q (by assumption)
        clear l293_q
        refine zaload_n (k := 148) rfl rfl ?_
        refine zldc2 (k := 149) (z := 28530) rfl kc_12_295 rfl ?_
        refine zfV1 (k := 150) rfl c_M_isWord fm_M_isWord lk_12_331 rfl rfl ob_289 ⟨_, rfl, rfl⟩ (Nat.le_of_ble_eq_true rfl) (by decide) ⟨by decide, by decide⟩ ?_
        rw [isW_e (w := 28530) (u := 18) hc.1.2.2.2.2.2.2 k4_q (by omega) rfl]
        obtain ⟨z303_q, e303_q⟩ : ∃ z : Int, z = (if isOw T p 18 then 1 else 0) := ⟨_, rfl⟩
        rw [← e303_q]
        have l303_q := ite_o e303_q
        clear e303_q
        refine zif_eq (k := 151) rfl rfl (fun c52_q => ?_) (fun c52_q => ?_)
        · skip
          have w303_q := or_0 l303_q (by assumption)
          clear l303_q
          exact cut400_q t ht hnA hnC (fun q => q.2.elim w293_q w303_q)
        · skip
          have w303_q := or_1 l303_q (by assumption)
          clear l303_q
          first
          | exact cut309_q t hnA hnC hT (Or.inl w293_q)
          | exact cut309_q t hnA hnC hT (Or.inr w303_q)
  have cut228_q : ∀ (t : Int), (¬ (ph < 2 ∧ isA T p)) → (isT kd) → (ph = 0) → (isC T p) → zV Γ m_M_goesOn 3 0 0 Q (GM L) (0, 0) 228 [some (zR 289), some (zI (R.length : Int)), some (zI kd), some (zI t), none] [] σ := by
    intro t hnA hT hp0_q hC
    refine zaload_n (k := 112) rfl rfl ?_
    -- LCMP
    refine ziconst (k := 113) rfl (by decide) ?_
    refine zpV0 (k := 114) rfl (q_joins (l := 5) hi1_q hF hc (by omega) (by omega) hN (by omega)) fm_M_joins lk_12_341 rfl rfl ob_289 ⟨_, rfl, rfl⟩ (Nat.le_of_ble_eq_true rfl) (by decide) ⟨by decide, by decide⟩ (fun σ5 b5_q => ?_)
    obtain ⟨hc5_q, hm5_q, hn5_q, e43_q⟩ := b5_q
    replace hc := hc5_q
    refine zaload_n (k := 115) rfl rfl ?_
    refine zaload_n (k := 116) rfl rfl ?_
    refine zbipush (k := 117) rfl rfl ?_
    refine zfV1 (k := 118) rfl c_M_isSign fm_M_isSign lk_12_253 rfl rfl ob_289 ⟨_, rfl, rfl⟩ (Nat.le_of_ble_eq_true rfl) (by decide) ⟨by decide, by decide⟩ ?_
    rw [isS_e hc.1.2.2.2.2.2.2 k4_q]
    obtain ⟨z237_q, e237_q⟩ : ∃ z : Int, z = (if isSg T p 60 then 1 else 0) := ⟨_, rfl⟩
    rw [← e237_q]
    have l237_q := ite_o e237_q
    clear e237_q
    refine zif_eq (k := 119) rfl rfl (fun c53_q => ?_) (fun c53_q => ?_)
    · skip
      have w237_q := or_0 l237_q (by assumption)
      clear l237_q
      refine zaload_n (k := 122) rfl rfl ?_
      refine zbipush (k := 123) rfl rfl ?_
      refine zfV1 (k := 124) rfl c_M_isSign fm_M_isSign lk_12_253 rfl rfl ob_289 ⟨_, rfl, rfl⟩ (Nat.le_of_ble_eq_true rfl) (by decide) ⟨by decide, by decide⟩ ?_
      rw [isS_e hc.1.2.2.2.2.2.2 k4_q]
      obtain ⟨z251_q, e251_q⟩ : ∃ z : Int, z = (if isSg T p 62 then 1 else 0) := ⟨_, rfl⟩
      rw [← e251_q]
      have l251_q := ite_o e251_q
      clear e251_q
      refine zif_eq (k := 125) rfl rfl (fun c54_q => ?_) (fun c54_q => ?_)
      · skip
        have w251_q := or_0 l251_q (by assumption)
        clear l251_q
        refine zbipush (k := 128) rfl rfl ?_
        refine zfV0 (k := 129) rfl (c_M_holdsBack (m := σ5 289 42) rfl (by omega)) fm_M_holdsBack lk_12_335 rfl rfl ob_289 ⟨_, rfl, rfl⟩ (Nat.le_of_ble_eq_true rfl) (by decide) ⟨by decide, by decide⟩ ?_
        have hc6_q := cfM_h (m := σ5 289 42) (x := 40) hF hc5_q rfl
        refine zaload_n (k := 130) rfl rfl ?_
        refine zgF 35 (k := 131) rfl ob_289 fl_12_119 rfl fx_289_35 ?_
        refine ziload_n (k := 132) rfl rfl ?_
        refine ziconst (k := 133) rfl (by decide) ?_
        refine ziastore (k := 134) rfl ar_309 ⟨by omega, by omega⟩ (by omega) ?_
        have hc7_q := cfM_ph (v := 1) hF hc6_q
        refine zaload_n (k := 135) rfl rfl ?_
        refine zpV0 (k := 136) rfl (c_ahd hc7_q (Or.inr (Or.inr hC.1))) fm_M_ahead lk_12_256 rfl rfl ob_289 ⟨_, rfl, rfl⟩ (Nat.le_of_ble_eq_true rfl) (by decide) ⟨by decide, by decide⟩ (fun σ7 b7_q => ?_)
        obtain ⟨h7_q, e7⟩ := b7_q
        refine zaload_n (k := 137) rfl rfl ?_
        refine ziconst (k := 138) rfl (by decide) ?_
        refine zpZ 43 (k := 139) rfl ob_289 fl_12_144 ⟨_, rfl, rfl⟩ rfl (by first | exact Or.inl rfl | exact Or.inr rfl | omega) (by omega) rfl fx_289_43 ?_
        refine ziconst (k := 140) rfl (by decide) ?_
        refine zzreturn (k := 141) rfl rfl (by first | exact Or.inl rfl | exact Or.inr rfl | omega) rfl ?_
        have hv : cmO (T (tQ T p)) = 40 := by
          rcases hC.2 with u | u | u
          · exact absurd ⟨hC.1, u⟩ w237_q
          · exact absurd ⟨hC.1, u⟩ w251_q
          · rw [u]; rfl
        rw [← hQ]
        refine ⟨rfl, _, rfl, ?_⟩
        unfold gonS
        rw [if_neg k4_q]
        rw [if_neg hnA]
        rw [if_pos ⟨hT, hp0_q, hC⟩, hv]
        exact ⟨(cfM_43 (v := 0) hF h7_q), rfl, by rw [zup_s]; rfl⟩
      · skip
        have w251_q := or_1 l251_q (by assumption)
        clear l251_q
        refine zbipush (k := 126) rfl rfl ?_
        -- C39
        refine zgoto (k := 127) rfl rfl ?_
        refine zfV0 (k := 129) rfl (c_M_holdsBack (m := σ5 289 42) rfl (by omega)) fm_M_holdsBack lk_12_335 rfl rfl ob_289 ⟨_, rfl, rfl⟩ (Nat.le_of_ble_eq_true rfl) (by decide) ⟨by decide, by decide⟩ ?_
        have hc6_q := cfM_h (m := σ5 289 42) (x := 39) hF hc5_q rfl
        refine zaload_n (k := 130) rfl rfl ?_
        refine zgF 35 (k := 131) rfl ob_289 fl_12_119 rfl fx_289_35 ?_
        refine ziload_n (k := 132) rfl rfl ?_
        refine ziconst (k := 133) rfl (by decide) ?_
        refine ziastore (k := 134) rfl ar_309 ⟨by omega, by omega⟩ (by omega) ?_
        have hc7_q := cfM_ph (v := 1) hF hc6_q
        refine zaload_n (k := 135) rfl rfl ?_
        refine zpV0 (k := 136) rfl (c_ahd hc7_q (Or.inr (Or.inr hC.1))) fm_M_ahead lk_12_256 rfl rfl ob_289 ⟨_, rfl, rfl⟩ (Nat.le_of_ble_eq_true rfl) (by decide) ⟨by decide, by decide⟩ (fun σ7 b7_q => ?_)
        obtain ⟨h7_q, e7⟩ := b7_q
        refine zaload_n (k := 137) rfl rfl ?_
        refine ziconst (k := 138) rfl (by decide) ?_
        refine zpZ 43 (k := 139) rfl ob_289 fl_12_144 ⟨_, rfl, rfl⟩ rfl (by first | exact Or.inl rfl | exact Or.inr rfl | omega) (by omega) rfl fx_289_43 ?_
        refine ziconst (k := 140) rfl (by decide) ?_
        refine zzreturn (k := 141) rfl rfl (by first | exact Or.inl rfl | exact Or.inr rfl | omega) rfl ?_
        have hv : cmO (T (tQ T p)) = 39 := by rw [w251_q.2]; rfl
        rw [← hQ]
        refine ⟨rfl, _, rfl, ?_⟩
        unfold gonS
        rw [if_neg k4_q]
        rw [if_neg hnA]
        rw [if_pos ⟨hT, hp0_q, hC⟩, hv]
        exact ⟨(cfM_43 (v := 0) hF h7_q), rfl, by rw [zup_s]; rfl⟩
    · skip
      have w237_q := or_1 l237_q (by assumption)
      clear l237_q
      refine zbipush (k := 120) rfl rfl ?_
      -- C38
      refine zgoto (k := 121) rfl rfl ?_
      refine zfV0 (k := 129) rfl (c_M_holdsBack (m := σ5 289 42) rfl (by omega)) fm_M_holdsBack lk_12_335 rfl rfl ob_289 ⟨_, rfl, rfl⟩ (Nat.le_of_ble_eq_true rfl) (by decide) ⟨by decide, by decide⟩ ?_
      have hc6_q := cfM_h (m := σ5 289 42) (x := 38) hF hc5_q rfl
      refine zaload_n (k := 130) rfl rfl ?_
      refine zgF 35 (k := 131) rfl ob_289 fl_12_119 rfl fx_289_35 ?_
      refine ziload_n (k := 132) rfl rfl ?_
      refine ziconst (k := 133) rfl (by decide) ?_
      refine ziastore (k := 134) rfl ar_309 ⟨by omega, by omega⟩ (by omega) ?_
      have hc7_q := cfM_ph (v := 1) hF hc6_q
      refine zaload_n (k := 135) rfl rfl ?_
      refine zpV0 (k := 136) rfl (c_ahd hc7_q (Or.inr (Or.inr hC.1))) fm_M_ahead lk_12_256 rfl rfl ob_289 ⟨_, rfl, rfl⟩ (Nat.le_of_ble_eq_true rfl) (by decide) ⟨by decide, by decide⟩ (fun σ7 b7_q => ?_)
      obtain ⟨h7_q, e7⟩ := b7_q
      refine zaload_n (k := 137) rfl rfl ?_
      refine ziconst (k := 138) rfl (by decide) ?_
      refine zpZ 43 (k := 139) rfl ob_289 fl_12_144 ⟨_, rfl, rfl⟩ rfl (by first | exact Or.inl rfl | exact Or.inr rfl | omega) (by omega) rfl fx_289_43 ?_
      refine ziconst (k := 140) rfl (by decide) ?_
      refine zzreturn (k := 141) rfl rfl (by first | exact Or.inl rfl | exact Or.inr rfl | omega) rfl ?_
      have hv : cmO (T (tQ T p)) = 38 := by rw [w237_q.2]; rfl
      rw [← hQ]
      refine ⟨rfl, _, rfl, ?_⟩
      unfold gonS
      rw [if_neg k4_q]
      rw [if_neg hnA]
      rw [if_pos ⟨hT, hp0_q, hC⟩, hv]
      exact ⟨(cfM_43 (v := 0) hF h7_q), rfl, by rw [zup_s]; rfl⟩
  have cut188_q : ∀ (t : Int), ((t = 1 ∧ isT kd) ∨ (t = 0 ∧ ¬ isT kd)) → (¬ (ph < 2 ∧ isA T p)) → zV Γ m_M_goesOn 3 0 0 Q (GM L) (0, 0) 188 [some (zR 289), some (zI (R.length : Int)), some (zI kd), some (zI t), none] [] σ := by
    intro t ht hnA
    refine ziload_n (k := 93) rfl rfl ?_
    refine zif_eq (k := 94) rfl rfl (fun c55_q => ?_) (fun c55_q => ?_)
    · skip
      -- T0
      have hnT := or_0 ht (by assumption)
      exact cut285_q t ht hnA (fun q => hnT q.1)
    · skip
      -- T1
      have hT := or_1 ht (by assumption)
      refine zaload_n (k := 95) rfl rfl ?_
      refine zgF 35 (k := 96) rfl ob_289 fl_12_119 rfl fx_289_35 ?_
      refine ziload_n (k := 97) rfl rfl ?_
      refine ziaload (k := 98) rfl ar_309 ⟨by omega, by omega⟩ ?_
      rw [fr.2.1]
      refine zif_ne (k := 99) rfl rfl (fun c56_q => ?_) (fun c56_q => ?_)
      · skip
        exact cut285_q t ht hnA (fun q => absurd q.2.1 (by assumption))
      · skip
        -- PH0
        refine zaload_n (k := 100) rfl rfl ?_
        refine zbipush (k := 101) rfl rfl ?_
        refine zfV1 (k := 102) rfl c_M_isSign fm_M_isSign lk_12_253 rfl rfl ob_289 ⟨_, rfl, rfl⟩ (Nat.le_of_ble_eq_true rfl) (by decide) ⟨by decide, by decide⟩ ?_
        rw [isS_e hc.1.2.2.2.2.2.2 k4_q]
        obtain ⟨z204_q, e204_q⟩ : ∃ z : Int, z = (if isSg T p 60 then 1 else 0) := ⟨_, rfl⟩
        rw [← e204_q]
        have l204_q := ite_o e204_q
        clear e204_q
        refine zif_ne (k := 103) rfl rfl (fun c57_q => ?_) (fun c57_q => ?_)
        · skip
          have w204_q := or_1 l204_q (by assumption)
          clear l204_q
          first
          | exact cut228_q t hnA hT (by assumption) ⟨w204_q.1, Or.inl w204_q.2⟩
          | exact cut228_q t hnA hT (by assumption) ⟨w213_q.1, Or.inr (Or.inl w213_q.2)⟩
          | exact cut228_q t hnA hT (by assumption) ⟨w222_q.1, Or.inr (Or.inr w222_q.2)⟩
        · skip
          have w204_q := or_0 l204_q (by assumption)
          clear l204_q
          refine zaload_n (k := 104) rfl rfl ?_
          refine zbipush (k := 105) rfl rfl ?_
          refine zfV1 (k := 106) rfl c_M_isSign fm_M_isSign lk_12_253 rfl rfl ob_289 ⟨_, rfl, rfl⟩ (Nat.le_of_ble_eq_true rfl) (by decide) ⟨by decide, by decide⟩ ?_
          rw [isS_e hc.1.2.2.2.2.2.2 k4_q]
          obtain ⟨z213_q, e213_q⟩ : ∃ z : Int, z = (if isSg T p 62 then 1 else 0) := ⟨_, rfl⟩
          rw [← e213_q]
          have l213_q := ite_o e213_q
          clear e213_q
          refine zif_ne (k := 107) rfl rfl (fun c58_q => ?_) (fun c58_q => ?_)
          · skip
            have w213_q := or_1 l213_q (by assumption)
            clear l213_q
            first
            | exact cut228_q t hnA hT (by assumption) ⟨w204_q.1, Or.inl w204_q.2⟩
            | exact cut228_q t hnA hT (by assumption) ⟨w213_q.1, Or.inr (Or.inl w213_q.2)⟩
            | exact cut228_q t hnA hT (by assumption) ⟨w222_q.1, Or.inr (Or.inr w222_q.2)⟩
          · skip
            have w213_q := or_0 l213_q (by assumption)
            clear l213_q
            refine zaload_n (k := 108) rfl rfl ?_
            refine zbipush (k := 109) rfl rfl ?_
            refine zfV1 (k := 110) rfl c_M_isSign fm_M_isSign lk_12_253 rfl rfl ob_289 ⟨_, rfl, rfl⟩ (Nat.le_of_ble_eq_true rfl) (by decide) ⟨by decide, by decide⟩ ?_
            rw [isS_e hc.1.2.2.2.2.2.2 k4_q]
            obtain ⟨z222_q, e222_q⟩ : ∃ z : Int, z = (if isSg T p 61 then 1 else 0) := ⟨_, rfl⟩
            rw [← e222_q]
            have l222_q := ite_o e222_q
            clear e222_q
            refine zif_eq (k := 111) rfl rfl (fun c59_q => ?_) (fun c59_q => ?_)
            · skip
              have w222_q := or_0 l222_q (by assumption)
              clear l222_q
              exact cut285_q t ht hnA (fun q => by rcases q.2.2.2 with u | u | u; exact w204_q ⟨q.2.2.1, u⟩; exact w213_q ⟨q.2.2.1, u⟩; exact w222_q ⟨q.2.2.1, u⟩)
            · skip
              have w222_q := or_1 l222_q (by assumption)
              clear l222_q
              first
              | exact cut228_q t hnA hT (by assumption) ⟨w204_q.1, Or.inl w204_q.2⟩
              | exact cut228_q t hnA hT (by assumption) ⟨w213_q.1, Or.inr (Or.inl w213_q.2)⟩
              | exact cut228_q t hnA hT (by assumption) ⟨w222_q.1, Or.inr (Or.inr w222_q.2)⟩
  have cut87_q : ∀ (t : Int), (ph < 2) → (isA T p) → zV Γ m_M_goesOn 3 0 0 Q (GM L) (0, 0) 87 [some (zR 289), some (zI (R.length : Int)), some (zI kd), some (zI t), none] [] σ := by
    intro t hph hA
    refine zaload_n (k := 46) rfl rfl ?_
    -- LARI
    refine zaload_n (k := 47) rfl rfl ?_
    refine zbipush (k := 48) rfl rfl ?_
    refine zfV1 (k := 49) rfl c_M_isSign fm_M_isSign lk_12_253 rfl rfl ob_289 ⟨_, rfl, rfl⟩ (Nat.le_of_ble_eq_true rfl) (by decide) ⟨by decide, by decide⟩ ?_
    rw [isS_e hc.1.2.2.2.2.2.2 k4_q]
    obtain ⟨z91_q, e91_q⟩ : ∃ z : Int, z = (if isSg T p 43 then 1 else 0) := ⟨_, rfl⟩
    rw [← e91_q]
    have l91_q := ite_o e91_q
    clear e91_q
    refine zif_ne (k := 50) rfl rfl (fun c60_q => ?_) (fun c60_q => ?_)
    · skip
      have w91_q := or_1 l91_q (by assumption)
      clear l91_q
      -- S43
      refine ziconst (k := 55) rfl (by decide) ?_
      refine zgoto (k := 56) rfl rfl ?_
      refine zpV0 (k := 58) rfl (q_joins (l := 5) hi1_q hF hc (by omega) (by omega) hN (by omega)) fm_M_joins lk_12_341 rfl rfl ob_289 ⟨_, rfl, rfl⟩ (Nat.le_of_ble_eq_true rfl) (by decide) ⟨by decide, by decide⟩ (fun σ5 b5_q => ?_)
      obtain ⟨hc5_q, hm5_q, hn5_q, e43_q⟩ := b5_q
      replace hc := hc5_q
      refine zaload_n (k := 59) rfl rfl ?_
      refine zaload_n (k := 60) rfl rfl ?_
      refine zbipush (k := 61) rfl rfl ?_
      refine zfV1 (k := 62) rfl c_M_isSign fm_M_isSign lk_12_253 rfl rfl ob_289 ⟨_, rfl, rfl⟩ (Nat.le_of_ble_eq_true rfl) (by decide) ⟨by decide, by decide⟩ ?_
      rw [isS_e hc.1.2.2.2.2.2.2 k4_q]
      obtain ⟨z119_q, e119_q⟩ : ∃ z : Int, z = (if isSg T p 43 then 1 else 0) := ⟨_, rfl⟩
      rw [← e119_q]
      have l119_q := ite_o e119_q
      clear e119_q
      refine zif_eq (k := 63) rfl rfl (fun c61_q => ?_) (fun c61_q => ?_)
      · exact absurd w91_q (or_0 l119_q (by assumption))
      refine zbipush (k := 64) rfl rfl ?_
      refine zgoto (k := 65) rfl rfl ?_
      refine zfV0 (k := 85) rfl (c_M_holdsBack (m := σ5 289 42) rfl (by omega)) fm_M_holdsBack lk_12_335 rfl rfl ob_289 ⟨_, rfl, rfl⟩ (Nat.le_of_ble_eq_true rfl) (by decide) ⟨by decide, by decide⟩ ?_
      have hc6_q := cfM_h (m := σ5 289 42) (x := 31) hF hc5_q rfl
      refine zaload_n (k := 86) rfl rfl ?_
      refine zpV0 (k := 87) rfl (c_ahd hc6_q (Or.inr (Or.inr hA.1))) fm_M_ahead lk_12_256 rfl rfl ob_289 ⟨_, rfl, rfl⟩ (Nat.le_of_ble_eq_true rfl) (by decide) ⟨by decide, by decide⟩ (fun σ7 b7_q => ?_)
      obtain ⟨h7_q, e7⟩ := b7_q
      refine zaload_n (k := 88) rfl rfl ?_
      refine ziconst (k := 89) rfl (by decide) ?_
      refine zpZ 43 (k := 90) rfl ob_289 fl_12_144 ⟨_, rfl, rfl⟩ rfl (by first | exact Or.inl rfl | exact Or.inr rfl | omega) (by omega) rfl fx_289_43 ?_
      refine ziconst (k := 91) rfl (by decide) ?_
      refine zzreturn (k := 92) rfl rfl (by first | exact Or.inl rfl | exact Or.inr rfl | omega) rfl ?_
      have hv := w91_q.2
      rw [← hQ]
      refine ⟨rfl, _, rfl, ?_⟩
      unfold gonS
      rw [if_neg k4_q]
      rw [if_pos ⟨hph, hA⟩, hv, show (if (43 : Int) = 43 ∨ (43 : Int) = 45 then (5 : Int) else 6) = 5 from by decide, show arO 43 = 31 from by decide]
      exact ⟨(cfM_43 (v := 0) hF h7_q), rfl, by rw [zup_s]; rfl⟩
    · skip
      have w91_q := or_0 l91_q (by assumption)
      clear l91_q
      refine zaload_n (k := 51) rfl rfl ?_
      refine zbipush (k := 52) rfl rfl ?_
      refine zfV1 (k := 53) rfl c_M_isSign fm_M_isSign lk_12_253 rfl rfl ob_289 ⟨_, rfl, rfl⟩ (Nat.le_of_ble_eq_true rfl) (by decide) ⟨by decide, by decide⟩ ?_
      rw [isS_e hc.1.2.2.2.2.2.2 k4_q]
      obtain ⟨z100_q, e100_q⟩ : ∃ z : Int, z = (if isSg T p 45 then 1 else 0) := ⟨_, rfl⟩
      rw [← e100_q]
      have l100_q := ite_o e100_q
      clear e100_q
      refine zif_eq (k := 54) rfl rfl (fun c62_q => ?_) (fun c62_q => ?_)
      · skip
        have w100_q := or_0 l100_q (by assumption)
        clear l100_q
        -- SMUL
        refine zbipush (k := 57) rfl rfl ?_
        refine zpV0 (k := 58) rfl (q_joins (l := 6) hi1_q hF hc (by omega) (by omega) hN (by omega)) fm_M_joins lk_12_341 rfl rfl ob_289 ⟨_, rfl, rfl⟩ (Nat.le_of_ble_eq_true rfl) (by decide) ⟨by decide, by decide⟩ (fun σ5 b5_q => ?_)
        obtain ⟨hc5_q, hm5_q, hn5_q, e43_q⟩ := b5_q
        replace hc := hc5_q
        refine zaload_n (k := 59) rfl rfl ?_
        refine zaload_n (k := 60) rfl rfl ?_
        refine zbipush (k := 61) rfl rfl ?_
        refine zfV1 (k := 62) rfl c_M_isSign fm_M_isSign lk_12_253 rfl rfl ob_289 ⟨_, rfl, rfl⟩ (Nat.le_of_ble_eq_true rfl) (by decide) ⟨by decide, by decide⟩ ?_
        rw [isS_e hc.1.2.2.2.2.2.2 k4_q]
        obtain ⟨z119_q, e119_q⟩ : ∃ z : Int, z = (if isSg T p 43 then 1 else 0) := ⟨_, rfl⟩
        rw [← e119_q]
        have l119_q := ite_o e119_q
        clear e119_q
        refine zif_eq (k := 63) rfl rfl (fun c63_q => ?_) (fun c63_q => ?_)
        · skip
          have w119_q := or_0 l119_q (by assumption)
          clear l119_q
          refine zaload_n (k := 66) rfl rfl ?_
          refine zbipush (k := 67) rfl rfl ?_
          refine zfV1 (k := 68) rfl c_M_isSign fm_M_isSign lk_12_253 rfl rfl ob_289 ⟨_, rfl, rfl⟩ (Nat.le_of_ble_eq_true rfl) (by decide) ⟨by decide, by decide⟩ ?_
          rw [isS_e hc.1.2.2.2.2.2.2 k4_q]
          obtain ⟨z133_q, e133_q⟩ : ∃ z : Int, z = (if isSg T p 45 then 1 else 0) := ⟨_, rfl⟩
          rw [← e133_q]
          have l133_q := ite_o e133_q
          clear e133_q
          refine zif_eq (k := 69) rfl rfl (fun c64_q => ?_) (fun c64_q => ?_)
          · skip
            have w133_q := or_0 l133_q (by assumption)
            clear l133_q
            refine zaload_n (k := 72) rfl rfl ?_
            refine zbipush (k := 73) rfl rfl ?_
            refine zfV1 (k := 74) rfl c_M_isSign fm_M_isSign lk_12_253 rfl rfl ob_289 ⟨_, rfl, rfl⟩ (Nat.le_of_ble_eq_true rfl) (by decide) ⟨by decide, by decide⟩ ?_
            rw [isS_e hc.1.2.2.2.2.2.2 k4_q]
            obtain ⟨z147_q, e147_q⟩ : ∃ z : Int, z = (if isSg T p 42 then 1 else 0) := ⟨_, rfl⟩
            rw [← e147_q]
            have l147_q := ite_o e147_q
            clear e147_q
            refine zif_eq (k := 75) rfl rfl (fun c65_q => ?_) (fun c65_q => ?_)
            · skip
              have w147_q := or_0 l147_q (by assumption)
              clear l147_q
              refine zaload_n (k := 78) rfl rfl ?_
              refine zbipush (k := 79) rfl rfl ?_
              refine zfV1 (k := 80) rfl c_M_isSign fm_M_isSign lk_12_253 rfl rfl ob_289 ⟨_, rfl, rfl⟩ (Nat.le_of_ble_eq_true rfl) (by decide) ⟨by decide, by decide⟩ ?_
              rw [isS_e hc.1.2.2.2.2.2.2 k4_q]
              obtain ⟨z161_q, e161_q⟩ : ∃ z : Int, z = (if isSg T p 47 then 1 else 0) := ⟨_, rfl⟩
              rw [← e161_q]
              have l161_q := ite_o e161_q
              clear e161_q
              refine zif_eq (k := 81) rfl rfl (fun c66_q => ?_) (fun c66_q => ?_)
              · skip
                have w161_q := or_0 l161_q (by assumption)
                clear l161_q
                refine zbipush (k := 84) rfl rfl ?_
                refine zfV0 (k := 85) rfl (c_M_holdsBack (m := σ5 289 42) rfl (by omega)) fm_M_holdsBack lk_12_335 rfl rfl ob_289 ⟨_, rfl, rfl⟩ (Nat.le_of_ble_eq_true rfl) (by decide) ⟨by decide, by decide⟩ ?_
                have hc6_q := cfM_h (m := σ5 289 42) (x := 35) hF hc5_q rfl
                refine zaload_n (k := 86) rfl rfl ?_
                refine zpV0 (k := 87) rfl (c_ahd hc6_q (Or.inr (Or.inr hA.1))) fm_M_ahead lk_12_256 rfl rfl ob_289 ⟨_, rfl, rfl⟩ (Nat.le_of_ble_eq_true rfl) (by decide) ⟨by decide, by decide⟩ (fun σ7 b7_q => ?_)
                obtain ⟨h7_q, e7⟩ := b7_q
                refine zaload_n (k := 88) rfl rfl ?_
                refine ziconst (k := 89) rfl (by decide) ?_
                refine zpZ 43 (k := 90) rfl ob_289 fl_12_144 ⟨_, rfl, rfl⟩ rfl (by first | exact Or.inl rfl | exact Or.inr rfl | omega) (by omega) rfl fx_289_43 ?_
                refine ziconst (k := 91) rfl (by decide) ?_
                refine zzreturn (k := 92) rfl rfl (by first | exact Or.inl rfl | exact Or.inr rfl | omega) rfl ?_
                have hv : T (tQ T p) = 37 := by
                  rcases hA.2 with u | u | u | u | u
                  · exact absurd ⟨hA.1, u⟩ w91_q
                  · exact absurd ⟨hA.1, u⟩ w100_q
                  · exact absurd ⟨hA.1, u⟩ w147_q
                  · exact absurd ⟨hA.1, u⟩ w161_q
                  · exact u
                rw [← hQ]
                refine ⟨rfl, _, rfl, ?_⟩
                unfold gonS
                rw [if_neg k4_q]
                rw [if_pos ⟨hph, hA⟩, hv, show (if (37 : Int) = 43 ∨ (37 : Int) = 45 then (5 : Int) else 6) = 6 from by decide, show arO 37 = 35 from by decide]
                exact ⟨(cfM_43 (v := 0) hF h7_q), rfl, by rw [zup_s]; rfl⟩
              · skip
                have w161_q := or_1 l161_q (by assumption)
                clear l161_q
                -- A34
                refine zbipush (k := 82) rfl rfl ?_
                refine zgoto (k := 83) rfl rfl ?_
                refine zfV0 (k := 85) rfl (c_M_holdsBack (m := σ5 289 42) rfl (by omega)) fm_M_holdsBack lk_12_335 rfl rfl ob_289 ⟨_, rfl, rfl⟩ (Nat.le_of_ble_eq_true rfl) (by decide) ⟨by decide, by decide⟩ ?_
                have hc6_q := cfM_h (m := σ5 289 42) (x := 34) hF hc5_q rfl
                refine zaload_n (k := 86) rfl rfl ?_
                refine zpV0 (k := 87) rfl (c_ahd hc6_q (Or.inr (Or.inr hA.1))) fm_M_ahead lk_12_256 rfl rfl ob_289 ⟨_, rfl, rfl⟩ (Nat.le_of_ble_eq_true rfl) (by decide) ⟨by decide, by decide⟩ (fun σ7 b7_q => ?_)
                obtain ⟨h7_q, e7⟩ := b7_q
                refine zaload_n (k := 88) rfl rfl ?_
                refine ziconst (k := 89) rfl (by decide) ?_
                refine zpZ 43 (k := 90) rfl ob_289 fl_12_144 ⟨_, rfl, rfl⟩ rfl (by first | exact Or.inl rfl | exact Or.inr rfl | omega) (by omega) rfl fx_289_43 ?_
                refine ziconst (k := 91) rfl (by decide) ?_
                refine zzreturn (k := 92) rfl rfl (by first | exact Or.inl rfl | exact Or.inr rfl | omega) rfl ?_
                have hv := w161_q.2
                rw [← hQ]
                refine ⟨rfl, _, rfl, ?_⟩
                unfold gonS
                rw [if_neg k4_q]
                rw [if_pos ⟨hph, hA⟩, hv, show (if (47 : Int) = 43 ∨ (47 : Int) = 45 then (5 : Int) else 6) = 6 from by decide, show arO 47 = 34 from by decide]
                exact ⟨(cfM_43 (v := 0) hF h7_q), rfl, by rw [zup_s]; rfl⟩
            · skip
              have w147_q := or_1 l147_q (by assumption)
              clear l147_q
              -- A33
              refine zbipush (k := 76) rfl rfl ?_
              refine zgoto (k := 77) rfl rfl ?_
              refine zfV0 (k := 85) rfl (c_M_holdsBack (m := σ5 289 42) rfl (by omega)) fm_M_holdsBack lk_12_335 rfl rfl ob_289 ⟨_, rfl, rfl⟩ (Nat.le_of_ble_eq_true rfl) (by decide) ⟨by decide, by decide⟩ ?_
              have hc6_q := cfM_h (m := σ5 289 42) (x := 33) hF hc5_q rfl
              refine zaload_n (k := 86) rfl rfl ?_
              refine zpV0 (k := 87) rfl (c_ahd hc6_q (Or.inr (Or.inr hA.1))) fm_M_ahead lk_12_256 rfl rfl ob_289 ⟨_, rfl, rfl⟩ (Nat.le_of_ble_eq_true rfl) (by decide) ⟨by decide, by decide⟩ (fun σ7 b7_q => ?_)
              obtain ⟨h7_q, e7⟩ := b7_q
              refine zaload_n (k := 88) rfl rfl ?_
              refine ziconst (k := 89) rfl (by decide) ?_
              refine zpZ 43 (k := 90) rfl ob_289 fl_12_144 ⟨_, rfl, rfl⟩ rfl (by first | exact Or.inl rfl | exact Or.inr rfl | omega) (by omega) rfl fx_289_43 ?_
              refine ziconst (k := 91) rfl (by decide) ?_
              refine zzreturn (k := 92) rfl rfl (by first | exact Or.inl rfl | exact Or.inr rfl | omega) rfl ?_
              have hv := w147_q.2
              rw [← hQ]
              refine ⟨rfl, _, rfl, ?_⟩
              unfold gonS
              rw [if_neg k4_q]
              rw [if_pos ⟨hph, hA⟩, hv, show (if (42 : Int) = 43 ∨ (42 : Int) = 45 then (5 : Int) else 6) = 6 from by decide, show arO 42 = 33 from by decide]
              exact ⟨(cfM_43 (v := 0) hF h7_q), rfl, by rw [zup_s]; rfl⟩
          · exact absurd (or_1 l133_q (by assumption)) w100_q
        · exact absurd (or_1 l119_q (by assumption)) w91_q
      · skip
        have w100_q := or_1 l100_q (by assumption)
        clear l100_q
        -- S45
        refine ziconst (k := 55) rfl (by decide) ?_
        refine zgoto (k := 56) rfl rfl ?_
        refine zpV0 (k := 58) rfl (q_joins (l := 5) hi1_q hF hc (by omega) (by omega) hN (by omega)) fm_M_joins lk_12_341 rfl rfl ob_289 ⟨_, rfl, rfl⟩ (Nat.le_of_ble_eq_true rfl) (by decide) ⟨by decide, by decide⟩ (fun σ5 b5_q => ?_)
        obtain ⟨hc5_q, hm5_q, hn5_q, e43_q⟩ := b5_q
        replace hc := hc5_q
        refine zaload_n (k := 59) rfl rfl ?_
        refine zaload_n (k := 60) rfl rfl ?_
        refine zbipush (k := 61) rfl rfl ?_
        refine zfV1 (k := 62) rfl c_M_isSign fm_M_isSign lk_12_253 rfl rfl ob_289 ⟨_, rfl, rfl⟩ (Nat.le_of_ble_eq_true rfl) (by decide) ⟨by decide, by decide⟩ ?_
        rw [isS_e hc.1.2.2.2.2.2.2 k4_q]
        obtain ⟨z119_q, e119_q⟩ : ∃ z : Int, z = (if isSg T p 43 then 1 else 0) := ⟨_, rfl⟩
        rw [← e119_q]
        have l119_q := ite_o e119_q
        clear e119_q
        refine zif_eq (k := 63) rfl rfl (fun c67_q => ?_) (fun c67_q => ?_)
        · skip
          have w119_q := or_0 l119_q (by assumption)
          clear l119_q
          refine zaload_n (k := 66) rfl rfl ?_
          refine zbipush (k := 67) rfl rfl ?_
          refine zfV1 (k := 68) rfl c_M_isSign fm_M_isSign lk_12_253 rfl rfl ob_289 ⟨_, rfl, rfl⟩ (Nat.le_of_ble_eq_true rfl) (by decide) ⟨by decide, by decide⟩ ?_
          rw [isS_e hc.1.2.2.2.2.2.2 k4_q]
          obtain ⟨z133_q, e133_q⟩ : ∃ z : Int, z = (if isSg T p 45 then 1 else 0) := ⟨_, rfl⟩
          rw [← e133_q]
          have l133_q := ite_o e133_q
          clear e133_q
          refine zif_eq (k := 69) rfl rfl (fun c68_q => ?_) (fun c68_q => ?_)
          · exact absurd w100_q (or_0 l133_q (by assumption))
          refine zbipush (k := 70) rfl rfl ?_
          refine zgoto (k := 71) rfl rfl ?_
          refine zfV0 (k := 85) rfl (c_M_holdsBack (m := σ5 289 42) rfl (by omega)) fm_M_holdsBack lk_12_335 rfl rfl ob_289 ⟨_, rfl, rfl⟩ (Nat.le_of_ble_eq_true rfl) (by decide) ⟨by decide, by decide⟩ ?_
          have hc6_q := cfM_h (m := σ5 289 42) (x := 32) hF hc5_q rfl
          refine zaload_n (k := 86) rfl rfl ?_
          refine zpV0 (k := 87) rfl (c_ahd hc6_q (Or.inr (Or.inr hA.1))) fm_M_ahead lk_12_256 rfl rfl ob_289 ⟨_, rfl, rfl⟩ (Nat.le_of_ble_eq_true rfl) (by decide) ⟨by decide, by decide⟩ (fun σ7 b7_q => ?_)
          obtain ⟨h7_q, e7⟩ := b7_q
          refine zaload_n (k := 88) rfl rfl ?_
          refine ziconst (k := 89) rfl (by decide) ?_
          refine zpZ 43 (k := 90) rfl ob_289 fl_12_144 ⟨_, rfl, rfl⟩ rfl (by first | exact Or.inl rfl | exact Or.inr rfl | omega) (by omega) rfl fx_289_43 ?_
          refine ziconst (k := 91) rfl (by decide) ?_
          refine zzreturn (k := 92) rfl rfl (by first | exact Or.inl rfl | exact Or.inr rfl | omega) rfl ?_
          have hv := w100_q.2
          rw [← hQ]
          refine ⟨rfl, _, rfl, ?_⟩
          unfold gonS
          rw [if_neg k4_q]
          rw [if_pos ⟨hph, hA⟩, hv, show (if (45 : Int) = 43 ∨ (45 : Int) = 45 then (5 : Int) else 6) = 5 from by decide, show arO 45 = 32 from by decide]
          exact ⟨(cfM_43 (v := 0) hF h7_q), rfl, by rw [zup_s]; rfl⟩
        · exact absurd (or_1 l119_q (by assumption)) w91_q
  refine zaload_n (k := 0) rfl rfl ?_
  refine zpV0 (k := 1) rfl (q_lex hc.1) fm_M_lex lk_12_250 rfl rfl ob_289 ⟨_, rfl, rfl⟩ (Nat.le_of_ble_eq_true rfl) (by decide) ⟨by decide, by decide⟩ (fun σ1 l1_q => ?_)
  obtain ⟨_, rfl⟩ : tK T p ≠ 4 ∧ σ = σ1 := by
    rcases l1_q with q | q
    · exact ⟨q.1, q.2.symm⟩
    · exact absurd q.1 k4_q
  refine zaload_n (k := 2) rfl rfl ?_
  refine zgI 8 (k := 3) rfl ob_289 fl_12_36 rfl fx_289_8 ?_
  rw [f8_q]
  refine zif_le (k := 4) rfl rfl (fun c69_q => ?_) (fun c69_q => ?_)
  · skip
    refine zaload_n (k := 7) rfl rfl ?_
    refine zgI 39 (k := 8) rfl ob_289 fl_12_132 rfl fx_289_39 ?_
    rw [hD]
    refine ziconst (k := 9) rfl (by decide) ?_
    refine zisubB (k := 10) rfl (by omega) ?_
    rw [show (R.length : Int) + 1 - 1 = (R.length : Int) by omega]
    refine zistore_n (k := 11) (ls' := [_, _, _, _, _]) rfl (Nat.le_of_ble_eq_true rfl) rfl ?_
    refine zaload_n (k := 12) rfl rfl ?_
    refine zgF 34 (k := 13) rfl ob_289 fl_12_116 rfl fx_289_34 ?_
    refine ziload_n (k := 14) rfl rfl ?_
    refine ziaload (k := 15) rfl ar_308 ⟨by omega, by omega⟩ ?_
    rw [fr.1]
    refine zistore_n (k := 16) (ls' := [_, _, _, _, _]) rfl (Nat.le_of_ble_eq_true rfl) rfl ?_
    refine ziload_n (k := 17) rfl rfl ?_
    refine zfS1 (k := 18) rfl c_M_isTest fm_M_isTest lk_12_328 rfl rfl (Nat.le_of_ble_eq_true rfl) (by decide) ⟨by decide, by decide⟩ ?_
    obtain ⟨t, et⟩ : ∃ z : Int, z = (if isT kd then 1 else 0) := ⟨_, rfl⟩
    rw [← et]
    have ht := ite_o et
    clear et
    refine zistore_n (k := 19) (ls' := [_, _, _, _, _]) rfl (Nat.le_of_ble_eq_true rfl) rfl ?_
    refine zaload_n (k := 20) rfl rfl ?_
    refine zgF 35 (k := 21) rfl ob_289 fl_12_119 rfl fx_289_35 ?_
    refine ziload_n (k := 22) rfl rfl ?_
    refine ziaload (k := 23) rfl ar_309 ⟨by omega, by omega⟩ ?_
    rw [fr.2.1]
    refine ziconst (k := 24) rfl (by decide) ?_
    refine zicmp_ge (k := 25) rfl rfl (fun c70_q => ?_) (fun c70_q => ?_)
    · skip
      exact cut188_q t ht (fun q => absurd q.1 (by omega))
    · skip
      -- PHA
      refine zaload_n (k := 26) rfl rfl ?_
      refine zbipush (k := 27) rfl rfl ?_
      refine zfV1 (k := 28) rfl c_M_isSign fm_M_isSign lk_12_253 rfl rfl ob_289 ⟨_, rfl, rfl⟩ (Nat.le_of_ble_eq_true rfl) (by decide) ⟨by decide, by decide⟩ ?_
      rw [isS_e hc.1.2.2.2.2.2.2 k4_q]
      obtain ⟨z45_q, e45_q⟩ : ∃ z : Int, z = (if isSg T p 43 then 1 else 0) := ⟨_, rfl⟩
      rw [← e45_q]
      have l45_q := ite_o e45_q
      clear e45_q
      refine zif_ne (k := 29) rfl rfl (fun c71_q => ?_) (fun c71_q => ?_)
      · skip
        have w45_q := or_1 l45_q (by assumption)
        clear l45_q
        first
        | exact cut87_q t (by omega) ⟨w45_q.1, Or.inl w45_q.2⟩
        | exact cut87_q t (by omega) ⟨w54_q.1, Or.inr (Or.inl w54_q.2)⟩
        | exact cut87_q t (by omega) ⟨w63_q.1, Or.inr (Or.inr (Or.inl w63_q.2))⟩
        | exact cut87_q t (by omega) ⟨w72_q.1, Or.inr (Or.inr (Or.inr (Or.inl w72_q.2)))⟩
        | exact cut87_q t (by omega) ⟨w81_q.1, Or.inr (Or.inr (Or.inr (Or.inr w81_q.2)))⟩
      · skip
        have w45_q := or_0 l45_q (by assumption)
        clear l45_q
        refine zaload_n (k := 30) rfl rfl ?_
        refine zbipush (k := 31) rfl rfl ?_
        refine zfV1 (k := 32) rfl c_M_isSign fm_M_isSign lk_12_253 rfl rfl ob_289 ⟨_, rfl, rfl⟩ (Nat.le_of_ble_eq_true rfl) (by decide) ⟨by decide, by decide⟩ ?_
        rw [isS_e hc.1.2.2.2.2.2.2 k4_q]
        obtain ⟨z54_q, e54_q⟩ : ∃ z : Int, z = (if isSg T p 45 then 1 else 0) := ⟨_, rfl⟩
        rw [← e54_q]
        have l54_q := ite_o e54_q
        clear e54_q
        refine zif_ne (k := 33) rfl rfl (fun c72_q => ?_) (fun c72_q => ?_)
        · skip
          have w54_q := or_1 l54_q (by assumption)
          clear l54_q
          first
          | exact cut87_q t (by omega) ⟨w45_q.1, Or.inl w45_q.2⟩
          | exact cut87_q t (by omega) ⟨w54_q.1, Or.inr (Or.inl w54_q.2)⟩
          | exact cut87_q t (by omega) ⟨w63_q.1, Or.inr (Or.inr (Or.inl w63_q.2))⟩
          | exact cut87_q t (by omega) ⟨w72_q.1, Or.inr (Or.inr (Or.inr (Or.inl w72_q.2)))⟩
          | exact cut87_q t (by omega) ⟨w81_q.1, Or.inr (Or.inr (Or.inr (Or.inr w81_q.2)))⟩
        · skip
          have w54_q := or_0 l54_q (by assumption)
          clear l54_q
          refine zaload_n (k := 34) rfl rfl ?_
          refine zbipush (k := 35) rfl rfl ?_
          refine zfV1 (k := 36) rfl c_M_isSign fm_M_isSign lk_12_253 rfl rfl ob_289 ⟨_, rfl, rfl⟩ (Nat.le_of_ble_eq_true rfl) (by decide) ⟨by decide, by decide⟩ ?_
          rw [isS_e hc.1.2.2.2.2.2.2 k4_q]
          obtain ⟨z63_q, e63_q⟩ : ∃ z : Int, z = (if isSg T p 42 then 1 else 0) := ⟨_, rfl⟩
          rw [← e63_q]
          have l63_q := ite_o e63_q
          clear e63_q
          refine zif_ne (k := 37) rfl rfl (fun c73_q => ?_) (fun c73_q => ?_)
          · skip
            have w63_q := or_1 l63_q (by assumption)
            clear l63_q
            first
            | exact cut87_q t (by omega) ⟨w45_q.1, Or.inl w45_q.2⟩
            | exact cut87_q t (by omega) ⟨w54_q.1, Or.inr (Or.inl w54_q.2)⟩
            | exact cut87_q t (by omega) ⟨w63_q.1, Or.inr (Or.inr (Or.inl w63_q.2))⟩
            | exact cut87_q t (by omega) ⟨w72_q.1, Or.inr (Or.inr (Or.inr (Or.inl w72_q.2)))⟩
            | exact cut87_q t (by omega) ⟨w81_q.1, Or.inr (Or.inr (Or.inr (Or.inr w81_q.2)))⟩
          · skip
            have w63_q := or_0 l63_q (by assumption)
            clear l63_q
            refine zaload_n (k := 38) rfl rfl ?_
            refine zbipush (k := 39) rfl rfl ?_
            refine zfV1 (k := 40) rfl c_M_isSign fm_M_isSign lk_12_253 rfl rfl ob_289 ⟨_, rfl, rfl⟩ (Nat.le_of_ble_eq_true rfl) (by decide) ⟨by decide, by decide⟩ ?_
            rw [isS_e hc.1.2.2.2.2.2.2 k4_q]
            obtain ⟨z72_q, e72_q⟩ : ∃ z : Int, z = (if isSg T p 47 then 1 else 0) := ⟨_, rfl⟩
            rw [← e72_q]
            have l72_q := ite_o e72_q
            clear e72_q
            refine zif_ne (k := 41) rfl rfl (fun c74_q => ?_) (fun c74_q => ?_)
            · skip
              have w72_q := or_1 l72_q (by assumption)
              clear l72_q
              first
              | exact cut87_q t (by omega) ⟨w45_q.1, Or.inl w45_q.2⟩
              | exact cut87_q t (by omega) ⟨w54_q.1, Or.inr (Or.inl w54_q.2)⟩
              | exact cut87_q t (by omega) ⟨w63_q.1, Or.inr (Or.inr (Or.inl w63_q.2))⟩
              | exact cut87_q t (by omega) ⟨w72_q.1, Or.inr (Or.inr (Or.inr (Or.inl w72_q.2)))⟩
              | exact cut87_q t (by omega) ⟨w81_q.1, Or.inr (Or.inr (Or.inr (Or.inr w81_q.2)))⟩
            · skip
              have w72_q := or_0 l72_q (by assumption)
              clear l72_q
              refine zaload_n (k := 42) rfl rfl ?_
              refine zbipush (k := 43) rfl rfl ?_
              refine zfV1 (k := 44) rfl c_M_isSign fm_M_isSign lk_12_253 rfl rfl ob_289 ⟨_, rfl, rfl⟩ (Nat.le_of_ble_eq_true rfl) (by decide) ⟨by decide, by decide⟩ ?_
              rw [isS_e hc.1.2.2.2.2.2.2 k4_q]
              obtain ⟨z81_q, e81_q⟩ : ∃ z : Int, z = (if isSg T p 37 then 1 else 0) := ⟨_, rfl⟩
              rw [← e81_q]
              have l81_q := ite_o e81_q
              clear e81_q
              refine zif_eq (k := 45) rfl rfl (fun c75_q => ?_) (fun c75_q => ?_)
              · skip
                have w81_q := or_0 l81_q (by assumption)
                clear l81_q
                exact cut188_q t ht (fun q => by rcases q.2.2 with u | u | u | u | u; exact w45_q ⟨q.2.1, u⟩; exact w54_q ⟨q.2.1, u⟩; exact w63_q ⟨q.2.1, u⟩; exact w72_q ⟨q.2.1, u⟩; exact w81_q ⟨q.2.1, u⟩)
              · skip
                have w81_q := or_1 l81_q (by assumption)
                clear l81_q
                first
                | exact cut87_q t (by omega) ⟨w45_q.1, Or.inl w45_q.2⟩
                | exact cut87_q t (by omega) ⟨w54_q.1, Or.inr (Or.inl w54_q.2)⟩
                | exact cut87_q t (by omega) ⟨w63_q.1, Or.inr (Or.inr (Or.inl w63_q.2))⟩
                | exact cut87_q t (by omega) ⟨w72_q.1, Or.inr (Or.inr (Or.inr (Or.inl w72_q.2)))⟩
                | exact cut87_q t (by omega) ⟨w81_q.1, Or.inr (Or.inr (Or.inr (Or.inr w81_q.2)))⟩
  · exfalso; omega
