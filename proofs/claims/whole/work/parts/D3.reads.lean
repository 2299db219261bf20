set_option maxHeartbeats 4000000 in
set_option maxRecDepth 20000 in
theorem c_M_reads {Γ : zv_M} {L : Int} {s : zSpan} {σ : zv_H} {T : Int → Int} {n i p u : Int} {A : zv_H} {lk : Bool} {out : List (Int × Int)} {k0_q : Nat} {Y : zCf} {r : zRs} (hi1_q : i = 0 ∨ i = 1) (hF : ∀ x k, inF i x k → s.2 x k) (h : rdR s σ T n i A (Sum.inl p)) (hu : u = 0 ∨ u = 1) (hou : ouM σ i out) (hcn : σ 289 31 = (out.length : Int)) (hlk : σ 289 33 = zB lk) (hop : (out.length : Int) ≤ p) (hr0_q : rch T lk k0_q (p, [(u, 0, true, 0, [])], out, 0, false) Y) (hY : stpF T lk Y = r) (hn : ∀ Z, r ≠ Sum.inl Z)  : zC Γ m_M_reads 4 0 0 (GM L) [zR 289, zI u] σ (zP0 (GM L) (fun σ' => finM s σ' T n i A lk r)) := by
  refine zC_of (ls0 := [_, _, _]) zm_M_reads (by decide) rfl (Nat.le_of_ble_eq_true rfl) ?_
  generalize hQ : (zP0 (GM L) (fun σ' => finM s σ' T n i A lk r)) = Q
  have f8_q := h.2.2.2.2.1
  have hpp := h.2.2.2.2.2.1
  have cut38_q : ∀ (kd : Int), (kd = u) → zV Γ m_M_reads 4 0 0 Q (GM L) (0, 0) 38 [some (zR 289), some (zI u), none] [zI kd, zR 289] (zup (zup (zup (zup σ 289 39 0) 289 40 0) 289 42 0) 289 43 0) := by
    intro kd hkd
    subst hkd
    have hc0_q : cfM s (zup (zup (zup (zup σ 289 39 0) 289 40 0) 289 42 0) 289 43 0) T n i A lk p [] out 0 := ⟨rdR_k (rdR_k (rdR_k (rdR_k h hF (Or.inr (Or.inr ⟨rfl, by omega⟩))) hF (Or.inr (Or.inr ⟨rfl, by omega⟩))) hF (Or.inr (Or.inr ⟨rfl, by omega⟩))) hF (Or.inr (Or.inr ⟨rfl, by omega⟩)), by rw [zup_n (by omega), zup_s]; rfl, by rw [zup_n (by omega), zup_n (by omega), zup_n (by omega), zup_s]; rfl, ouM_x hou (fun x k q _ _ => by rw [zup_n (by omega), zup_n (by omega), zup_n (by omega), zup_n (by omega)]), by rw [zup_n (by omega), zup_n (by omega), zup_n (by omega), zup_n (by omega)]; exact hcn, by rw [zup_n (by omega), zup_n (by omega), zup_s], by rw [zup_n (by omega), zup_n (by omega), zup_n (by omega), zup_n (by omega)]; exact hlk⟩
    refine zfV0 (k := 22) rfl (c_M_pushes (d := (([] : List zFr).length : Int)) (m := (zup (zup (zup (zup σ 289 39 0) 289 40 0) 289 42 0) 289 43 0) 289 42) hc0_q.2.2.1 rfl (by rw [List.length_nil]; omega)) fm_M_pushes lk_12_325 rfl rfl ob_289 ⟨_, rfl, rfl⟩ (Nat.le_of_ble_eq_true rfl) (by decide) ⟨by decide, by decide⟩ ?_
    have hc1_q := cfM_p (x := kd) (pr := 0) hF hc0_q (fun q => by omega)
    refine ziconst (k := 23) rfl (by decide) ?_
    refine zistore_n (k := 24) (ls' := [_, _, _]) rfl (Nat.le_of_ble_eq_true rfl) rfl ?_
    refine zforget (ls' := [_, _, _]) 1 rfl ?_
    have lp43_q : ∀ (g : Nat) (v : Int) (k : Nat) (σ5 : zv_H), (k) < g → ((v = 1 ∧ ∃ (j : Nat) (X : zCf), k = j + 1 ∧ runM s σ5 T n i A lk j Y X) ∨ (v = 0 ∧ finM s σ5 T n i A lk r)) → zV Γ m_M_reads 4 0 0 Q (GM L) (0, 0) 43 [some (zR 289), none, some (zI v)] [] σ5 := by
      intro g
      induction g with
      | zero => intro v k σ5 hg; exact absurd hg (Nat.not_lt_zero _)
      | succ g ih43_q =>
        intro v k σ5 hg hv
        refine ziload_n (k := 25) rfl rfl ?_
        refine zif_eq (k := 26) rfl rfl (fun c1_q => ?_) (fun c1_q => ?_)
        · skip
          refine zreturn (k := 48) rfl rfl rfl ?_
          rw [← hQ]
          refine ⟨rfl, rfl, ?_⟩
          rcases hv with q | q
          · have q1_q := q.1; exfalso; omega
          · exact q.2
        · skip
          obtain ⟨j, ⟨p, F, out, o, d⟩, hkj, hc, h43_q, hI, hp, hr⟩ : ∃ (j : Nat) (X : zCf), k = j + 1 ∧ runM s σ5 T n i A lk j Y X := by
            rcases hv with q | q
            · exact q.2
            · exact absurd q.1 (by assumption)
          rcases F with _ | ⟨⟨kd, ph, bg, pr, ops⟩, R⟩
          · exact hI.elim
          dsimp only at hc h43_q hp
          obtain ⟨b1_q, b2_q, b3_q, b4_q, b5_q, b6_q⟩ := cfI_b hI
          have hmm : σ5 289 42 = (ops.length : Int) + opsL R := frM_l hc.2.1
          have hm0_q := opsL_0 R
          have hTT := hc.1.2.1.2.1
          have htn := fun q => tN_c hTT hp q
          refine zaload_n (k := 27) rfl rfl ?_
          refine zgI 43 (k := 28) rfl ob_289 fl_12_144 rfl fx_289_43 ?_
          rw [h43_q]
          refine zif_ne (k := 29) rfl rfl (fun c2_q => ?_) (fun c2_q => ?_)
          · skip
            obtain rfl := zB_t (by assumption)
            refine zaload_n (k := 35) rfl rfl ?_
            refine zpVI (k := 36) rfl (c_M_goesOnF hi1_q hF hc h43_q b5_q b6_q b1_q b2_q (by have q3_q := hTT.1.2; omega) (fun q => by have q2_q := htn q; have q3_q := hTT.1.2; omega) (by omega)) fm_M_goesOn lk_12_347 rfl rfl ob_289 ⟨_, rfl, rfl⟩ (Nat.le_of_ble_eq_true rfl) (by decide) ⟨by decide, by decide⟩ (fun z7_q σ7 l7_q => ?_)
            skip
            refine zistore_n (k := 37) (ls' := [_, _, _]) rfl (Nat.le_of_ble_eq_true rfl) rfl ?_
            refine ziload_n (k := 38) rfl rfl ?_
            refine zif_eq (k := 39) rfl rfl (fun c3_q => ?_) (fun c3_q => ?_)
            · skip
              have hfin := fin_gon hF hTT hp hI hr hY hn l7_q (Or.inl (by assumption))
              refine ziconst (k := 45) rfl (by decide) ?_
              refine zistore_n (k := 46) (ls' := [_, _, _]) rfl (Nat.le_of_ble_eq_true rfl) rfl ?_
              refine zgoto (k := 47) rfl rfl ?_
              first
              | exact ih43_q 1 j _ (by omega) (Or.inl ⟨rfl, hrun⟩)
              | exact ih43_q 0 0 _ (by omega) (Or.inr ⟨rfl, hfin⟩)
            · skip
              -- GO
              refine zaload_n (k := 40) rfl rfl ?_
              refine zgI 8 (k := 41) rfl ob_289 fl_12_36 rfl fx_289_8 ?_
              skip
              refine zif_ne (k := 42) rfl rfl (fun c4_q => ?_) (fun c4_q => ?_)
              · skip
                have hfin := fin_gon hF hTT hp hI hr hY hn l7_q (Or.inr (by assumption))
                refine ziconst (k := 45) rfl (by decide) ?_
                refine zistore_n (k := 46) (ls' := [_, _, _]) rfl (Nat.le_of_ble_eq_true rfl) rfl ?_
                refine zgoto (k := 47) rfl rfl ?_
                first
                | exact ih43_q 1 j _ (by omega) (Or.inl ⟨rfl, hrun⟩)
                | exact ih43_q 0 0 _ (by omega) (Or.inr ⟨rfl, hfin⟩)
              · skip
                -- ON
                have hrun := run_gon hF hTT hp hI hr hY hn l7_q (by assumption) (by assumption)
                refine ziconst (k := 43) rfl (by decide) ?_
                refine zgoto (k := 44) rfl rfl ?_
                refine zistore_n (k := 46) (ls' := [_, _, _]) rfl (Nat.le_of_ble_eq_true rfl) rfl ?_
                refine zgoto (k := 47) rfl rfl ?_
                first
                | exact ih43_q 1 j _ (by omega) (Or.inl ⟨rfl, hrun⟩)
                | exact ih43_q 0 0 _ (by omega) (Or.inr ⟨rfl, hfin⟩)
          · skip
            obtain rfl := zB_f0 (by assumption)
            refine zaload_n (k := 30) rfl rfl ?_
            refine zaload_n (k := 31) rfl rfl ?_
            refine zpVI (k := 32) rfl (c_M_operand hi1_q hF hc b1_q b2_q (fun q => by have q2_q := htn q; have q3_q := hTT.1.2; omega) (by omega)) fm_M_operand lk_12_344 rfl rfl ob_289 ⟨_, rfl, rfl⟩ (Nat.le_of_ble_eq_true rfl) (by decide) ⟨by decide, by decide⟩ (fun z6_q σ6 l6_q => ?_)
            -- OPR
            obtain ⟨hz6_q, l6_q⟩ := l6_q
            refine zpZ 43 (k := 33) rfl ob_289 fl_12_144 ⟨_, rfl, rfl⟩ rfl (by first | exact Or.inl rfl | exact Or.inr rfl | omega) (by omega) rfl fx_289_43 ?_
            refine zgoto (k := 34) rfl rfl ?_
            refine ziload_n (k := 38) rfl rfl ?_
            refine zif_eq (k := 39) rfl rfl (fun c5_q => ?_) (fun c5_q => ?_)
            · exfalso; omega
            refine zaload_n (k := 40) rfl rfl ?_
            refine zgI 8 (k := 41) rfl ob_289 fl_12_36 rfl fx_289_8 ?_
            rw [zup_n (by omega)]
            refine zif_ne (k := 42) rfl rfl (fun c6_q => ?_) (fun c6_q => ?_)
            · skip
              have hfin := fin_opr hF hTT hp hI hr hY hn l6_q (by assumption)
              refine ziconst (k := 45) rfl (by decide) ?_
              refine zistore_n (k := 46) (ls' := [_, _, _]) rfl (Nat.le_of_ble_eq_true rfl) rfl ?_
              refine zgoto (k := 47) rfl rfl ?_
              first
              | exact ih43_q 1 j _ (by omega) (Or.inl ⟨rfl, hrun⟩)
              | exact ih43_q 0 0 _ (by omega) (Or.inr ⟨rfl, hfin⟩)
            · skip
              -- ON
              have hrun := run_opr hF hTT hp hI hr hY hn l6_q (by assumption)
              refine ziconst (k := 43) rfl (by decide) ?_
              refine zgoto (k := 44) rfl rfl ?_
              refine zistore_n (k := 46) (ls' := [_, _, _]) rfl (Nat.le_of_ble_eq_true rfl) rfl ?_
              refine zgoto (k := 47) rfl rfl ?_
              first
              | exact ih43_q 1 j _ (by omega) (Or.inl ⟨rfl, hrun⟩)
              | exact ih43_q 0 0 _ (by omega) (Or.inr ⟨rfl, hfin⟩)
    exact lp43_q _ 1 (k0_q + 1) _ (Nat.lt_succ_self _) (Or.inl ⟨rfl, k0_q, (p, [(kd, 0, true, 0, [])], out, 0, false), rfl, hc1_q, by rw [zup_n (by omega), zup_n (by omega), zup_n (by omega), zup_n (by omega), zup_n (by omega), zup_s]; rfl, ⟨⟨trivial, fun _ y hy => (by cases hy), by omega, fun q => absurd q (by omega), trivial⟩, fun f hf => (by cases hf), by decide, by omega, by show (out.length : Int) + ((0 : Nat) : Int) + 0 ≤ p; omega, fun _ => ⟨rfl, fun y hy => (by cases hy)⟩⟩, hpp, hr0_q⟩)
  refine zaload_n (k := 0) rfl rfl ?_
  refine zgI 8 (k := 1) rfl ob_289 fl_12_36 rfl fx_289_8 ?_
  rw [f8_q]
  refine zif_le (k := 2) rfl rfl (fun c7_q => ?_) (fun c7_q => ?_)
  · skip
    refine zaload_n (k := 4) rfl rfl ?_
    refine ziconst (k := 5) rfl (by decide) ?_
    refine zpI 39 (k := 6) rfl ob_289 fl_12_132 ⟨_, rfl, rfl⟩ rfl (by omega) rfl fx_289_39 ?_
    refine zaload_n (k := 7) rfl rfl ?_
    refine ziconst (k := 8) rfl (by decide) ?_
    refine zpI 40 (k := 9) rfl ob_289 fl_12_135 ⟨_, rfl, rfl⟩ rfl (by omega) rfl fx_289_40 ?_
    refine zaload_n (k := 10) rfl rfl ?_
    refine ziconst (k := 11) rfl (by decide) ?_
    refine zpI 42 (k := 12) rfl ob_289 fl_12_141 ⟨_, rfl, rfl⟩ rfl (by omega) rfl fx_289_42 ?_
    refine zaload_n (k := 13) rfl rfl ?_
    refine ziconst (k := 14) rfl (by decide) ?_
    refine zpZ 43 (k := 15) rfl ob_289 fl_12_144 ⟨_, rfl, rfl⟩ rfl (by first | exact Or.inl rfl | exact Or.inr rfl | omega) (by omega) rfl fx_289_43 ?_
    refine zaload_n (k := 16) rfl rfl ?_
    refine ziload_n (k := 17) rfl rfl ?_
    refine zif_eq (k := 18) rfl rfl (fun c8_q => ?_) (fun c8_q => ?_)
    · skip
      refine ziconst (k := 21) rfl (by decide) ?_
      exact cut38_q _ (by omega)
    · skip
      refine ziconst (k := 19) rfl (by decide) ?_
      refine zgoto (k := 20) rfl rfl ?_
      exact cut38_q _ (by omega)
  · exfalso; omega
