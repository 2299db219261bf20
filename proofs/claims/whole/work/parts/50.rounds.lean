/-! ROUNDS: rows of COUNTIES, the last one first, each with when he comes -/
def cmA (Wm S : zv_H) (m : Int) (p : List (Int × Int)) (c : Int) : Int := match p with
  | [] => dstF Wm (S 4 m) c
  | q :: _ => if dstF Wm q.1 c = -1 then -1 else q.2 + 1 + dstF Wm q.1 c
def canP (Wm S : zv_H) (m : Int) (p : List (Int × Int)) (c v : Int) : Prop := S 1 c ≠ 0 ∧ knwF Wm S m c (S 0 0 + v) = false ∧ ∀ q ∈ p, q.1 ≠ c ∧ v < q.2 + 1 + dstF Wm q.1 c + Wm 0 4
def prR (σ : zv_H) : List (Int × Int) → Prop
  | [] => True
  | q :: r => σ 60 r.length = q.1 ∧ σ 61 r.length = q.2 ∧ prR σ r
def prB (nc : Int) : List (Int × Int) → Prop
  | [] => True
  | q :: r => (0 ≤ q.1 ∧ q.1 < nc) ∧ (0 ≤ q.2 ∧ q.2 ≤ 60 * (r.length + 1)) ∧ prB nc r
theorem prR_at {σ : zv_H} : ∀ {p : List (Int × Int)}, prR σ p → ∀ k : Nat, k < p.length → σ 60 k = ((p.map Prod.fst).reverse).getD k 0 ∧ σ 61 k = ((p.map Prod.snd).reverse).getD k 0
  | [], _, k, h => absurd h (Nat.not_lt_zero _)
  | q :: r, hp, k, h => by
    have hl : k < r.length + 1 := h
    rw [List.map_cons, List.reverse_cons, List.map_cons, List.reverse_cons]
    by_cases e : k = r.length
    · rw [e, hp.1, hp.2.1, List.getD_eq_getElem?_getD, List.getD_eq_getElem?_getD, List.getElem?_append_right (by simp), List.getElem?_append_right (by simp)]
      simp
    · have ih := prR_at hp.2.2 k (by omega)
      rw [ih.1, ih.2, List.getD_eq_getElem?_getD, List.getD_eq_getElem?_getD, List.getD_eq_getElem?_getD, List.getD_eq_getElem?_getD, List.getElem?_append_left (by simp; omega), List.getElem?_append_left (by simp; omega)]
      exact ⟨rfl, rfl⟩
theorem prR_up {σ σ' : zv_H} : ∀ {p : List (Int × Int)}, prR σ p → (∀ k : Nat, k < p.length → σ' 60 k = σ 60 k ∧ σ' 61 k = σ 61 k) → prR σ' p
  | [], _, _ => trivial
  | q :: r, hp, h => by
    have h1 := h r.length (by show r.length < r.length + 1; omega)
    exact ⟨h1.1.trans hp.1, h1.2.trans hp.2.1, prR_up hp.2.2 (fun k hk => h k (by show k < r.length + 1; omega))⟩
theorem prB_at {nc : Int} : ∀ {p : List (Int × Int)}, prB nc p → ∀ q ∈ p, (0 ≤ q.1 ∧ q.1 < nc) ∧ (0 ≤ q.2 ∧ q.2 ≤ 60 * p.length)
  | [], _, q, h => by cases h
  | a :: r, hp, q, h => by
    have e : ((a :: r).length : Int) = (r.length : Int) + 1 := rfl
    rcases List.mem_cons.mp h with h | h
    · rw [h, e]; exact ⟨hp.1, hp.2.1⟩
    · have := prB_at hp.2.2 q h
      rw [e]; omega
theorem pair_mem : ∀ (p : List (Int × Int)) (k : Nat), k < p.length → (((p.map Prod.fst).reverse).getD k 0, ((p.map Prod.snd).reverse).getD k 0) ∈ p := by
  intro p k h
  have h1 : p.length - 1 - k < p.length := by omega
  have e1 : ((p.map Prod.fst).reverse).getD k 0 = (p[p.length - 1 - k]).1 := by
    rw [List.getD_eq_getElem?_getD, List.getElem?_reverse (by simpa using h), List.length_map, List.getElem?_map, List.getElem?_eq_getElem h1]
    rfl
  have e2 : ((p.map Prod.snd).reverse).getD k 0 = (p[p.length - 1 - k]).2 := by
    rw [List.getD_eq_getElem?_getD, List.getElem?_reverse (by simpa using h), List.length_map, List.getElem?_map, List.getElem?_eq_getElem h1]
    rfl
  rw [e1, e2]
  exact List.getElem_mem h1
theorem mem_pair {σ : zv_H} : ∀ {p : List (Int × Int)}, prR σ p → ∀ q ∈ p, ∃ k : Nat, k < p.length ∧ σ 60 k = q.1 ∧ σ 61 k = q.2
  | [], _, q, h => by cases h
  | a :: r, hp, q, h => by
    rcases List.mem_cons.mp h with h | h
    · exact ⟨r.length, by show r.length < r.length + 1; omega, by rw [h]; exact hp.1, by rw [h]; exact hp.2.1⟩
    · obtain ⟨k, h1, h2⟩ := mem_pair hp.2.2 q h
      exact ⟨k, by show k < r.length + 1; omega, h2⟩
set_option maxHeartbeats 4000000 in
set_option maxRecDepth 20000 in
theorem c_Rounds_comesAt {Γ : zv_M} {L : Int} {w m : Int} {σ S Wm : zv_H} (h6 : σ 58 6 = w) (h7 : σ 58 7 = 30) (h8 : σ 58 8 = m) (hw : w ∈ wrL) (hW : vw 12 σ w = Wm) (hS : vw 10 σ 30 = S) (hSI : SI (Wm 0 1) (Wm 0 3) S) (hWI : WI Wm) (hm : 0 ≤ m ∧ m < Wm 0 3) {p : List (Int × Int)} (hp : prR σ p) (hpb : prB (Wm 0 1) p) {n : Int} (hn : n = (p.length : Int)) (hn4 : n ≤ 4) {c : Int} : zC Γ m_Rounds_comesAt 2 0 0 (GM L) [zR 58, zI n, zI c] σ (zFn (some (zI (cmA Wm S m p c))) (GM L) σ) := by
  refine zC_of (ls0 := [_, _, _, _]) zm_Rounds_comesAt (by decide) rfl (Nat.le_of_ble_eq_true rfl) ?_
  generalize hQ : (zFn (some (zI (cmA Wm S m p c))) (GM L) σ) = Q
  have ha : (30 : Int) ∈ stL := by decide
  have hWI0 := hWI
  obtain ⟨b0, b11, b12, bc, bm, bl, br⟩ := hSI
  obtain ⟨w1, w2, w3, w4, w5, w6, w7, w8, w9, w10⟩ := hWI
  have ew0 : σ w = Wm 0 := st_e0 hW
  have e30 : σ 30 = S 0 := st_e0 hS
  have e31 : σ 31 = S 1 := st_e (f := 1) hS (by omega)
  have e32 : σ 32 = S 2 := st_e (f := 2) hS (by omega)
  have e34 : σ 34 = S 4 := st_e (f := 4) hS (by omega)
  have bmm := bm m hm.1 hm.2
  refine ziload_n (k := 0) rfl rfl ?_
  refine zif_ne (k := 1) rfl rfl (fun c1 => ?_) (fun c1 => ?_)
  · skip
    obtain ⟨q, r, rfl⟩ : ∃ q r, p = q :: r := by
      cases p with
      | nil => exact absurd hn (by simpa using c1)
      | cons q r => exact ⟨q, r, rfl⟩
    have hln : n - 1 = (r.length : Int) := by rw [hn]; show ((r.length + 1 : Nat) : Int) - 1 = _; omega
    have hr3 : (r.length : Int) ≤ 3 := by omega
    have qb := hpb.2.1
    have e60 : σ 60 (n - 1) = q.1 := by rw [hln]; exact hp.1
    have e61 : σ 61 (n - 1) = q.2 := by rw [hln]; exact hp.2.1
    have db := dst_b hWI0 q.1 c
    refine zaload_n (k := 13) rfl rfl ?_
    refine zgR 6 (k := 14) rfl ob_58 fl_6_21 rfl fx_58_6 ?_
    rw [h6]
    refine zaload_n (k := 15) rfl rfl ?_
    refine zgF 4 (k := 16) rfl ob_58 fl_6_15 rfl fx_58_4 ?_
    refine ziload_n (k := 17) rfl rfl ?_
    refine ziconst (k := 18) rfl (by decide) ?_
    refine zisubB (k := 19) rfl (by omega) ?_
    refine zfS1 (k := 20) rfl (c_NT_at ar_60) fm_NT_at lk_6_68 rfl rfl (Nat.le_of_ble_eq_true rfl) (by decide) ⟨by decide, by decide⟩ ?_
    rw [zat_in (by omega), e60]
    refine ziload_n (k := 21) rfl rfl ?_
    refine zfV1 (k := 22) rfl (k_dist hw hW w1) fm_War_distance lk_6_79 rfl rfl (wr_ob hw) ⟨_, rfl, rfl⟩ (Nat.le_of_ble_eq_true rfl) (by decide) ⟨by decide, by decide⟩ ?_
    refine zistore_n (k := 23) (ls' := [_, _, _, _]) rfl (Nat.le_of_ble_eq_true rfl) rfl ?_
    refine ziload_n (k := 24) rfl rfl ?_
    refine ziconst (k := 25) rfl (by decide) ?_
    refine zicmp_ne (k := 26) rfl rfl (fun c2 => ?_) (fun c2 => ?_)
    · skip
      refine zaload_n (k := 29) rfl rfl ?_
      refine zgF 5 (k := 30) rfl ob_58 fl_6_18 rfl fx_58_5 ?_
      refine ziload_n (k := 31) rfl rfl ?_
      refine ziconst (k := 32) rfl (by decide) ?_
      refine zisubB (k := 33) rfl (by omega) ?_
      refine zfS1 (k := 34) rfl (c_NT_at ar_61) fm_NT_at lk_6_68 rfl rfl (Nat.le_of_ble_eq_true rfl) (by decide) ⟨by decide, by decide⟩ ?_
      rw [zat_in (by omega), e61]
      refine ziconst (k := 35) rfl (by decide) ?_
      refine ziaddB (k := 36) rfl (by omega) ?_
      refine ziload_n (k := 37) rfl rfl ?_
      refine ziaddB (k := 38) rfl (by omega) ?_
      refine zireturn (k := 39) rfl rfl rfl ?_
      rw [← hQ]
      exact ⟨by unfold cmA; dsimp only; first | (rw [if_pos (by omega)]; done) | (rw [if_neg (by omega)]; done), rfl, rfl⟩
    · skip
      refine ziconst (k := 27) rfl (by decide) ?_
      refine zgoto (k := 28) rfl rfl ?_
      refine zireturn (k := 39) rfl rfl rfl ?_
      rw [← hQ]
      exact ⟨by unfold cmA; dsimp only; first | (rw [if_pos (by omega)]; done) | (rw [if_neg (by omega)]; done), rfl, rfl⟩
  · skip
    have hp0 : p = [] := List.eq_nil_of_length_eq_zero (by omega)
    subst hp0
    refine zaload_n (k := 2) rfl rfl ?_
    refine zgR 6 (k := 3) rfl ob_58 fl_6_21 rfl fx_58_6 ?_
    rw [h6]
    refine zaload_n (k := 4) rfl rfl ?_
    refine zgR 7 (k := 5) rfl ob_58 fl_6_25 rfl fx_58_7 ?_
    rw [h7]
    refine zgF 4 (k := 6) rfl ob_30 fl_6_76 rfl fx_30_4 ?_
    refine zaload_n (k := 7) rfl rfl ?_
    refine zgI 8 (k := 8) rfl ob_58 fl_6_29 rfl fx_58_8 ?_
    rw [h8]
    refine zfS1 (k := 9) rfl (c_NT_at ar_34) fm_NT_at lk_6_68 rfl rfl (Nat.le_of_ble_eq_true rfl) (by decide) ⟨by decide, by decide⟩ ?_
    rw [zat_in (by omega)]
    try simp only [ew0, e30, e31, e32, e34]
    refine ziload_n (k := 10) rfl rfl ?_
    refine zfV1 (k := 11) rfl (k_dist hw hW w1) fm_War_distance lk_6_79 rfl rfl (wr_ob hw) ⟨_, rfl, rfl⟩ (Nat.le_of_ble_eq_true rfl) (by decide) ⟨by decide, by decide⟩ ?_
    refine zireturn (k := 12) rfl rfl rfl ?_
    rw [← hQ]
    exact ⟨rfl, rfl, rfl⟩
set_option maxHeartbeats 4000000 in
set_option maxRecDepth 20000 in
theorem c_Rounds_canEnlist {Γ : zv_M} {L : Int} {w m : Int} {σ S Wm : zv_H} (h6 : σ 58 6 = w) (h7 : σ 58 7 = 30) (h8 : σ 58 8 = m) (hw : w ∈ wrL) (hW : vw 12 σ w = Wm) (hS : vw 10 σ 30 = S) (hSI : SI (Wm 0 1) (Wm 0 3) S) (hWI : WI Wm) (hm : 0 ≤ m ∧ m < Wm 0 3) {p : List (Int × Int)} (hp : prR σ p) (hpb : prB (Wm 0 1) p) {n : Int} (hn : n = (p.length : Int)) (hn4 : n ≤ 4) {c v : Int} (hc : 0 ≤ c ∧ c < Wm 0 1) (hv : 0 ≤ v ∧ v ≤ 1000) : zC Γ m_Rounds_canEnlist 2 0 0 (GM L) [zR 58, zI n, zI c, zI v] σ (zPI (GM L) (fun z σ' => σ' = σ ∧ ((z = 1 ∧ canP Wm S m p c v) ∨ (z = 0 ∧ ¬ canP Wm S m p c v)))) := by
  refine zC_of (ls0 := [_, _, _, _, _, _]) zm_Rounds_canEnlist (by decide) rfl (Nat.le_of_ble_eq_true rfl) ?_
  generalize hQ : (zPI (GM L) (fun z σ' => σ' = σ ∧ ((z = 1 ∧ canP Wm S m p c v) ∨ (z = 0 ∧ ¬ canP Wm S m p c v)))) = Q
  have ha : (30 : Int) ∈ stL := by decide
  have hWI0 := hWI
  obtain ⟨b0, b11, b12, bc, bm, bl, br⟩ := hSI
  obtain ⟨w1, w2, w3, w4, w5, w6, w7, w8, w9, w10⟩ := hWI
  have ew0 : σ w = Wm 0 := st_e0 hW
  have e30 : σ 30 = S 0 := st_e0 hS
  have e31 : σ 31 = S 1 := st_e (f := 1) hS (by omega)
  have e32 : σ 32 = S 2 := st_e (f := 2) hS (by omega)
  have e34 : σ 34 = S 4 := st_e (f := 4) hS (by omega)
  refine zaload_n (k := 0) rfl rfl ?_
  refine zgR 7 (k := 1) rfl ob_58 fl_6_25 rfl fx_58_7 ?_
  rw [h7]
  refine zgF 1 (k := 2) rfl ob_30 fl_6_82 rfl fx_30_1 ?_
  refine ziload_n (k := 3) rfl rfl ?_
  refine zfS1 (k := 4) rfl (c_NT_at ar_31) fm_NT_at lk_6_68 rfl rfl (Nat.le_of_ble_eq_true rfl) (by decide) ⟨by decide, by decide⟩ ?_
  rw [zat_in (by omega)]
  try simp only [ew0, e30, e31, e32, e34]
  refine zif_eq (k := 5) rfl rfl (fun c1 => ?_) (fun c1 => ?_)
  · skip
    refine ziconst (k := 20) rfl (by decide) ?_
    refine zzreturn (k := 21) rfl rfl (by first | exact Or.inl rfl | exact Or.inr rfl | omega) rfl ?_
    rw [← hQ]
    refine ⟨rfl, _, rfl, rfl, Or.inr ⟨rfl, fun q => ?_⟩⟩
    have q1 := q.1
    have q2 := q.2.1
    first
    | omega
    | (have q3 : knwF Wm S m c (S 0 0 + v) = true := zB_t (by assumption)
       rw [q2] at q3
       exact absurd q3 (by decide))
  · skip
    refine zaload_n (k := 6) rfl rfl ?_
    refine zgR 7 (k := 7) rfl ob_58 fl_6_25 rfl fx_58_7 ?_
    rw [h7]
    refine zaload_n (k := 8) rfl rfl ?_
    refine zgR 6 (k := 9) rfl ob_58 fl_6_21 rfl fx_58_6 ?_
    rw [h6]
    refine zaload_n (k := 10) rfl rfl ?_
    refine zgI 8 (k := 11) rfl ob_58 fl_6_29 rfl fx_58_8 ?_
    rw [h8]
    refine ziload_n (k := 12) rfl rfl ?_
    refine zaload_n (k := 13) rfl rfl ?_
    refine zgR 7 (k := 14) rfl ob_58 fl_6_25 rfl fx_58_7 ?_
    rw [h7]
    refine zgI 0 (k := 15) rfl ob_30 fl_6_85 rfl fx_30_0 ?_
    try simp only [ew0, e30, e31, e32, e34]
    refine ziload_n (k := 16) rfl rfl ?_
    refine ziaddB (k := 17) rfl (by omega) ?_
    refine zfV1 (k := 18) rfl (k_known ha hw hS hW (by omega) (by omega) (by omega)) fm_State_isKnown lk_6_88 rfl rfl ob_30 ⟨_, rfl, rfl⟩ (Nat.le_of_ble_eq_true rfl) (by decide) ⟨by decide, by decide⟩ ?_
    refine zif_eq (k := 19) rfl rfl (fun c2 => ?_) (fun c2 => ?_)
    · skip
      refine ziconst (k := 22) rfl (by decide) ?_
      refine zistore (k := 23) (ls' := [_, _, _, _, _, _]) rfl (Nat.le_of_ble_eq_true rfl) rfl ?_
      have lp47 : ∀ (g : Nat) (k : Nat), (n.toNat - k) < g → ((k : Int) ≤ n) → (∀ j : Nat, j < k → σ 60 j ≠ c ∧ v < σ 61 j + 1 + dstF Wm (σ 60 j) c + Wm 0 4) → zV Γ m_Rounds_canEnlist 2 0 0 Q (GM L) (0, 0) 47 [some (zR 58), some (zI n), some (zI c), some (zI v), some (zI k), none] [] σ := by
        intro g
        induction g with
        | zero => intro k hg; exact absurd hg (Nat.not_lt_zero _)
        | succ g ih47 =>
          intro k hg hk hq
          refine ziload (k := 24) rfl rfl ?_
          refine ziload_n (k := 25) rfl rfl ?_
          refine zicmp_ge (k := 26) rfl rfl (fun c3 => ?_) (fun c3 => ?_)
          · skip
            refine ziconst (k := 57) rfl (by decide) ?_
            refine zzreturn (k := 58) rfl rfl (by first | exact Or.inl rfl | exact Or.inr rfl | omega) rfl ?_
            rw [← hQ]
            refine ⟨rfl, _, rfl, rfl, Or.inl ⟨rfl, by omega, ?_, fun q hq2 => ?_⟩⟩
            · cases hh : knwF Wm S m c (S 0 0 + v)
              · rfl
              · exact absurd (show zB (knwF Wm S m c (S 0 0 + v)) = 0 by assumption) (by rw [hh]; decide)
            · obtain ⟨k2, hk2, e1, e2⟩ := mem_pair hp q hq2
              have := hq k2 (by omega)
              rw [e1, e2] at this
              exact this
          · skip
            refine zaload_n (k := 27) rfl rfl ?_
            refine zgF 4 (k := 28) rfl ob_58 fl_6_15 rfl fx_58_4 ?_
            refine ziload (k := 29) rfl rfl ?_
            refine zfS1 (k := 30) rfl (c_NT_at ar_60) fm_NT_at lk_6_68 rfl rfl (Nat.le_of_ble_eq_true rfl) (by decide) ⟨by decide, by decide⟩ ?_
            rw [zat_in (by omega)]
            try simp only [ew0, e30, e31, e32, e34]
            refine zistore (k := 31) (ls' := [_, _, _, _, _, _]) rfl (Nat.le_of_ble_eq_true rfl) rfl ?_
            refine ziload (k := 32) rfl rfl ?_
            have pr := prR_at hp k (by omega)
            have hmem : (((p.map Prod.fst).reverse).getD k 0, ((p.map Prod.snd).reverse).getD k 0) ∈ p := pair_mem p k (by omega)
            have pb := prB_at hpb _ hmem
            dsimp only at pb
            rw [← pr.1, ← pr.2] at hmem pb
            have db := dst_b hWI0 (σ 60 k) c
            refine ziload_n (k := 33) rfl rfl ?_
            refine zicmp_eq (k := 34) rfl rfl (fun c4 => ?_) (fun c4 => ?_)
            · skip
              refine ziconst (k := 53) rfl (by decide) ?_
              refine zzreturn (k := 54) rfl rfl (by first | exact Or.inl rfl | exact Or.inr rfl | omega) rfl ?_
              rw [← hQ]
              refine ⟨rfl, _, rfl, rfl, Or.inr ⟨rfl, fun q => ?_⟩⟩
              have q3 := q.2.2 _ hmem
              dsimp only at q3
              omega
            · skip
              refine zaload_n (k := 35) rfl rfl ?_
              refine zgF 5 (k := 36) rfl ob_58 fl_6_18 rfl fx_58_5 ?_
              refine ziload (k := 37) rfl rfl ?_
              refine zfS1 (k := 38) rfl (c_NT_at ar_61) fm_NT_at lk_6_68 rfl rfl (Nat.le_of_ble_eq_true rfl) (by decide) ⟨by decide, by decide⟩ ?_
              rw [zat_in (by omega)]
              try simp only [ew0, e30, e31, e32, e34]
              refine ziconst (k := 39) rfl (by decide) ?_
              refine ziaddB (k := 40) rfl (by omega) ?_
              refine zaload_n (k := 41) rfl rfl ?_
              refine zgR 6 (k := 42) rfl ob_58 fl_6_21 rfl fx_58_6 ?_
              rw [h6]
              refine ziload (k := 43) rfl rfl ?_
              refine ziload_n (k := 44) rfl rfl ?_
              refine zfV1 (k := 45) rfl (k_dist hw hW w1) fm_War_distance lk_6_79 rfl rfl (wr_ob hw) ⟨_, rfl, rfl⟩ (Nat.le_of_ble_eq_true rfl) (by decide) ⟨by decide, by decide⟩ ?_
              refine ziaddB (k := 46) rfl (by omega) ?_
              refine zaload_n (k := 47) rfl rfl ?_
              refine zgR 6 (k := 48) rfl ob_58 fl_6_21 rfl fx_58_6 ?_
              rw [h6]
              refine zgI 4 (k := 49) rfl (wr_ob hw) fl_6_92 rfl (wr_fx_4 hw) ?_
              try simp only [ew0, e30, e31, e32, e34]
              refine ziaddB (k := 50) rfl (by omega) ?_
              refine ziload_n (k := 51) rfl rfl ?_
              refine zicmp_gt (k := 52) rfl rfl (fun c5 => ?_) (fun c5 => ?_)
              · skip
                refine ziincB (k := 55) (ls' := [_, _, _, _, _, _]) rfl rfl (by decide) (by omega) rfl ?_
                refine zgoto (k := 56) rfl rfl ?_
                refine zforget (ls' := [_, _, _, _, _, _]) 5 rfl ?_
                refine ih47 (k + 1) (by omega) (by omega) (fun j hj => ?_)
                by_cases e : j = k
                · rw [e]; exact ⟨by omega, by omega⟩
                · exact hq j (by omega)
              · skip
                refine ziconst (k := 53) rfl (by decide) ?_
                refine zzreturn (k := 54) rfl rfl (by first | exact Or.inl rfl | exact Or.inr rfl | omega) rfl ?_
                rw [← hQ]
                refine ⟨rfl, _, rfl, rfl, Or.inr ⟨rfl, fun q => ?_⟩⟩
                have q3 := q.2.2 _ hmem
                dsimp only at q3
                omega
      exact lp47 _ 0 (Nat.lt_succ_self _) (by omega) (fun j hj => absurd hj (Nat.not_lt_zero _))
    · skip
      refine ziconst (k := 20) rfl (by decide) ?_
      refine zzreturn (k := 21) rfl rfl (by first | exact Or.inl rfl | exact Or.inr rfl | omega) rfl ?_
      rw [← hQ]
      refine ⟨rfl, _, rfl, rfl, Or.inr ⟨rfl, fun q => ?_⟩⟩
      have q1 := q.1
      have q2 := q.2.1
      first
      | omega
      | (have q3 : knwF Wm S m c (S 0 0 + v) = true := zB_t (by assumption)
         rw [q2] at q3
         exact absurd q3 (by decide))
/-- the better of two rounds: by what he gets, when he comes, how long -/
def btr (bl bg bw n g v : Int) : Prop := if g = bg then (if v = bw then n < bl else v < bw) else bg < g
def btrB (bl bg bw n g v : Int) : Bool := if g = bg then (if v = bw then decide (n < bl) else decide (v < bw)) else decide (bg < g)
theorem btrB_i (bl bg bw n g v : Int) : btrB bl bg bw n g v = true ↔ btr bl bg bw n g v := by
  unfold btrB btr
  (repeat' split) <;> simp
set_option maxHeartbeats 4000000 in
set_option maxRecDepth 20000 in
theorem c_Rounds_isBetter {Γ : zv_M} {L : Int} {σ : zv_H} {n g v : Int} : zC Γ m_Rounds_isBetter 0 0 0 (GM L) [zR 58, zI n, zI g, zI v] σ (zFn (some (zI (zB (btrB (σ 58 1) (σ 58 2) (σ 58 3) n g v)))) (GM L) σ) := by
  refine zC_of (ls0 := [_, _, _, _]) zm_Rounds_isBetter (by decide) rfl (Nat.le_of_ble_eq_true rfl) ?_
  generalize hQ : (zFn (some (zI (zB (btrB (σ 58 1) (σ 58 2) (σ 58 3) n g v)))) (GM L) σ) = Q
  refine ziload_n (k := 0) rfl rfl ?_
  refine zaload_n (k := 1) rfl rfl ?_
  refine zgI 2 (k := 2) rfl ob_58 fl_6_36 rfl fx_58_2 ?_
  refine zicmp_eq (k := 3) rfl rfl (fun c1 => ?_) (fun c1 => ?_)
  · skip
    refine ziload_n (k := 12) rfl rfl ?_
    refine zaload_n (k := 13) rfl rfl ?_
    refine zgI 3 (k := 14) rfl ob_58 fl_6_39 rfl fx_58_3 ?_
    refine zicmp_eq (k := 15) rfl rfl (fun c2 => ?_) (fun c2 => ?_)
    · skip
      refine ziload_n (k := 24) rfl rfl ?_
      refine zaload_n (k := 25) rfl rfl ?_
      refine zgI 1 (k := 26) rfl ob_58 fl_6_33 rfl fx_58_1 ?_
      refine zicmp_ge (k := 27) rfl rfl (fun c3 => ?_) (fun c3 => ?_)
      · skip
        refine ziconst (k := 30) rfl (by decide) ?_
        refine zzreturn (k := 31) rfl rfl (by first | exact Or.inl rfl | exact Or.inr rfl | omega) rfl ?_
        rw [← hQ]
        refine ⟨?_, rfl, rfl⟩
        unfold btrB
        first
        | (rw [if_pos (by omega), if_pos (by omega), decide_eq_true (by omega)]; rfl)
        | (rw [if_pos (by omega), if_pos (by omega), decide_eq_false (by omega)]; rfl)
        | (rw [if_pos (by omega), if_neg (by omega), decide_eq_true (by omega)]; rfl)
        | (rw [if_pos (by omega), if_neg (by omega), decide_eq_false (by omega)]; rfl)
        | (rw [if_neg (by omega), decide_eq_true (by omega)]; rfl)
        | (rw [if_neg (by omega), decide_eq_false (by omega)]; rfl)
      · skip
        refine ziconst (k := 28) rfl (by decide) ?_
        refine zgoto (k := 29) rfl rfl ?_
        refine zzreturn (k := 31) rfl rfl (by first | exact Or.inl rfl | exact Or.inr rfl | omega) rfl ?_
        rw [← hQ]
        refine ⟨?_, rfl, rfl⟩
        unfold btrB
        first
        | (rw [if_pos (by omega), if_pos (by omega), decide_eq_true (by omega)]; rfl)
        | (rw [if_pos (by omega), if_pos (by omega), decide_eq_false (by omega)]; rfl)
        | (rw [if_pos (by omega), if_neg (by omega), decide_eq_true (by omega)]; rfl)
        | (rw [if_pos (by omega), if_neg (by omega), decide_eq_false (by omega)]; rfl)
        | (rw [if_neg (by omega), decide_eq_true (by omega)]; rfl)
        | (rw [if_neg (by omega), decide_eq_false (by omega)]; rfl)
    · skip
      refine ziload_n (k := 16) rfl rfl ?_
      refine zaload_n (k := 17) rfl rfl ?_
      refine zgI 3 (k := 18) rfl ob_58 fl_6_39 rfl fx_58_3 ?_
      refine zicmp_ge (k := 19) rfl rfl (fun c4 => ?_) (fun c4 => ?_)
      · skip
        refine ziconst (k := 22) rfl (by decide) ?_
        refine zzreturn (k := 23) rfl rfl (by first | exact Or.inl rfl | exact Or.inr rfl | omega) rfl ?_
        rw [← hQ]
        refine ⟨?_, rfl, rfl⟩
        unfold btrB
        first
        | (rw [if_pos (by omega), if_pos (by omega), decide_eq_true (by omega)]; rfl)
        | (rw [if_pos (by omega), if_pos (by omega), decide_eq_false (by omega)]; rfl)
        | (rw [if_pos (by omega), if_neg (by omega), decide_eq_true (by omega)]; rfl)
        | (rw [if_pos (by omega), if_neg (by omega), decide_eq_false (by omega)]; rfl)
        | (rw [if_neg (by omega), decide_eq_true (by omega)]; rfl)
        | (rw [if_neg (by omega), decide_eq_false (by omega)]; rfl)
      · skip
        refine ziconst (k := 20) rfl (by decide) ?_
        refine zgoto (k := 21) rfl rfl ?_
        refine zzreturn (k := 23) rfl rfl (by first | exact Or.inl rfl | exact Or.inr rfl | omega) rfl ?_
        rw [← hQ]
        refine ⟨?_, rfl, rfl⟩
        unfold btrB
        first
        | (rw [if_pos (by omega), if_pos (by omega), decide_eq_true (by omega)]; rfl)
        | (rw [if_pos (by omega), if_pos (by omega), decide_eq_false (by omega)]; rfl)
        | (rw [if_pos (by omega), if_neg (by omega), decide_eq_true (by omega)]; rfl)
        | (rw [if_pos (by omega), if_neg (by omega), decide_eq_false (by omega)]; rfl)
        | (rw [if_neg (by omega), decide_eq_true (by omega)]; rfl)
        | (rw [if_neg (by omega), decide_eq_false (by omega)]; rfl)
  · skip
    refine ziload_n (k := 4) rfl rfl ?_
    refine zaload_n (k := 5) rfl rfl ?_
    refine zgI 2 (k := 6) rfl ob_58 fl_6_36 rfl fx_58_2 ?_
    refine zicmp_le (k := 7) rfl rfl (fun c5 => ?_) (fun c5 => ?_)
    · skip
      refine ziconst (k := 10) rfl (by decide) ?_
      refine zzreturn (k := 11) rfl rfl (by first | exact Or.inl rfl | exact Or.inr rfl | omega) rfl ?_
      rw [← hQ]
      refine ⟨?_, rfl, rfl⟩
      unfold btrB
      first
      | (rw [if_pos (by omega), if_pos (by omega), decide_eq_true (by omega)]; rfl)
      | (rw [if_pos (by omega), if_pos (by omega), decide_eq_false (by omega)]; rfl)
      | (rw [if_pos (by omega), if_neg (by omega), decide_eq_true (by omega)]; rfl)
      | (rw [if_pos (by omega), if_neg (by omega), decide_eq_false (by omega)]; rfl)
      | (rw [if_neg (by omega), decide_eq_true (by omega)]; rfl)
      | (rw [if_neg (by omega), decide_eq_false (by omega)]; rfl)
    · skip
      refine ziconst (k := 8) rfl (by decide) ?_
      refine zgoto (k := 9) rfl rfl ?_
      refine zzreturn (k := 11) rfl rfl (by first | exact Or.inl rfl | exact Or.inr rfl | omega) rfl ?_
      rw [← hQ]
      refine ⟨?_, rfl, rfl⟩
      unfold btrB
      first
      | (rw [if_pos (by omega), if_pos (by omega), decide_eq_true (by omega)]; rfl)
      | (rw [if_pos (by omega), if_pos (by omega), decide_eq_false (by omega)]; rfl)
      | (rw [if_pos (by omega), if_neg (by omega), decide_eq_true (by omega)]; rfl)
      | (rw [if_pos (by omega), if_neg (by omega), decide_eq_false (by omega)]; rfl)
      | (rw [if_neg (by omega), decide_eq_true (by omega)]; rfl)
      | (rw [if_neg (by omega), decide_eq_false (by omega)]; rfl)
set_option maxHeartbeats 4000000 in
set_option maxRecDepth 20000 in
theorem c_Rounds_compare {Γ : zv_M} {L : Int} {σ : zv_H} {n g v : Int} : zC Γ m_Rounds_compare 1 0 0 (GM L) [zR 58, zI n, zI g, zI v] σ (zP0 (GM L) (fun σ' => ((0 < σ 58 1 ∧ btrB (σ 58 1) (σ 58 2) (σ 58 3) n g v = false) ∧ σ' = σ) ∨ ((σ 58 1 ≤ 0 ∨ btrB (σ 58 1) (σ 58 2) (σ 58 3) n g v = true) ∧ σ' = zcpy (zup (zup (zup σ 58 1 n) 58 2 g) 58 3 v) 60 4 59 4))) := by
  refine zC_of (ls0 := [_, _, _, _]) zm_Rounds_compare (by decide) rfl (Nat.le_of_ble_eq_true rfl) ?_
  generalize hQ : (zP0 (GM L) (fun σ' => ((0 < σ 58 1 ∧ btrB (σ 58 1) (σ 58 2) (σ 58 3) n g v = false) ∧ σ' = σ) ∨ ((σ 58 1 ≤ 0 ∨ btrB (σ 58 1) (σ 58 2) (σ 58 3) n g v = true) ∧ σ' = zcpy (zup (zup (zup σ 58 1 n) 58 2 g) 58 3 v) 60 4 59 4))) = Q
  have cut18 : (σ 58 1 ≤ 0 ∨ btrB (σ 58 1) (σ 58 2) (σ 58 3) n g v = true) → zV Γ m_Rounds_compare 1 0 0 Q (GM L) (0, 0) 18 [some (zR 58), some (zI n), some (zI g), some (zI v)] [] σ := by
    intro  hb
    refine zaload_n (k := 10) rfl rfl ?_
    refine ziload_n (k := 11) rfl rfl ?_
    refine zpI 1 (k := 12) rfl ob_58 fl_6_33 ⟨_, rfl, rfl⟩ rfl (by omega) rfl fx_58_1 ?_
    refine zaload_n (k := 13) rfl rfl ?_
    refine ziload_n (k := 14) rfl rfl ?_
    refine zpI 2 (k := 15) rfl ob_58 fl_6_36 ⟨_, rfl, rfl⟩ rfl (by omega) rfl fx_58_2 ?_
    refine zaload_n (k := 16) rfl rfl ?_
    refine ziload_n (k := 17) rfl rfl ?_
    refine zpI 3 (k := 18) rfl ob_58 fl_6_39 ⟨_, rfl, rfl⟩ rfl (by omega) rfl fx_58_3 ?_
    refine zaload_n (k := 19) rfl rfl ?_
    refine zgF 4 (k := 20) rfl ob_58 fl_6_15 rfl fx_58_4 ?_
    refine zaload_n (k := 21) rfl rfl ?_
    refine zgF 0 (k := 22) rfl ob_58 fl_6_9 rfl fx_58_0 ?_
    refine zfS0 (k := 23) rfl (c_NT_copyRow ar_60 ar_59 (by omega) (by omega) (by omega)) fm_NT_copyRow lk_6_98 rfl rfl (Nat.le_of_ble_eq_true rfl) (by decide) ⟨by decide, by decide⟩ ?_
    refine zreturn (k := 24) rfl rfl rfl ?_
    rw [← hQ]
    exact ⟨rfl, rfl, Or.inr ⟨hb, rfl⟩⟩
  refine zaload_n (k := 0) rfl rfl ?_
  refine zgI 1 (k := 1) rfl ob_58 fl_6_33 rfl fx_58_1 ?_
  refine zif_le (k := 2) rfl rfl (fun c1 => ?_) (fun c1 => ?_)
  · skip
    exact cut18 (by first | exact Or.inl (by omega) | exact Or.inr (zB_t (by assumption)))
  · skip
    refine zaload_n (k := 3) rfl rfl ?_
    refine ziload_n (k := 4) rfl rfl ?_
    refine ziload_n (k := 5) rfl rfl ?_
    refine ziload_n (k := 6) rfl rfl ?_
    refine zfV1 (k := 7) rfl c_Rounds_isBetter fm_Rounds_isBetter lk_6_95 rfl rfl ob_58 ⟨_, rfl, rfl⟩ (Nat.le_of_ble_eq_true rfl) (by decide) ⟨by decide, by decide⟩ ?_
    refine zif_ne (k := 8) rfl rfl (fun c2 => ?_) (fun c2 => ?_)
    · skip
      exact cut18 (by first | exact Or.inl (by omega) | exact Or.inr (zB_t (by assumption)))
    · skip
      refine zreturn (k := 9) rfl rfl rfl ?_
      rw [← hQ]
      refine ⟨rfl, rfl, Or.inl ⟨⟨by omega, ?_⟩, rfl⟩⟩
      cases hh : btrB (σ 58 1) (σ 58 2) (σ 58 3) n g v
      · rfl
      · exact absurd (show zB (btrB (σ 58 1) (σ 58 2) (σ 58 3) n g v) = 0 by assumption) (by rw [hh]; decide)
