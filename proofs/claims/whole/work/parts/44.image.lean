/-! AN IMAGE: what is written -/
def imgH (S : zv_H) : List Int := [S 0 0 / 256, S 0 0 % 256]
def imgC (S : zv_H) : Nat → List Int
  | 0 => []
  | c + 1 => imgC S c ++ [S 1 c, S 2 c / 256, S 2 c % 256, S 3 c]
def imgK (S : zv_H) (m : Int) : Nat → List Int
  | 0 => []
  | c + 1 => imgK S m c ++ [min 255 (wklF S m c + 1)]
def imgP (S : zv_H) (m : Int) : List Int := [S 4 m, S 5 m, S 6 m, S 7 m, S 8 m / 256, S 8 m % 256]
def imgM (S : zv_H) (nc : Nat) : Nat → List Int
  | 0 => []
  | m + 1 => imgM S nc m ++ (imgP S m ++ imgK S m nc)
def imgB (Wm S : zv_H) : List Int := imgH S ++ (imgC S (Wm 0 1).toNat ++ imgM S (Wm 0 1).toNat (Wm 0 3).toNat)
def imS (f : Int → Int) : Nat → Int
  | 0 => 181
  | k + 1 => (5 * imS f k + f k) % 251
theorem imS_b (f : Int → Int) : ∀ k : Nat, 0 ≤ imS f k ∧ imS f k ≤ 250
  | 0 => ⟨by show (0 : Int) ≤ 181; omega, by show (181 : Int) ≤ 250; omega⟩
  | k + 1 => by
    show 0 ≤ (5 * imS f k + f k) % 251 ∧ (5 * imS f k + f k) % 251 ≤ 250
    omega
theorem imS_c {f g : Int → Int} : ∀ k : Nat, (∀ i : Nat, i < k → f i = g i) → imS f k = imS g k
  | 0, _ => rfl
  | k + 1, h => by
    show (5 * imS f k + f k) % 251 = (5 * imS g k + g k) % 251
    rw [imS_c k (fun i hi => h i (by omega)), h k (by omega)]
def lrow (l : List Int) : Int → Int := fun i => l.getD i.toNat 0
def imgL (Wm S : zv_H) : List Int := imgB Wm S ++ [imS (lrow (imgB Wm S)) (imgB Wm S).length]
theorem imgH_l (S : zv_H) : (imgH S).length = 2 := rfl
theorem imgC_l (S : zv_H) : ∀ c : Nat, (imgC S c).length = 4 * c
  | 0 => rfl
  | c + 1 => by
    rw [show imgC S (c + 1) = imgC S c ++ [S 1 c, S 2 c / 256, S 2 c % 256, S 3 c] from rfl, List.length_append, imgC_l S c]
    show 4 * c + 4 = _
    omega
theorem imgK_l (S : zv_H) (m : Int) : ∀ c : Nat, (imgK S m c).length = c
  | 0 => rfl
  | c + 1 => by
    rw [show imgK S m (c + 1) = imgK S m c ++ [min 255 (wklF S m c + 1)] from rfl, List.length_append, imgK_l S m c]
    rfl
theorem imgP_l (S : zv_H) (m : Int) : (imgP S m).length = 6 := rfl
theorem imgM_l (S : zv_H) {nc : Nat} (h : nc ≤ 7) : ∀ m : Nat, (imgM S nc m).length ≤ 13 * m
  | 0 => Nat.le_refl _
  | m + 1 => by
    have ih := imgM_l S h m
    rw [show imgM S nc (m + 1) = imgM S nc m ++ (imgP S m ++ imgK S m nc) from rfl, List.length_append, List.length_append, imgK_l, imgP_l]
    omega
/-- the list l stands in row a, its length at (b, c); else all is as it was -/
def wrt (σ0 σ : zv_H) (a b c : Int) (l : List Int) : Prop := σ b c = (l.length : Int) ∧ (∀ i : Nat, i < l.length → σ a i = l.getD i 0) ∧ ∀ x k, x ≠ a → ¬ (x = b ∧ k = c) → σ x k = σ0 x k
theorem wrt_add {σ0 σ : zv_H} {a b c v : Int} {l : List Int} (hab : a ≠ b) (h : wrt σ0 σ a b c l) : wrt σ0 (zup (zup σ a (σ b c) v) b c (σ b c + 1)) a b c (l ++ [v]) := by
  obtain ⟨h1, h2, h3⟩ := h
  refine ⟨?_, fun i hi => ?_, fun x k q1 q2 => ?_⟩
  · rw [zup_s, h1, List.length_append]; rfl
  · rw [zup_n (by omega)]
    rw [List.length_append] at hi
    have hi2 : i < l.length + 1 := hi
    by_cases e : i = l.length
    · rw [h1, e, zup_s, List.getD_eq_getElem?_getD, List.getElem?_append_right (Nat.le_refl _), Nat.sub_self]; rfl
    · rw [zup_n (by omega), h2 i (by omega), List.getD_eq_getElem?_getD, List.getD_eq_getElem?_getD, List.getElem?_append_left (by omega)]
  · rw [zup_n (by omega), zup_n (by omega)]; exact h3 x k q1 q2
theorem wrt_row {σ0 σ : zv_H} {a b c : Int} {l : List Int} (h : wrt σ0 σ a b c l) : imS (σ a) l.length = imS (lrow l) l.length := imS_c _ (fun i hi => by rw [h.2.1 i hi]; rfl)
set_option maxHeartbeats 4000000 in
set_option maxRecDepth 20000 in
theorem c_Image_add {Γ : zv_M} {L : Int} {σ : zv_H} {v : Int} (h : 0 ≤ σ 284 1 ∧ σ 284 1 < 109) : zC Γ m_Image_add 1 0 0 (GM L) [zR 284, zI v] σ (zFn none (GM L) (zup (zup σ 285 (σ 284 1) v) 284 1 (σ 284 1 + 1))) := by
  refine zC_of (ls0 := [_, _]) zm_Image_add (by decide) rfl (Nat.le_of_ble_eq_true rfl) ?_
  generalize hQ : (zFn none (GM L) (zup (zup σ 285 (σ 284 1) v) 284 1 (σ 284 1 + 1))) = Q
  refine zaload_n (k := 0) rfl rfl ?_
  refine zgF 0 (k := 1) rfl ob_284 fl_2_11 rfl fx_284_0 ?_
  refine zaload_n (k := 2) rfl rfl ?_
  refine zgI 1 (k := 3) rfl ob_284 fl_2_15 rfl fx_284_1 ?_
  refine ziload_n (k := 4) rfl rfl ?_
  refine zfS0 (k := 5) rfl (c_NT_put ar_285 (by omega)) fm_NT_put lk_2_80 rfl rfl (Nat.le_of_ble_eq_true rfl) (by decide) ⟨by decide, by decide⟩ ?_
  (first | rw [zpt_in (by omega)] | skip)
  refine zaload_n (k := 6) rfl rfl ?_
  refine zdup (k := 7) rfl rfl ?_
  refine zgI 1 (k := 8) rfl ob_284 fl_2_15 rfl fx_284_1 ?_
  rw [zup_n (by omega)]
  refine ziconst (k := 9) rfl (by decide) ?_
  refine ziaddB (k := 10) rfl (by omega) ?_
  refine zpI 1 (k := 11) rfl ob_284 fl_2_15 ⟨_, rfl, rfl⟩ rfl (by omega) rfl fx_284_1 ?_
  refine zreturn (k := 12) rfl rfl rfl ?_
  rw [← hQ]
  exact ⟨rfl, rfl, rfl⟩
theorem k_iadd {Γ : zv_M} {L : Int} {σ0 σ : zv_H} {v : Int} {l : List Int} (h : wrt σ0 σ 285 284 1 l) (hl : l.length ≤ 108) : zC Γ m_Image_add 1 0 0 (GM L) [zR 284, zI v] σ (zP0 (GM L) (fun σ' => wrt σ0 σ' 285 284 1 (l ++ [v]))) := by
  refine zC_mono (fun q G' σ' hq => ?_) (c_Image_add (by rw [h.1]; omega))
  obtain ⟨rfl, rfl, rfl⟩ := hq
  exact ⟨rfl, rfl, wrt_add (by omega) h⟩
set_option maxHeartbeats 4000000 in
set_option maxRecDepth 20000 in
theorem c_Image_addTwo {Γ : zv_M} {L : Int} {σ0 σ : zv_H} {v : Int} {l : List Int} (h0 : wrt σ0 σ 285 284 1 l) (hl : l.length ≤ 107) (hv : 0 ≤ v ∧ v ≤ 65535) : zC Γ m_Image_addTwo 2 0 0 (GM L) [zR 284, zI v] σ (zP0 (GM L) (fun σ' => wrt σ0 σ' 285 284 1 (l ++ [v / 256, v % 256]))) := by
  refine zC_of (ls0 := [_, _]) zm_Image_addTwo (by decide) rfl (Nat.le_of_ble_eq_true rfl) ?_
  generalize hQ : (zP0 (GM L) (fun σ' => wrt σ0 σ' 285 284 1 (l ++ [v / 256, v % 256]))) = Q
  refine zaload_n (k := 0) rfl rfl ?_
  refine ziload_n (k := 1) rfl rfl ?_
  refine zsipush (k := 2) rfl rfl ?_
  refine zidivP (k := 3) rfl (by omega) ?_
  refine zpV0 (k := 4) rfl (k_iadd h0 (by omega)) fm_Image_add lk_2_44 rfl rfl ob_284 ⟨_, rfl, rfl⟩ (Nat.le_of_ble_eq_true rfl) (by decide) ⟨by decide, by decide⟩ (fun σn hh => ?_)
  clear h0
  have h0 := hh
  clear hh
  refine zaload_n (k := 5) rfl rfl ?_
  refine ziload_n (k := 6) rfl rfl ?_
  refine zsipush (k := 7) rfl rfl ?_
  refine ziremP (k := 8) rfl (by omega) ?_
  refine zpV0 (k := 9) rfl (k_iadd h0 (by first | omega | (simp only [List.length_append, List.length_cons, List.length_nil, imgH_l, imgC_l, imgP_l, imgK_l]; omega))) fm_Image_add lk_2_44 rfl rfl ob_284 ⟨_, rfl, rfl⟩ (Nat.le_of_ble_eq_true rfl) (by decide) ⟨by decide, by decide⟩ (fun σn hh => ?_)
  clear h0
  have h0 := hh
  clear hh
  refine zreturn (k := 10) rfl rfl rfl ?_
  rw [← hQ]
  exact ⟨rfl, rfl, by rw [List.append_assoc] at h0; exact h0⟩
def lb (l : List Int) : Prop := ∀ v ∈ l, 0 ≤ v ∧ v ≤ 255
theorem lb_app {l r : List Int} (h1 : lb l) (h2 : lb r) : lb (l ++ r) := fun v hv => (List.mem_append.mp hv).elim (h1 v) (h2 v)
theorem lb_cons {v : Int} {r : List Int} (h1 : 0 ≤ v ∧ v ≤ 255) (h2 : lb r) : lb (v :: r) := fun u hu => (List.mem_cons.mp hu).elim (fun e => by rw [e]; exact h1) (h2 u)
theorem lb_nil : lb [] := fun v hv => by cases hv
theorem lb_at {l : List Int} (h : lb l) (i : Nat) : 0 ≤ l.getD i 0 ∧ l.getD i 0 ≤ 255 := by
  rw [List.getD_eq_getElem?_getD]
  by_cases hi : i < l.length
  · rw [List.getElem?_eq_getElem hi]; exact h _ (List.getElem_mem hi)
  · rw [List.getElem?_eq_none (by omega)]; exact ⟨Int.le_refl _, by show (0 : Int) ≤ 255; omega⟩
theorem imgB_lb {Wm S : zv_H} (hSI : SI (Wm 0 1) (Wm 0 3) S) (hWI : WI Wm) : lb (imgB Wm S) := by
  obtain ⟨b0, b11, b12, bc, bm, bl, br⟩ := hSI
  have w1 := hWI.1
  have w3 := hWI.2.2.1
  have hc : ∀ c : Nat, (c : Int) ≤ Wm 0 1 → lb (imgC S c) := by
    intro c
    induction c with
    | zero => intro _; exact lb_nil
    | succ c ih =>
      intro h
      have b := bc c (by omega) (by omega)
      exact lb_app (ih (by omega)) (lb_cons (by omega) (lb_cons (by omega) (lb_cons (by omega) (lb_cons (by omega) lb_nil))))
  have hk : ∀ (m : Int) (c : Nat), lb (imgK S m c) := by
    intro m c
    induction c with
    | zero => exact lb_nil
    | succ c ih => exact lb_app ih (lb_cons (by have : -1 ≤ wklF S m c := by unfold wklF; split <;> omega
                                                omega) lb_nil)
  have hm : ∀ m : Nat, (m : Int) ≤ Wm 0 3 → lb (imgM S (Wm 0 1).toNat m) := by
    intro m
    induction m with
    | zero => intro _; exact lb_nil
    | succ m ih =>
      intro h
      have b := bm m (by omega) (by omega)
      exact lb_app (ih (by omega)) (lb_app (lb_cons (by omega) (lb_cons (by omega) (lb_cons (by omega) (lb_cons (by omega) (lb_cons (by omega) (lb_cons (by omega) lb_nil)))))) (hk _ _))
  exact lb_app (lb_cons (by omega) (lb_cons (by omega) lb_nil)) (lb_app (hc _ (by omega)) (hm _ (by omega)))
theorem imgB_b {Wm S : zv_H} (hSI : SI (Wm 0 1) (Wm 0 3) S) (hWI : WI Wm) (i : Nat) : 0 ≤ (imgB Wm S).getD i 0 ∧ (imgB Wm S).getD i 0 ≤ 255 := lb_at (imgB_lb hSI hWI) i
theorem wrt_S {σ0 σ : zv_H} {l : List Int} {S : zv_H} {a b c : Int} (ha : 60 < a ∧ 60 < b) (h : wrt σ0 σ a b c l) (hS : vw 10 σ0 30 = S) : vw 10 σ 30 = S := by
  rw [← hS]
  exact vw_eq (fun x k h1 h2 => h.2.2 x k (by omega) (by omega)) (by omega)
theorem wrt_W {σ0 σ : zv_H} {l : List Int} {Wm : zv_H} {w a b c : Int} (ha : 60 < a ∧ 60 < b) (hw : w ∈ wrL) (h : wrt σ0 σ a b c l) (hW : vw 12 σ0 w = Wm) : vw 12 σ w = Wm := by
  have hf := wr_far hw
  rw [← hW]
  exact vw_eq (fun x k h1 h2 => h.2.2 x k (by omega) (by omega)) (by omega)
set_option maxHeartbeats 4000000 in
set_option maxRecDepth 20000 in
theorem c_Image_write {Γ : zv_M} {L : Int} {w : Int} {σ S Wm : zv_H} (hw : w ∈ wrL) (hW : vw 12 σ w = Wm) (hS : vw 10 σ 30 = S) (hSI : SI (Wm 0 1) (Wm 0 3) S) (hWI : WI Wm) : zC Γ m_Image_write 4 0 0 (GM L) [zR 284, zR w, zR 30] σ (zP0 (GM L) (fun σ' => wrt σ σ' 285 284 1 (imgL Wm S))) := by
  refine zC_of (ls0 := [_, _, _, _, _]) zm_Image_write (by decide) rfl (Nat.le_of_ble_eq_true rfl) ?_
  generalize hQ : (zP0 (GM L) (fun σ' => wrt σ σ' 285 284 1 (imgL Wm S))) = Q
  have ha : (30 : Int) ∈ stL := by decide
  have hSI0 := hSI
  have hWI0 := hWI
  obtain ⟨b0, b11, b12, bc, bm, bl, br⟩ := hSI
  obtain ⟨w1, w2, w3, w4, w5, w6, w7, w8, w9, w10⟩ := hWI
  have hnc : (Wm 0 1).toNat ≤ 7 := by omega
  have hnm : (Wm 0 3).toNat ≤ 6 := by omega
  refine zaload_n (k := 0) rfl rfl ?_
  refine ziconst (k := 1) rfl (by decide) ?_
  refine zpI 1 (k := 2) rfl ob_284 fl_2_15 ⟨_, rfl, rfl⟩ rfl (by omega) rfl fx_284_1 ?_
  have h0 : wrt σ (zup σ 284 1 0) 285 284 1 [] := ⟨by rw [zup_s]; rfl, fun i hi => absurd hi (Nat.not_lt_zero _), fun x k q1 q2 => zup_n q2⟩
  refine zaload_n (k := 3) rfl rfl ?_
  refine zaload_n (k := 4) rfl rfl ?_
  refine zgI 0 (k := 5) rfl ob_30 fl_2_23 rfl fx_30_0 ?_
  rw [show zup σ 284 1 0 30 = S 0 from st_e0 (wrt_S (by omega) h0 hS)]
  refine zpV0 (k := 6) rfl (c_Image_addTwo h0 (by first | omega | (simp only [List.length_append, List.length_cons, List.length_nil, imgH_l, imgC_l, imgP_l, imgK_l]; omega)) (by omega)) fm_Image_addTwo lk_2_28 rfl rfl ob_284 ⟨_, rfl, rfl⟩ (Nat.le_of_ble_eq_true rfl) (by decide) ⟨by decide, by decide⟩ (fun σn hh => ?_)
  clear h0
  have h0 := hh
  clear hh
  refine ziconst (k := 7) rfl (by decide) ?_
  refine zistore_n (k := 8) (ls' := [_, _, _, _, _]) rfl (Nat.le_of_ble_eq_true rfl) rfl ?_
  have lp15 : ∀ (g : Nat) (j : Nat) (σn : zv_H), ((Wm 0 1).toNat - j) < g → ((j : Int) ≤ Wm 0 1) → ((wrt σ σn 285 284 1 (imgH S ++ imgC S j))) → zV Γ m_Image_write 4 0 0 Q (GM L) (0, 0) 15 [some (zR 284), some (zR w), some (zR 30), some (zI j), none] [] σn := by
    intro g
    induction g with
    | zero => intro j σn hg; exact absurd hg (Nat.not_lt_zero _)
    | succ g ih15 =>
      intro j σn hg hj h0
      refine ziload_n (k := 9) rfl rfl ?_
      refine zaload_n (k := 10) rfl rfl ?_
      refine zgI 1 (k := 11) rfl (wr_ob hw) fl_2_32 rfl (wr_fx_1 hw) ?_
      rw [show σn w = Wm 0 from st_e0 (wrt_W (by omega) hw h0 hW)]
      refine zicmp_ge (k := 12) rfl rfl (fun c1 => ?_) (fun c1 => ?_)
      · skip
        rw [show j = (Wm 0 1).toNat by omega] at h0
        refine ziconst (k := 33) rfl (by decide) ?_
        refine zistore_n (k := 34) (ls' := [_, _, _, _, _]) rfl (Nat.le_of_ble_eq_true rfl) rfl ?_
        have lp67 : ∀ (g : Nat) (m : Nat) (σn : zv_H), ((Wm 0 3).toNat - m) < g → ((m : Int) ≤ Wm 0 3) → ((wrt σ σn 285 284 1 (imgH S ++ (imgC S (Wm 0 1).toNat ++ imgM S (Wm 0 1).toNat m)))) → zV Γ m_Image_write 4 0 0 Q (GM L) (0, 0) 67 [some (zR 284), some (zR w), some (zR 30), some (zI m), none] [] σn := by
          intro g
          induction g with
          | zero => intro m σn hg; exact absurd hg (Nat.not_lt_zero _)
          | succ g ih67 =>
            intro m σn hg hm h0
            have ml := imgM_l S hnc m
            refine ziload_n (k := 35) rfl rfl ?_
            refine zaload_n (k := 36) rfl rfl ?_
            refine zgI 3 (k := 37) rfl (wr_ob hw) fl_2_53 rfl (wr_fx_3 hw) ?_
            rw [show σn w = Wm 0 from st_e0 (wrt_W (by omega) hw h0 hW)]
            refine zicmp_ge (k := 38) rfl rfl (fun c2 => ?_) (fun c2 => ?_)
            · skip
              rw [show m = (Wm 0 3).toNat by omega] at h0
              refine zsipush (k := 89) rfl rfl ?_
              refine zistore_n (k := 90) (ls' := [_, _, _, _, _]) rfl (Nat.le_of_ble_eq_true rfl) rfl ?_
              refine ziconst (k := 91) rfl (by decide) ?_
              refine zistore (k := 92) (ls' := [_, _, _, _, _]) rfl (Nat.le_of_ble_eq_true rfl) rfl ?_
              have h0 : (wrt σ σn 285 284 1 (imgB Wm S)) := h0
              have bl2 : (imgB Wm S).length ≤ 108 := by
                unfold imgB
                have := imgM_l S hnc (Wm 0 3).toNat
                simp only [List.length_append, imgH_l, imgC_l]
                omega
              have bpos : ∀ i : Nat, i < (imgB Wm S).length → 0 ≤ σn 285 i ∧ σn 285 i ≤ 255 := fun i hi => by rw [h0.2.1 i hi]; exact imgB_b hSI0 hWI0 i
              have lp185 : ∀ (g : Nat) (k : Nat), ((imgB Wm S).length - k) < g → (k ≤ (imgB Wm S).length) → zV Γ m_Image_write 4 0 0 Q (GM L) (0, 0) 185 [some (zR 284), some (zR w), some (zR 30), some (zI (imS (σn 285) k)), some (zI k)] [] σn := by
                intro g
                induction g with
                | zero => intro k hg; exact absurd hg (Nat.not_lt_zero _)
                | succ g ih185 =>
                  intro k hg hk
                  have sb := imS_b (σn 285) k
                  refine ziload (k := 93) rfl rfl ?_
                  refine zaload_n (k := 94) rfl rfl ?_
                  refine zgI 1 (k := 95) rfl ob_284 fl_2_15 rfl fx_284_1 ?_
                  rw [h0.1]
                  refine zicmp_ge (k := 96) rfl rfl (fun c3 => ?_) (fun c3 => ?_)
                  · skip
                    rw [show k = (imgB Wm S).length by omega, wrt_row h0]
                    refine zaload_n (k := 110) rfl rfl ?_
                    refine ziload_n (k := 111) rfl rfl ?_
                    refine zpV0 (k := 112) rfl (k_iadd h0 (by first | omega | (simp only [List.length_append, List.length_cons, List.length_nil, imgH_l, imgC_l, imgP_l, imgK_l]; omega))) fm_Image_add lk_2_44 rfl rfl ob_284 ⟨_, rfl, rfl⟩ (Nat.le_of_ble_eq_true rfl) (by decide) ⟨by decide, by decide⟩ (fun σn hh => ?_)
                    clear h0
                    have h0 := hh
                    clear hh
                    refine zreturn (k := 113) rfl rfl rfl ?_
                    rw [← hQ]
                    exact ⟨rfl, rfl, h0⟩
                  · skip
                    refine ziconst (k := 97) rfl (by decide) ?_
                    refine ziload_n (k := 98) rfl rfl ?_
                    refine zimulB (k := 99) rfl (by omega) ?_
                    refine zaload_n (k := 100) rfl rfl ?_
                    refine zgF 0 (k := 101) rfl ob_284 fl_2_11 rfl fx_284_0 ?_
                    refine ziload (k := 102) rfl rfl ?_
                    refine zfS1 (k := 103) rfl (c_NT_at ar_285) fm_NT_at lk_2_40 rfl rfl (Nat.le_of_ble_eq_true rfl) (by decide) ⟨by decide, by decide⟩ ?_
                    rw [zat_in (by omega)]
                    refine ziaddB (k := 104) rfl (by have := bpos k (by omega); omega) ?_
                    refine zsipush (k := 105) rfl rfl ?_
                    refine ziremP (k := 106) rfl (by have := bpos k (by omega); omega) ?_
                    refine zistore_n (k := 107) (ls' := [_, _, _, _, _]) rfl (Nat.le_of_ble_eq_true rfl) rfl ?_
                    refine ziincB (k := 108) (ls' := [_, _, _, _, _]) rfl rfl (by decide) (by omega) rfl ?_
                    refine zgoto (k := 109) rfl rfl ?_
                    exact ih185 (k + 1) (by omega) (by omega)
              exact lp185 _ 0 (Nat.lt_succ_self _) (by omega)
            · skip
              refine zaload_n (k := 39) rfl rfl ?_
              refine zaload_n (k := 40) rfl rfl ?_
              refine zgF 4 (k := 41) rfl ob_30 fl_2_56 rfl fx_30_4 ?_
              refine ziload_n (k := 42) rfl rfl ?_
              refine zfS1 (k := 43) rfl (c_NT_at ar_34) fm_NT_at lk_2_40 rfl rfl (Nat.le_of_ble_eq_true rfl) (by decide) ⟨by decide, by decide⟩ ?_
              rw [zat_in (by omega), show σn 34 = S 4 from st_e (f := 4) (wrt_S (by omega) h0 hS) (by omega)]
              refine zpV0 (k := 44) rfl (k_iadd h0 (by first | omega | (simp only [List.length_append, List.length_cons, List.length_nil, imgH_l, imgC_l, imgP_l, imgK_l]; omega))) fm_Image_add lk_2_44 rfl rfl ob_284 ⟨_, rfl, rfl⟩ (Nat.le_of_ble_eq_true rfl) (by decide) ⟨by decide, by decide⟩ (fun σn hh => ?_)
              clear h0
              have h0 := hh
              clear hh
              refine zaload_n (k := 45) rfl rfl ?_
              refine zaload_n (k := 46) rfl rfl ?_
              refine zgF 5 (k := 47) rfl ob_30 fl_2_59 rfl fx_30_5 ?_
              refine ziload_n (k := 48) rfl rfl ?_
              refine zfS1 (k := 49) rfl (c_NT_at ar_35) fm_NT_at lk_2_40 rfl rfl (Nat.le_of_ble_eq_true rfl) (by decide) ⟨by decide, by decide⟩ ?_
              rw [zat_in (by omega), show σn 35 = S 5 from st_e (f := 5) (wrt_S (by omega) h0 hS) (by omega)]
              refine zpV0 (k := 50) rfl (k_iadd h0 (by first | omega | (simp only [List.length_append, List.length_cons, List.length_nil, imgH_l, imgC_l, imgP_l, imgK_l]; omega))) fm_Image_add lk_2_44 rfl rfl ob_284 ⟨_, rfl, rfl⟩ (Nat.le_of_ble_eq_true rfl) (by decide) ⟨by decide, by decide⟩ (fun σn hh => ?_)
              clear h0
              have h0 := hh
              clear hh
              refine zaload_n (k := 51) rfl rfl ?_
              refine zaload_n (k := 52) rfl rfl ?_
              refine zgF 6 (k := 53) rfl ob_30 fl_2_62 rfl fx_30_6 ?_
              refine ziload_n (k := 54) rfl rfl ?_
              refine zfS1 (k := 55) rfl (c_NT_at ar_36) fm_NT_at lk_2_40 rfl rfl (Nat.le_of_ble_eq_true rfl) (by decide) ⟨by decide, by decide⟩ ?_
              rw [zat_in (by omega), show σn 36 = S 6 from st_e (f := 6) (wrt_S (by omega) h0 hS) (by omega)]
              refine zpV0 (k := 56) rfl (k_iadd h0 (by first | omega | (simp only [List.length_append, List.length_cons, List.length_nil, imgH_l, imgC_l, imgP_l, imgK_l]; omega))) fm_Image_add lk_2_44 rfl rfl ob_284 ⟨_, rfl, rfl⟩ (Nat.le_of_ble_eq_true rfl) (by decide) ⟨by decide, by decide⟩ (fun σn hh => ?_)
              clear h0
              have h0 := hh
              clear hh
              refine zaload_n (k := 57) rfl rfl ?_
              refine zaload_n (k := 58) rfl rfl ?_
              refine zgF 7 (k := 59) rfl ob_30 fl_2_65 rfl fx_30_7 ?_
              refine ziload_n (k := 60) rfl rfl ?_
              refine zfS1 (k := 61) rfl (c_NT_at ar_37) fm_NT_at lk_2_40 rfl rfl (Nat.le_of_ble_eq_true rfl) (by decide) ⟨by decide, by decide⟩ ?_
              rw [zat_in (by omega), show σn 37 = S 7 from st_e (f := 7) (wrt_S (by omega) h0 hS) (by omega)]
              refine zpV0 (k := 62) rfl (k_iadd h0 (by first | omega | (simp only [List.length_append, List.length_cons, List.length_nil, imgH_l, imgC_l, imgP_l, imgK_l]; omega))) fm_Image_add lk_2_44 rfl rfl ob_284 ⟨_, rfl, rfl⟩ (Nat.le_of_ble_eq_true rfl) (by decide) ⟨by decide, by decide⟩ (fun σn hh => ?_)
              clear h0
              have h0 := hh
              clear hh
              refine zaload_n (k := 63) rfl rfl ?_
              refine zaload_n (k := 64) rfl rfl ?_
              refine zgF 8 (k := 65) rfl ob_30 fl_2_68 rfl fx_30_8 ?_
              refine ziload_n (k := 66) rfl rfl ?_
              refine zfS1 (k := 67) rfl (c_NT_at ar_38) fm_NT_at lk_2_40 rfl rfl (Nat.le_of_ble_eq_true rfl) (by decide) ⟨by decide, by decide⟩ ?_
              rw [zat_in (by omega), show σn 38 = S 8 from st_e (f := 8) (wrt_S (by omega) h0 hS) (by omega)]
              refine zpV0 (k := 68) rfl (c_Image_addTwo h0 (by first | omega | (simp only [List.length_append, List.length_cons, List.length_nil, imgH_l, imgC_l, imgP_l, imgK_l]; omega)) (by have := bm m (by omega) (by omega); omega)) fm_Image_addTwo lk_2_28 rfl rfl ob_284 ⟨_, rfl, rfl⟩ (Nat.le_of_ble_eq_true rfl) (by decide) ⟨by decide, by decide⟩ (fun σn hh => ?_)
              clear h0
              have h0 := hh
              clear hh
              refine ziconst (k := 69) rfl (by decide) ?_
              refine zistore (k := 70) (ls' := [_, _, _, _, _]) rfl (Nat.le_of_ble_eq_true rfl) rfl ?_
              have lp138 : ∀ (g : Nat) (c : Nat) (σn : zv_H), ((Wm 0 1).toNat - c) < g → ((c : Int) ≤ Wm 0 1) → ((wrt σ σn 285 284 1 (imgH S ++ (imgC S (Wm 0 1).toNat ++ (imgM S (Wm 0 1).toNat m ++ (imgP S m ++ imgK S m c)))))) → zV Γ m_Image_write 4 0 0 Q (GM L) (0, 0) 138 [some (zR 284), some (zR w), some (zR 30), some (zI m), some (zI c)] [] σn := by
                intro g
                induction g with
                | zero => intro c σn hg; exact absurd hg (Nat.not_lt_zero _)
                | succ g ih138 =>
                  intro c σn hg hc h0
                  refine ziload (k := 71) rfl rfl ?_
                  refine zaload_n (k := 72) rfl rfl ?_
                  refine zgI 1 (k := 73) rfl (wr_ob hw) fl_2_32 rfl (wr_fx_1 hw) ?_
                  rw [show σn w = Wm 0 from st_e0 (wrt_W (by omega) hw h0 hW)]
                  refine zicmp_ge (k := 74) rfl rfl (fun c4 => ?_) (fun c4 => ?_)
                  · skip
                    rw [show c = (Wm 0 1).toNat by omega] at h0
                    refine ziincB (k := 87) (ls' := [_, _, _, _, _]) rfl rfl (by decide) (by omega) rfl ?_
                    refine zgoto (k := 88) rfl rfl ?_
                    refine zforget (ls' := [_, _, _, _, _]) 4 rfl ?_
                    exact ih67 (m + 1) _ (by omega) (by omega) h0
                  · skip
                    refine zaload_n (k := 75) rfl rfl ?_
                    refine zsipush (k := 76) rfl rfl ?_
                    refine zaload_n (k := 77) rfl rfl ?_
                    refine ziload_n (k := 78) rfl rfl ?_
                    refine ziload (k := 79) rfl rfl ?_
                    refine zfV1 (k := 80) rfl (k_wtl ha (wrt_S (by omega) h0 hS) (by omega) (by omega) b0 (bl _ (by omega) (by omega)).1) fm_State_weeksToLetter lk_2_71 rfl rfl ob_30 ⟨_, rfl, rfl⟩ (Nat.le_of_ble_eq_true rfl) (by decide) ⟨by decide, by decide⟩ ?_
                    have wb : -1 ≤ wklF S m c ∧ wklF S m c ≤ 1000000 := by unfold wklF; split <;> omega
                    refine ziconst (k := 81) rfl (by decide) ?_
                    refine ziaddB (k := 82) rfl (by omega) ?_
                    refine zfS1 (k := 83) rfl c_J_minI fm_J_minI lk_2_75 rfl rfl (Nat.le_of_ble_eq_true rfl) (by decide) ⟨by decide, by decide⟩ ?_
                    refine zpV0 (k := 84) rfl (k_iadd h0 (by first | omega | (simp only [List.length_append, List.length_cons, List.length_nil, imgH_l, imgC_l, imgP_l, imgK_l]; omega))) fm_Image_add lk_2_44 rfl rfl ob_284 ⟨_, rfl, rfl⟩ (Nat.le_of_ble_eq_true rfl) (by decide) ⟨by decide, by decide⟩ (fun σn hh => ?_)
                    clear h0
                    have h0 := hh
                    clear hh
                    refine ziincB (k := 85) (ls' := [_, _, _, _, _]) rfl rfl (by decide) (by omega) rfl ?_
                    refine zgoto (k := 86) rfl rfl ?_
                    simp only [List.append_assoc, List.cons_append, List.nil_append] at h0
                    exact ih138 (c + 1) _ (by omega) (by omega) h0
              simp only [List.append_assoc, List.cons_append, List.nil_append] at h0
              exact lp138 _ 0 _ (Nat.lt_succ_self _) (by omega) h0
        exact lp67 _ 0 _ (Nat.lt_succ_self _) (by omega) (by rw [show imgM S (Wm 0 1).toNat 0 = [] from rfl, List.append_nil]; exact h0)
      · skip
        refine zaload_n (k := 13) rfl rfl ?_
        refine zaload_n (k := 14) rfl rfl ?_
        refine zgF 1 (k := 15) rfl ob_30 fl_2_37 rfl fx_30_1 ?_
        refine ziload_n (k := 16) rfl rfl ?_
        refine zfS1 (k := 17) rfl (c_NT_at ar_31) fm_NT_at lk_2_40 rfl rfl (Nat.le_of_ble_eq_true rfl) (by decide) ⟨by decide, by decide⟩ ?_
        rw [zat_in (by omega), show σn 31 = S 1 from st_e (f := 1) (wrt_S (by omega) h0 hS) (by omega)]
        refine zpV0 (k := 18) rfl (k_iadd h0 (by first | omega | (simp only [List.length_append, List.length_cons, List.length_nil, imgH_l, imgC_l, imgP_l, imgK_l]; omega))) fm_Image_add lk_2_44 rfl rfl ob_284 ⟨_, rfl, rfl⟩ (Nat.le_of_ble_eq_true rfl) (by decide) ⟨by decide, by decide⟩ (fun σn hh => ?_)
        clear h0
        have h0 := hh
        clear hh
        refine zaload_n (k := 19) rfl rfl ?_
        refine zaload_n (k := 20) rfl rfl ?_
        refine zgF 2 (k := 21) rfl ob_30 fl_2_47 rfl fx_30_2 ?_
        refine ziload_n (k := 22) rfl rfl ?_
        refine zfS1 (k := 23) rfl (c_NT_at ar_32) fm_NT_at lk_2_40 rfl rfl (Nat.le_of_ble_eq_true rfl) (by decide) ⟨by decide, by decide⟩ ?_
        rw [zat_in (by omega), show σn 32 = S 2 from st_e (f := 2) (wrt_S (by omega) h0 hS) (by omega)]
        refine zpV0 (k := 24) rfl (c_Image_addTwo h0 (by first | omega | (simp only [List.length_append, List.length_cons, List.length_nil, imgH_l, imgC_l, imgP_l, imgK_l]; omega)) (by have := bc j (by omega) (by omega); omega)) fm_Image_addTwo lk_2_28 rfl rfl ob_284 ⟨_, rfl, rfl⟩ (Nat.le_of_ble_eq_true rfl) (by decide) ⟨by decide, by decide⟩ (fun σn hh => ?_)
        clear h0
        have h0 := hh
        clear hh
        refine zaload_n (k := 25) rfl rfl ?_
        refine zaload_n (k := 26) rfl rfl ?_
        refine zgF 3 (k := 27) rfl ob_30 fl_2_50 rfl fx_30_3 ?_
        refine ziload_n (k := 28) rfl rfl ?_
        refine zfS1 (k := 29) rfl (c_NT_at ar_33) fm_NT_at lk_2_40 rfl rfl (Nat.le_of_ble_eq_true rfl) (by decide) ⟨by decide, by decide⟩ ?_
        rw [zat_in (by omega), show σn 33 = S 3 from st_e (f := 3) (wrt_S (by omega) h0 hS) (by omega)]
        refine zpV0 (k := 30) rfl (k_iadd h0 (by first | omega | (simp only [List.length_append, List.length_cons, List.length_nil, imgH_l, imgC_l, imgP_l, imgK_l]; omega))) fm_Image_add lk_2_44 rfl rfl ob_284 ⟨_, rfl, rfl⟩ (Nat.le_of_ble_eq_true rfl) (by decide) ⟨by decide, by decide⟩ (fun σn hh => ?_)
        clear h0
        have h0 := hh
        clear hh
        refine ziincB (k := 31) (ls' := [_, _, _, _, _]) rfl rfl (by decide) (by omega) rfl ?_
        refine zgoto (k := 32) rfl rfl ?_
        simp only [List.append_assoc, List.cons_append, List.nil_append] at h0
        exact ih15 (j + 1) _ (by omega) (by omega) h0
  exact lp15 _ 0 _ (Nat.lt_succ_self _) (by omega) h0
set_option maxHeartbeats 4000000 in
set_option maxRecDepth 20000 in
theorem c_NT_image {Γ : zv_M} {L : Int} {w : Int} {σ S Wm : zv_H} (h8 : σ 1 8 = w) (hw : w ∈ wrL) (hW : vw 12 σ w = Wm) (hS : vw 10 σ 30 = S) (hSI : SI (Wm 0 1) (Wm 0 3) S) (hWI : WI Wm)  : zC Γ m_NT_image 5 0 0 (GM L) [zR 1] σ (zPI (GM L) (fun z σ' => z = ((imgL Wm S).length : Int) ∧ wrt σ σ' 285 284 1 (imgL Wm S))) := by
  refine zC_of (ls0 := [_]) zm_NT_image (by decide) rfl (Nat.le_of_ble_eq_true rfl) ?_
  generalize hQ : (zPI (GM L) (fun z σ' => z = ((imgL Wm S).length : Int) ∧ wrt σ σ' 285 284 1 (imgL Wm S))) = Q
  have ha : (30 : Int) ∈ stL := by decide
  have e30 : σ 30 = S 0 := st_e0 hS
  have e31 : σ 31 = S 1 := st_e (f := 1) hS (by omega)
  have e32 : σ 32 = S 2 := st_e (f := 2) hS (by omega)
  have e33 : σ 33 = S 3 := st_e (f := 3) hS (by omega)
  have e34 : σ 34 = S 4 := st_e (f := 4) hS (by omega)
  have e35 : σ 35 = S 5 := st_e (f := 5) hS (by omega)
  have e36 : σ 36 = S 6 := st_e (f := 6) hS (by omega)
  have e37 : σ 37 = S 7 := st_e (f := 7) hS (by omega)
  have e38 : σ 38 = S 8 := st_e (f := 8) hS (by omega)
  have e39 : σ 39 = S 9 := st_e (f := 9) hS (by omega)
  have e40 : σ 40 = S 10 := st_e (f := 10) hS (by omega)
  have ew0 : σ w = Wm 0 := st_e0 hW
  have ew1 : σ (w + 1) = Wm 1 := st_e (f := 1) hW (by omega)
  have ew2 : σ (w + 2) = Wm 2 := st_e (f := 2) hW (by omega)
  have ew3 : σ (w + 3) = Wm 3 := st_e (f := 3) hW (by omega)
  have ew4 : σ (w + 4) = Wm 4 := st_e (f := 4) hW (by omega)
  have ew5 : σ (w + 5) = Wm 5 := st_e (f := 5) hW (by omega)
  have ew6 : σ (w + 6) = Wm 6 := st_e (f := 6) hW (by omega)
  have ew7 : σ (w + 7) = Wm 7 := st_e (f := 7) hW (by omega)
  have ew8 : σ (w + 8) = Wm 8 := st_e (f := 8) hW (by omega)
  have ew9 : σ (w + 9) = Wm 9 := st_e (f := 9) hW (by omega)
  have ew10 : σ (w + 10) = Wm 10 := st_e (f := 10) hW (by omega)
  have ew11 : σ (w + 11) = Wm 11 := st_e (f := 11) hW (by omega)
  have ew12 : σ (w + 12) = Wm 12 := st_e (f := 12) hW (by omega)
  have hSI0 := hSI
  have hWI0 := hWI
  obtain ⟨b0, b11, b12, bc, bm, bl, br⟩ := hSI
  obtain ⟨w1, w2, w3, w4, w5, w6, w7, w8, w9, w10⟩ := hWI
  refine zaload_n (k := 0) rfl rfl ?_
  refine zgF 5 (k := 1) rfl ob_1 fl_11_73 rfl fx_1_5 ?_
  refine zaload_n (k := 2) rfl rfl ?_
  refine zgR 8 (k := 3) rfl ob_1 fl_11_19 rfl fx_1_8 ?_
  first | rw [h8] | rw [h0.2 1 8 (by omega) (by omega) (by omega), h8]
  refine zaload_n (k := 4) rfl rfl ?_
  refine zgF 6 (k := 5) rfl ob_1 fl_11_29 rfl fx_1_6 ?_
  refine zpV0 (k := 6) rfl (c_Image_write hw hW hS hSI0 hWI0) fm_Image_write lk_11_292 rfl rfl ob_284 ⟨_, rfl, rfl⟩ (Nat.le_of_ble_eq_true rfl) (by decide) ⟨by decide, by decide⟩ (fun σn h0 => ?_)
  refine zaload_n (k := 7) rfl rfl ?_
  refine zgF 5 (k := 8) rfl ob_1 fl_11_73 rfl fx_1_5 ?_
  refine zgI 1 (k := 9) rfl ob_284 fl_11_295 rfl fx_284_1 ?_
  try simp only [e30, e31, e32, e33, e34, e35, e36, e37, e38, e39, e40, ew0, ew1, ew2, ew3, ew4, ew5, ew6, ew7, ew8, ew9, ew10, ew11, ew12]
  rw [h0.1]
  refine zireturn (k := 10) rfl rfl rfl ?_
  rw [← hQ]
  exact ⟨rfl, _, rfl, rfl, h0⟩
