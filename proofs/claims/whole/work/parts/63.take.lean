/-! Reader: FORMULAS -/
/-- the reader's surroundings: tape T of n bytes, the formula f that is written, whether of likes -/
def RE (σ : zv_H) (T : Int → Int) (n f : Int) (lk : Bool) : Prop := tA σ = T ∧ σ 2 1 = n ∧ TT T n ∧ (∀ k, 0 ≤ k → k < 24 → σ 54 k = ownR k) ∧ f ∈ fmL ∧ σ 52 2 = f ∧ σ 52 3 = zB lk
/-- what reading changes -/
def rfo (σ0 σ : zv_H) (f : Int) : Prop := ∀ x k, x ≠ 53 → ¬ (x = f ∧ k = 1) → x ≠ f + 1 → ¬ (x = 52 ∧ (k = 7 ∨ k = 8)) → σ x k = σ0 x k
/-- .. where nothing is wrong -/
def rfs (σ0 σ : zv_H) (f : Int) : Prop := ∀ x k, x ≠ 53 → ¬ (x = f ∧ k = 1) → x ≠ f + 1 → σ x k = σ0 x k
theorem rfs_o {σ0 σ : zv_H} {f : Int} (h : rfs σ0 σ f) : rfo σ0 σ f := fun x k a b c _ => h x k a b c
/-- the scanner stands behind p, the formula holds cs -/
def prs (σ0 σ : zv_H) (T : Int → Int) (p f : Int) (cs : List (Int × Int)) : Prop := SCp σ T p ∧ σ f 1 = (cs.length : Int) ∧ (∀ i : Nat, i < cs.length → σ (f + 1) i = enS (cs.getD i (0, 0))) ∧ rfs σ0 σ f
def bdp (σ0 σ : zv_H) (f k pl : Int) : Prop := σ 52 7 = k ∧ σ 52 8 = pl ∧ rfo σ0 σ f
theorem fm_far {f : Int} (h : f ∈ fmL) : f = 12 ∨ f = 14 ∨ f = 25 ∨ f = 27 := by
  simp only [fmL, List.mem_cons, List.not_mem_nil, or_false] at h
  omega
theorem rfo_tr {σ0 σ1 σ2 : zv_H} {f : Int} (h1 : rfo σ0 σ1 f) (h2 : rfo σ1 σ2 f) : rfo σ0 σ2 f := fun x k a b c d => by rw [h2 x k a b c d]; exact h1 x k a b c d
theorem RE_o {σ0 σ : zv_H} {T : Int → Int} {n f : Int} {lk : Bool} (h : RE σ0 T n f lk) (h2 : rfo σ0 σ f) : RE σ T n f lk := by
  obtain ⟨a, b, c, d, e, g1, g2⟩ := h
  have hf := fm_far e
  refine ⟨?_, ?_, c, fun k q1 q2 => ?_, e, ?_, ?_⟩
  · rw [← a]
    funext k
    unfold tA
    rw [h2 2 1 (by omega) (by omega) (by omega) (by omega), h2 3 k (by omega) (by omega) (by omega) (by omega)]
  · rw [h2 2 1 (by omega) (by omega) (by omega) (by omega)]; exact b
  · rw [h2 54 k (by omega) (by omega) (by omega) (by omega)]; exact d k q1 q2
  · rw [h2 52 2 (by omega) (by omega) (by omega) (by omega)]; exact g1
  · rw [h2 52 3 (by omega) (by omega) (by omega) (by omega)]; exact g2
theorem prs_adv {σ0 σ σ2 : zv_H} {T : Int → Int} {p p2 f : Int} {cs : List (Int × Int)} (hf : f ∈ fmL) (h : prs σ0 σ T p f cs) (h1 : SCp σ2 T p2) (h2 : ∀ x k, x ≠ 53 → σ2 x k = σ x k) : prs σ0 σ2 T p2 f cs := by
  have hr := fm_far hf
  refine ⟨h1, by rw [h2 f 1 (by omega)]; exact h.2.1, fun i hi => by rw [h2 (f + 1) i (by omega)]; exact h.2.2.1 i hi, fun x k a b c => by rw [h2 x k a]; exact h.2.2.2 x k a b c⟩
theorem prs_add {σ0 σ : zv_H} {T : Int → Int} {p f z : Int} {cs : List (Int × Int)} {c : Int × Int} (hf : f ∈ fmL) (h : prs σ0 σ T p f cs) (hz : enS c = z) : prs σ0 (zup (zup σ (f + 1) (σ f 1) z) f 1 (σ f 1 + 1)) T p f (cs ++ [c]) := by
  have hr := fm_far hf
  obtain ⟨h1, h2, h3, h4⟩ := h
  have e : ∀ k, zup (zup σ (f + 1) (σ f 1) z) f 1 (σ f 1 + 1) 53 k = σ 53 k := fun k => by rw [zup_n (by omega), zup_n (by omega)]
  refine ⟨?_, ?_, fun i hi => ?_, fun x k a b c => by rw [zup_n (by omega), zup_n (by omega)]; exact h4 x k a b c⟩
  · unfold SCp; rw [e, e, e, e, e, e, e]; exact h1
  · rw [zup_s, h2, List.length_append]; rfl
  · rw [zup_n (by omega)]
    rw [List.length_append] at hi
    have hi2 : i < cs.length + 1 := hi
    by_cases ei : i = cs.length
    · rw [h2, ei, zup_s, ← hz, List.getD_eq_getElem?_getD, List.getElem?_append_right (Nat.le_refl _), Nat.sub_self]; rfl
    · rw [zup_n (by omega), h3 i (by omega), List.getD_eq_getElem?_getD, List.getD_eq_getElem?_getD, List.getElem?_append_left (by omega)]
theorem tK_end {T : Int → Int} {n p : Int} (hn : TT T n) (hp : 0 ≤ p ∧ n ≤ p) : tK T p = 0 := tK_0 (hn.2.2 _ (by have := (skp_b (T := T) 1600 p).1; show ¬ (0 ≤ skp T 1600 p ∧ skp T 1600 p < n); omega))
set_option maxHeartbeats 4000000 in
set_option maxRecDepth 20000 in
theorem c_Reader_wrongAt {Γ : zv_M} {L : Int} {σ : zv_H} {k pl : Int} : zC Γ m_Reader_wrongAt 0 0 0 (GM L) [zR 52, zI k, zI pl] σ (zFn (some (zI 0)) (GM L) (zup (zup σ 52 7 k) 52 8 pl)) := by
  refine zC_of (ls0 := [_, _, _]) zm_Reader_wrongAt (by decide) rfl (Nat.le_of_ble_eq_true rfl) ?_
  generalize hQ : (zFn (some (zI 0)) (GM L) (zup (zup σ 52 7 k) 52 8 pl)) = Q
  refine zaload_n (k := 0) rfl rfl ?_
  refine ziload_n (k := 1) rfl rfl ?_
  refine zpI 7 (k := 2) rfl ob_52 fl_4_40 ⟨_, rfl, rfl⟩ rfl (by omega) rfl fx_52_7 ?_
  refine zaload_n (k := 3) rfl rfl ?_
  refine ziload_n (k := 4) rfl rfl ?_
  refine zpI 8 (k := 5) rfl ob_52 fl_4_33 ⟨_, rfl, rfl⟩ rfl (by omega) rfl fx_52_8 ?_
  refine ziconst (k := 6) rfl (by decide) ?_
  refine zzreturn (k := 7) rfl rfl (by first | exact Or.inl rfl | exact Or.inr rfl | omega) rfl ?_
  rw [← hQ]
  exact ⟨rfl, rfl, rfl⟩
set_option maxHeartbeats 4000000 in
set_option maxRecDepth 20000 in
theorem c_Reader_wrong {Γ : zv_M} {L : Int} {σ : zv_H} {k : Int} : zC Γ m_Reader_wrong 1 0 0 (GM L) [zR 52, zI k] σ (zFn (some (zI 0)) (GM L) (zup (zup σ 52 7 k) 52 8 (σ 53 5))) := by
  refine zC_of (ls0 := [_, _]) zm_Reader_wrong (by decide) rfl (Nat.le_of_ble_eq_true rfl) ?_
  generalize hQ : (zFn (some (zI 0)) (GM L) (zup (zup σ 52 7 k) 52 8 (σ 53 5))) = Q
  refine zaload_n (k := 0) rfl rfl ?_
  refine ziload_n (k := 1) rfl rfl ?_
  refine zaload_n (k := 2) rfl rfl ?_
  refine zgF 0 (k := 3) rfl ob_52 fl_4_14 rfl fx_52_0 ?_
  refine zgI 5 (k := 4) rfl ob_53 fl_4_63 rfl fx_53_5 ?_
  refine zfV1 (k := 5) rfl c_Reader_wrongAt fm_Reader_wrongAt lk_4_66 rfl rfl ob_52 ⟨_, rfl, rfl⟩ (Nat.le_of_ble_eq_true rfl) (by decide) ⟨by decide, by decide⟩ ?_
  refine zzreturn (k := 6) rfl rfl (by first | exact Or.inl rfl | exact Or.inr rfl | omega) rfl ?_
  rw [← hQ]
  exact ⟨rfl, rfl, rfl⟩
theorem bdp_w {σ0 σ : zv_H} {T : Int → Int} {p f k : Int} {cs : List (Int × Int)} (h : prs σ0 σ T p f cs) : bdp σ0 (zup (zup σ 52 7 k) 52 8 (σ 53 5)) f k (tP T p) := by
  refine ⟨by rw [zup_n (by omega), zup_s], by rw [zup_s]; exact h.1.2.2.2.1, fun x j a b c d => by rw [zup_n (by omega), zup_n (by omega)]; exact h.2.2.2 x j a b c⟩
theorem k_wrong {Γ : zv_M} {L : Int} {σ0 σ : zv_H} {T : Int → Int} {p f k : Int} {cs : List (Int × Int)} (h : prs σ0 σ T p f cs) : zC Γ m_Reader_wrong 1 0 0 (GM L) [zR 52, zI k] σ (zPI (GM L) (fun z σ' => z = 0 ∧ bdp σ0 σ' f k (tP T p))) := by
  refine zC_mono (fun q G' σ' hq => ?_) c_Reader_wrong
  obtain ⟨rfl, rfl, rfl⟩ := hq
  exact ⟨rfl, _, rfl, rfl, bdp_w h⟩
theorem k_adv2 {Γ : zv_M} {L : Int} {σ0 σ : zv_H} {T : Int → Int} {n f p : Int} {lk : Bool} {cs : List (Int × Int)} (hE : RE σ0 T n f lk) (h : prs σ0 σ T p f cs) (hp : 0 ≤ p ∧ p ≤ n) (hk : tK T p = 1 ∨ tK T p = 2 ∨ tK T p = 3) : zC Γ m_Scanner_advance 2 0 0 (GM L) [zR 53] σ (zP0 (GM L) (fun σ' => prs σ0 σ' T (tN T p) f cs)) := by
  have hE2 := RE_o hE (rfs_o h.2.2.2)
  refine zC_mono (fun q G' σ' hq => ?_) (k_adv hE2.1 hE2.2.1 hE2.2.2.1 hp h.1 hk hE2.2.2.2.1)
  obtain ⟨g1, g2, g3, g4⟩ := hq
  exact ⟨g1, g2, prs_adv hE.2.2.2.2.1 h g3 g4⟩
theorem k_add {Γ : zv_M} {L : Int} {σ0 σ : zv_H} {T : Int → Int} {p f z : Int} {cs : List (Int × Int)} (c : Int × Int) (hf : f ∈ fmL) (h : prs σ0 σ T p f cs) (hz : enS c = z) (hl : cs.length < 1600) : zC Γ m_Formula_add 1 0 0 (GM L) [zR f, zI z] σ (zP0 (GM L) (fun σ' => prs σ0 σ' T p f (cs ++ [c]))) := by
  refine zC_mono (fun q G' σ' hq => ?_) (c_Formula_add hf (by rw [h.2.1]; omega))
  obtain ⟨rfl, rfl, rfl⟩ := hq
  exact ⟨rfl, rfl, prs_add hf h hz⟩
set_option maxHeartbeats 4000000 in
set_option maxRecDepth 20000 in
theorem c_Reader_takeSign {Γ : zv_M} {L : Int} {σ0 σ : zv_H} {T : Int → Int} {n f p : Int} {lk : Bool} {cs0 : List (Int × Int)} (hE : RE σ0 T n f lk) (h0 : prs σ0 σ T p f cs0) (hp : 0 ≤ p ∧ p ≤ n) {c : Int} : zC Γ m_Reader_takeSign 3 0 0 (GM L) [zR 52, zI c] σ (zPI (GM L) (fun z σ' => (z = 1 ∧ isSg T p c ∧ prs σ0 σ' T (tN T p) f cs0) ∨ (z = 0 ∧ ¬ isSg T p c ∧ bdp σ0 σ' f 1 (tP T p)))) := by
  refine zC_of (ls0 := [_, _]) zm_Reader_takeSign (by decide) rfl (Nat.le_of_ble_eq_true rfl) ?_
  generalize hQ : (zPI (GM L) (fun z σ' => (z = 1 ∧ isSg T p c ∧ prs σ0 σ' T (tN T p) f cs0) ∨ (z = 0 ∧ ¬ isSg T p c ∧ bdp σ0 σ' f 1 (tP T p)))) = Q
  refine zaload_n (k := 0) rfl rfl ?_
  refine zgF 0 (k := 1) rfl ob_52 fl_4_14 rfl fx_52_0 ?_
  refine ziload_n (k := 2) rfl rfl ?_
  refine zpVI (k := 3) rfl (c_Scanner_isSign h0.1) fm_Scanner_isSign lk_4_184 rfl rfl ob_53 ⟨_, rfl, rfl⟩ (Nat.le_of_ble_eq_true rfl) (by decide) ⟨by decide, by decide⟩ (fun z σ2 h2 => ?_)
  obtain ⟨he, h2⟩ := h2
  subst he
  refine zif_ne (k := 4) rfl rfl (fun c1 => ?_) (fun c1 => ?_)
  · skip
    have hs : isSg T p c := by rcases h2 with q | q; exact q.2; omega
    have hs1 := hs.1
    refine zaload_n (k := 9) rfl rfl ?_
    refine zgF 0 (k := 10) rfl ob_52 fl_4_14 rfl fx_52_0 ?_
    refine zpV0 (k := 11) rfl (k_adv2 hE h0 hp (by omega)) fm_Scanner_advance lk_4_85 rfl rfl ob_53 ⟨_, rfl, rfl⟩ (Nat.le_of_ble_eq_true rfl) (by decide) ⟨by decide, by decide⟩ (fun σ3 h3 => ?_)
    refine ziconst (k := 12) rfl (by decide) ?_
    refine zzreturn (k := 13) rfl rfl (by first | exact Or.inl rfl | exact Or.inr rfl | omega) rfl ?_
    rw [← hQ]
    exact ⟨rfl, _, rfl, Or.inl ⟨rfl, hs, h3⟩⟩
  · skip
    have hs : ¬ isSg T p c := by rcases h2 with q | q; omega; exact q.2
    refine zaload_n (k := 5) rfl rfl ?_
    refine ziconst (k := 6) rfl (by decide) ?_
    refine zpVI (k := 7) rfl (k_wrong h0) fm_Reader_wrong lk_4_79 rfl rfl ob_52 ⟨_, rfl, rfl⟩ (Nat.le_of_ble_eq_true rfl) (by decide) ⟨by decide, by decide⟩ (fun z σ2 h2 => ?_)
    rw [h2.1]
    refine zzreturn (k := 8) rfl rfl (by first | exact Or.inl rfl | exact Or.inr rfl | omega) rfl ?_
    rw [← hQ]
    exact ⟨rfl, _, rfl, Or.inr ⟨rfl, hs, h2.2⟩⟩
set_option maxHeartbeats 4000000 in
set_option maxRecDepth 20000 in
theorem c_Reader_takeOpening {Γ : zv_M} {L : Int} {σ0 σ : zv_H} {T : Int → Int} {n f p : Int} {lk : Bool} {cs0 : List (Int × Int)} (hE : RE σ0 T n f lk) (h0 : prs σ0 σ T p f cs0) (hp : 0 ≤ p ∧ p ≤ n) {s q : Int} (hs : s = 0 ∨ s = 1) (hk : s = 1 → tK T p = 1 ∨ tK T p = 2 ∨ tK T p = 3) : zC Γ m_Reader_takeOpening 3 0 0 (GM L) [zR 52, zI s, zI q] σ (zPI (GM L) (fun z σ' => (z = 1 ∧ (s = 1 ∧ q < 7) ∧ prs σ0 σ' T (tN T p) f cs0) ∨ (z = 0 ∧ s = 0 ∧ bdp σ0 σ' f 1 (tP T p)) ∨ (z = 0 ∧ (s = 1 ∧ 7 ≤ q) ∧ bdp σ0 σ' f 5 (tP T p)))) := by
  refine zC_of (ls0 := [_, _, _]) zm_Reader_takeOpening (by decide) rfl (Nat.le_of_ble_eq_true rfl) ?_
  generalize hQ : (zPI (GM L) (fun z σ' => (z = 1 ∧ (s = 1 ∧ q < 7) ∧ prs σ0 σ' T (tN T p) f cs0) ∨ (z = 0 ∧ s = 0 ∧ bdp σ0 σ' f 1 (tP T p)) ∨ (z = 0 ∧ (s = 1 ∧ 7 ≤ q) ∧ bdp σ0 σ' f 5 (tP T p)))) = Q
  refine ziload_n (k := 0) rfl rfl ?_
  refine zif_ne (k := 1) rfl rfl (fun c1 => ?_) (fun c1 => ?_)
  · skip
    refine ziload_n (k := 6) rfl rfl ?_
    refine zbipush (k := 7) rfl rfl ?_
    refine zicmp_lt (k := 8) rfl rfl (fun c2 => ?_) (fun c2 => ?_)
    · skip
      refine zaload_n (k := 13) rfl rfl ?_
      refine zgF 0 (k := 14) rfl ob_52 fl_4_14 rfl fx_52_0 ?_
      refine zpV0 (k := 15) rfl (k_adv2 hE h0 hp (hk (by omega))) fm_Scanner_advance lk_4_85 rfl rfl ob_53 ⟨_, rfl, rfl⟩ (Nat.le_of_ble_eq_true rfl) (by decide) ⟨by decide, by decide⟩ (fun σ3 h3 => ?_)
      refine ziconst (k := 16) rfl (by decide) ?_
      refine zzreturn (k := 17) rfl rfl (by first | exact Or.inl rfl | exact Or.inr rfl | omega) rfl ?_
      rw [← hQ]
      exact ⟨rfl, _, rfl, Or.inl ⟨rfl, by omega, h3⟩⟩
    · skip
      refine zaload_n (k := 9) rfl rfl ?_
      refine ziconst (k := 10) rfl (by decide) ?_
      refine zpVI (k := 11) rfl (k_wrong h0) fm_Reader_wrong lk_4_79 rfl rfl ob_52 ⟨_, rfl, rfl⟩ (Nat.le_of_ble_eq_true rfl) (by decide) ⟨by decide, by decide⟩ (fun z σ2 h2 => ?_)
      rw [h2.1]
      refine zzreturn (k := 12) rfl rfl (by first | exact Or.inl rfl | exact Or.inr rfl | omega) rfl ?_
      rw [← hQ]
      exact ⟨rfl, _, rfl, Or.inr (Or.inr ⟨rfl, by omega, h2.2⟩)⟩
  · skip
    refine zaload_n (k := 2) rfl rfl ?_
    refine ziconst (k := 3) rfl (by decide) ?_
    refine zpVI (k := 4) rfl (k_wrong h0) fm_Reader_wrong lk_4_79 rfl rfl ob_52 ⟨_, rfl, rfl⟩ (Nat.le_of_ble_eq_true rfl) (by decide) ⟨by decide, by decide⟩ (fun z σ2 h2 => ?_)
    rw [h2.1]
    refine zzreturn (k := 5) rfl rfl (by first | exact Or.inl rfl | exact Or.inr rfl | omega) rfl ?_
    rw [← hQ]
    exact ⟨rfl, _, rfl, Or.inr (Or.inl ⟨rfl, by omega, h2.2⟩)⟩
