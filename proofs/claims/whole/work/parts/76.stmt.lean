/-! STATEMENTS: what is told so far is A (0: counts; 1: where a COUNTY's NAME stands; 2, 3, 4; 5: where a MAN's NAME stands; 6, 7; 12: RAILS), J the TEST, K the SUM -/
abbrev zX (α : Type) : Type := α ⊕ (Int × Int)
def bnd {α β : Type} (x : zX α) (f : α → zX β) : zX β := match x with
  | Sum.inl a => f a
  | Sum.inr e => Sum.inr e
theorem bnd_l {α β : Type} (a : α) (f : α → zX β) : bnd (Sum.inl a) f = f a := rfl
theorem bnd_r {α β : Type} (e : Int × Int) (f : α → zX β) : bnd (Sum.inr e) f = Sum.inr e := rfl
noncomputable def tkWord (T : Int → Int) (u p : Int) : zX Int := if isOw T p u then Sum.inl (tN T p) else Sum.inr (1, tP T p)
noncomputable def tkSign (T : Int → Int) (u p : Int) : zX Int := if isSg T p u then Sum.inl (tN T p) else Sum.inr (1, tP T p)
noncomputable def tkNum (T : Int → Int) (lo hi p : Int) : zX (Int × Int) := if tK T p ≠ 2 then Sum.inr (1, tP T p) else if tNv T p < lo ∨ hi < tNv T p then Sum.inr (4, tP T p) else Sum.inl (tNv T p, tN T p)
noncomputable def cyI (T : Int → Int) (A : zv_H) (p : Int) : Int := ixF (fun i => tNm T (A 1 i)) (tNm T p) (A 0 1).toNat 0
noncomputable def mnI (T : Int → Int) (A : zv_H) (p : Int) : Int := ixF (fun i => tNm T (A 5 i)) (tNm T p) (A 0 3).toNat 0
noncomputable def tkNew (T : Int → Int) (A : zv_H) (p : Int) : zX Int := if ¬ isOw T p (-1) then Sum.inr (1, tP T p) else if cyI T A p ≠ -1 ∨ mnI T A p ≠ -1 then Sum.inr (2, tP T p) else Sum.inl (tN T p)
noncomputable def tkCty (T : Int → Int) (A : zv_H) (rf p : Int) : zX (Int × Int) := if ¬ isOw T p (-1) then Sum.inr (1, tP T p) else if cyI T A p = -1 ∨ (rf ≠ -1 ∧ (cyI T A p = rf ∨ A 12 (rf * 7 + cyI T A p) ≠ 0)) then Sum.inr (3, tP T p) else Sum.inl (cyI T A p, tN T p)
noncomputable def ctyF (T : Int → Int) (A : zv_H) (p : Int) : zX (Int × zv_H) := bnd (tkNew T A p) fun p1 => bnd (tkWord T 1 p1) fun p2 => bnd (tkNum T 0 20 p2) fun q => bnd (tkWord T 2 q.2) fun p3 => bnd (tkNum T 0 999 p3) fun y => bnd (tkWord T 3 y.2) fun p4 => bnd (tkNum T 0 9 p4) fun g => Sum.inl (g.2, zup (zup (zup (zup (zup A 1 (A 0 1) p) 2 (A 0 1) q.1) 3 (A 0 1) y.1) 4 (A 0 1) g.1) 0 1 (A 0 1 + 1))
noncomputable def ralF (T : Int → Int) (A : zv_H) (p : Int) : zX (Int × zv_H) := bnd (tkCty T A (-1) p) fun a => bnd (tkWord T 5 a.2) fun p2 => bnd (tkCty T A a.1 p2) fun b => bnd (tkWord T 6 b.2) fun p3 => bnd (tkNum T 1 9 p3) fun n => Sum.inl (n.2, zup (zup (zup A 12 (a.1 * 7 + b.1) n.1) 12 (b.1 * 7 + a.1) n.1) 0 2 (A 0 2 + 1))
noncomputable def mnnF (T : Int → Int) (A : zv_H) (p : Int) : zX (Int × zv_H) := bnd (tkNew T A p) fun p1 => bnd (tkWord T 8 p1) fun p2 => bnd (tkCty T A (-1) p2) fun c => bnd (tkWord T 9 c.2) fun p3 => bnd (tkNum T 0 63 p3) fun s => Sum.inl (s.2, zup (zup (zup (zup A 5 (A 0 3) p) 6 (A 0 3) c.1) 7 (A 0 3) s.1) 0 3 (A 0 3 + 1))
noncomputable def pstF (T : Int → Int) (A : zv_H) (p : Int) : zX (Int × zv_H) := bnd (tkNum T 0 9 p) fun n => Sum.inl (n.2, zup A 0 4 n.1)
/-- what a take changes -/
def tkf (σ σ' : zv_H) : Prop := ∀ x k, x ≠ 53 → ¬ (x = 52 ∧ 4 ≤ k ∧ k ≤ 8) → σ' x k = σ x k
/-- .. where nothing is wrong -/
def tks (σ σ' : zv_H) : Prop := ∀ x k, x ≠ 53 → ¬ (x = 52 ∧ 4 ≤ k ∧ k ≤ 6) → σ' x k = σ x k
theorem tks_f {σ σ' : zv_H} (h : tks σ σ') : tkf σ σ' := fun x k a b => h x k a (by omega)
def flt (σ : zv_H) (k pl : Int) : Prop := σ 52 7 = k ∧ σ 52 8 = pl
/-- the war at w tells A, but for what is told by where it stands -/
def wrN (σ : zv_H) (w : Int) (T : Int → Int) (A : zv_H) : Prop := (∀ k, 0 ≤ k → k ≤ 4 → σ w k = A 0 k) ∧ (∀ i, 0 ≤ i → i < A 0 1 → σ (w + 1) i = tNm T (A 1 i) ∧ σ (w + 2) i = A 2 i ∧ σ (w + 3) i = A 3 i ∧ σ (w + 4) i = A 4 i) ∧ (∀ i, 0 ≤ i → i < A 0 3 → σ (w + 5) i = tNm T (A 5 i) ∧ σ (w + 6) i = A 6 i ∧ σ (w + 7) i = A 7 i) ∧ ∀ i, 0 ≤ i → i < 49 → σ (w + 12) i = if A 12 i = 0 then 1000000 else A 12 i
def wrF (σ : zv_H) (f : Int) (J : List (Int × Int)) : Prop := σ f 1 = (J.length : Int) ∧ ∀ i : Nat, i < J.length → σ (f + 1) i = enS (J.getD i (0, 0))
/-- what is so of all that is told -/
def AI (T : Int → Int) (A : zv_H) : Prop := (0 ≤ A 0 0 ∧ A 0 0 ≤ 80) ∧ (0 ≤ A 0 1 ∧ A 0 1 ≤ 7) ∧ (0 ≤ A 0 2 ∧ A 0 2 ≤ 12) ∧ (0 ≤ A 0 3 ∧ A 0 3 ≤ 6) ∧ (0 ≤ A 0 4 ∧ A 0 4 ≤ 9) ∧
  (∀ c, 0 ≤ c → c < A 0 1 → tK T (A 1 c) = 1 ∧ (0 ≤ A 2 c ∧ A 2 c ≤ 20) ∧ (0 ≤ A 3 c ∧ A 3 c ≤ 999) ∧ (0 ≤ A 4 c ∧ A 4 c ≤ 9)) ∧
  (∀ m, 0 ≤ m → m < A 0 3 → tK T (A 5 m) = 1 ∧ (0 ≤ A 6 m ∧ A 6 m < A 0 1) ∧ (0 ≤ A 7 m ∧ A 7 m ≤ 63)) ∧
  (∀ i, 0 ≤ i → i < 49 → 0 ≤ A 12 i ∧ A 12 i ≤ 9)
/-- the surroundings: tape, own words, the war that is written -/
def RW (σ : zv_H) (T : Int → Int) (n w : Int) : Prop := (tA σ = T ∧ σ 52 7 = 0 ∧ σ 52 8 = -1) ∧ σ 2 1 = n ∧ TT T n ∧ (∀ k, 0 ≤ k → k < 24 → σ 54 k = ownR k) ∧ w ∈ wrL ∧ σ 52 1 = w
theorem tkf_tr {σ0 σ1 σ2 : zv_H} (h1 : tkf σ0 σ1) (h2 : tkf σ1 σ2) : tkf σ0 σ2 := fun x k a b => by rw [h2 x k a b]; exact h1 x k a b
theorem RW_t {σ σ' : zv_H} {T : Int → Int} {n w : Int} (h : RW σ T n w) (h2 : tks σ σ') : RW σ' T n w := by
  obtain ⟨⟨a, z7, z8⟩, b, c, d, e, g⟩ := h
  refine ⟨⟨?_, by rw [h2 52 7 (by omega) (by omega)]; exact z7, by rw [h2 52 8 (by omega) (by omega)]; exact z8⟩, ?_, c, fun k q1 q2 => ?_, e, ?_⟩
  · rw [← a]
    funext k
    unfold tA
    rw [h2 2 1 (by omega) (by omega), h2 3 k (by omega) (by omega)]
  · rw [h2 2 1 (by omega) (by omega)]; exact b
  · rw [h2 54 k (by omega) (by omega)]; exact d k q1 q2
  · rw [h2 52 1 (by omega) (by omega)]; exact g
theorem wrN_t {σ σ' : zv_H} {T : Int → Int} {w : Int} {A : zv_H} (hw : w ∈ wrL) (h : wrN σ w T A) (h2 : tkf σ σ') : wrN σ' w T A := by
  have hf := wr_far hw
  have e : ∀ d k, 0 ≤ d → d ≤ 12 → σ' (w + d) k = σ (w + d) k := fun d k a b => h2 (w + d) k (by omega) (by omega)
  have e0 : ∀ k, σ' w k = σ w k := fun k => h2 w k (by omega) (by omega)
  obtain ⟨a, b, c, d⟩ := h
  refine ⟨fun k q1 q2 => by rw [e0]; exact a k q1 q2, fun i q1 q2 => ?_, fun i q1 q2 => ?_, fun i q1 q2 => by rw [e 12 i (by omega) (by omega)]; exact d i q1 q2⟩
  · rw [e 1 i (by omega) (by omega), e 2 i (by omega) (by omega), e 3 i (by omega) (by omega), e 4 i (by omega) (by omega)]; exact b i q1 q2
  · rw [e 5 i (by omega) (by omega), e 6 i (by omega) (by omega), e 7 i (by omega) (by omega)]; exact c i q1 q2
theorem k_adv3 {Γ : zv_M} {L : Int} {σ : zv_H} {T : Int → Int} {n w p : Int} (hE : RW σ T n w) (h : SCp σ T p) (hp : 0 ≤ p ∧ p ≤ n) (hk : tK T p = 1 ∨ tK T p = 2 ∨ tK T p = 3) : zC Γ m_Scanner_advance 2 0 0 (GM L) [zR 53] σ (zP0 (GM L) (fun σ' => SCp σ' T (tN T p) ∧ ∀ x k, x ≠ 53 → σ' x k = σ x k)) := k_adv hE.1.1 hE.2.1 hE.2.2.1 hp h hk hE.2.2.2.1
theorem k_wrong3 {Γ : zv_M} {L : Int} {σ : zv_H} {T : Int → Int} {p k : Int} (h : SCp σ T p) : zC Γ m_Reader_wrong 1 0 0 (GM L) [zR 52, zI k] σ (zPI (GM L) (fun z σ' => z = 0 ∧ flt σ' k (tP T p) ∧ tkf σ σ')) := by
  refine zC_mono (fun q G' σ' hq => ?_) c_Reader_wrong
  obtain ⟨rfl, rfl, rfl⟩ := hq
  exact ⟨rfl, _, rfl, rfl, ⟨by rw [zup_n (by omega), zup_s], by rw [zup_s]; exact h.2.2.2.1⟩, fun x j a b => by rw [zup_n (by omega), zup_n (by omega)]⟩
theorem cyI_e {σ : zv_H} {w : Int} {T : Int → Int} {A : zv_H} {v : Int} (h : wrN σ w T A) (hA : AI T A) : zidx σ (w + 1) v (zmn (A 0 1) 7) 0 = ixF (fun i => tNm T (A 1 i)) v (A 0 1).toNat 0 := by
  have h1 := hA.2.1
  rw [zmn_le ⟨h1.1, h1.2⟩]
  exact zidx_F _ 0 (fun i q1 q2 => (h.2.1 i q1 (by omega)).1)
theorem mnI_e {σ : zv_H} {w : Int} {T : Int → Int} {A : zv_H} {v : Int} (h : wrN σ w T A) (hA : AI T A) : zidx σ (w + 5) v (zmn (A 0 3) 6) 0 = ixF (fun i => tNm T (A 5 i)) v (A 0 3).toNat 0 := by
  have h1 := hA.2.2.2.1
  rw [zmn_le ⟨h1.1, h1.2⟩]
  exact zidx_F _ 0 (fun i q1 q2 => (h.2.2.1 i q1 (by omega)).1)
theorem ixF_b {f : Int → Int} {v : Int} : ∀ (g : Nat) (k : Int), 0 ≤ k → ixF f v g k = -1 ∨ (k ≤ ixF f v g k ∧ ixF f v g k < k + g)
  | 0, _, _ => Or.inl rfl
  | g + 1, k, h => by
    rw [show ixF f v (g + 1) k = if f k = v then k else ixF f v g (k + 1) from rfl]
    split
    · exact Or.inr ⟨Int.le_refl _, by omega⟩
    · have := ixF_b (f := f) (v := v) g (k + 1) (by omega)
      omega
set_option maxHeartbeats 4000000 in
set_option maxRecDepth 20000 in
theorem d_Reader_takeWord {Γ : zv_M} {L : Int} {σ : zv_H} {T : Int → Int} {n w p : Int} (hE : RW σ T n w) (h0 : SCp σ T p) (hp : 0 ≤ p ∧ p ≤ n) {u : Int} : zC Γ m_Reader_takeWord 3 0 0 (GM L) [zR 52, zI u] σ (zPI (GM L) (fun z σ' => (z = 1 ∧ ∃ X, tkWord T u p = Sum.inl X ∧ SCp σ' T X ∧ (p < X ∧ X ≤ n) ∧ tks σ σ') ∨ (z = 0 ∧ ∃ k pl, tkWord T u p = Sum.inr (k, pl) ∧ flt σ' k pl ∧ tkf σ σ'))) := by
  refine zC_of (ls0 := [_, _]) zm_Reader_takeWord (by decide) rfl (Nat.le_of_ble_eq_true rfl) ?_
  generalize hQ : (zPI (GM L) (fun z σ' => (z = 1 ∧ ∃ X, tkWord T u p = Sum.inl X ∧ SCp σ' T X ∧ (p < X ∧ X ≤ n) ∧ tks σ σ') ∨ (z = 0 ∧ ∃ k pl, tkWord T u p = Sum.inr (k, pl) ∧ flt σ' k pl ∧ tkf σ σ'))) = Q
  refine zaload_n (k := 0) rfl rfl ?_
  refine zgF 0 (k := 1) rfl ob_52 fl_4_14 rfl fx_52_0 ?_
  refine ziload_n (k := 2) rfl rfl ?_
  refine zpVI (k := 3) rfl (c_Scanner_isOwnWord h0) fm_Scanner_isOwnWord lk_4_181 rfl rfl ob_53 ⟨_, rfl, rfl⟩ (Nat.le_of_ble_eq_true rfl) (by decide) ⟨by decide, by decide⟩ (fun z2 σ2 h2 => ?_)
  obtain ⟨he, h2⟩ := h2
  rw [he]
  clear he
  refine zif_ne (k := 4) rfl rfl (fun c1 => ?_) (fun c1 => ?_)
  · skip
    have hs : isOw T p u := or_1 h2 (by assumption)
    clear h2
    have tb := tN_c hE.2.2.1 hp (Or.inl hs.1)
    refine zaload_n (k := 9) rfl rfl ?_
    refine zgF 0 (k := 10) rfl ob_52 fl_4_14 rfl fx_52_0 ?_
    refine zpV0 (k := 11) rfl (k_adv3 hE h0 hp (Or.inl hs.1)) fm_Scanner_advance lk_4_85 rfl rfl ob_53 ⟨_, rfl, rfl⟩ (Nat.le_of_ble_eq_true rfl) (by decide) ⟨by decide, by decide⟩ (fun σ3 h3 => ?_)
    refine ziconst (k := 12) rfl (by decide) ?_
    refine zzreturn (k := 13) rfl rfl (by first | exact Or.inl rfl | exact Or.inr rfl | omega) rfl ?_
    rw [← hQ]
    exact ⟨rfl, _, rfl, Or.inl ⟨rfl, _, if_pos hs, h3.1, ⟨tb.1, tb.2.2⟩, fun x k a b => h3.2 x k a⟩⟩
  · skip
    have hs : ¬ isOw T p u := or_0 h2 (by assumption)
    clear h2
    refine zaload_n (k := 5) rfl rfl ?_
    refine ziconst (k := 6) rfl (by decide) ?_
    refine zpVI (k := 7) rfl (k_wrong3 h0) fm_Reader_wrong lk_4_79 rfl rfl ob_52 ⟨_, rfl, rfl⟩ (Nat.le_of_ble_eq_true rfl) (by decide) ⟨by decide, by decide⟩ (fun z9 σ9 h9 => ?_)
    rw [h9.1]
    refine zzreturn (k := 8) rfl rfl (by first | exact Or.inl rfl | exact Or.inr rfl | omega) rfl ?_
    rw [← hQ]
    exact ⟨rfl, _, rfl, Or.inr ⟨rfl, _, _, if_neg hs, h9.2⟩⟩
set_option maxHeartbeats 4000000 in
set_option maxRecDepth 20000 in
theorem d_Reader_takeSign {Γ : zv_M} {L : Int} {σ : zv_H} {T : Int → Int} {n w p : Int} (hE : RW σ T n w) (h0 : SCp σ T p) (hp : 0 ≤ p ∧ p ≤ n) {u : Int} : zC Γ m_Reader_takeSign 3 0 0 (GM L) [zR 52, zI u] σ (zPI (GM L) (fun z σ' => (z = 1 ∧ ∃ X, tkSign T u p = Sum.inl X ∧ SCp σ' T X ∧ (p < X ∧ X ≤ n) ∧ tks σ σ') ∨ (z = 0 ∧ ∃ k pl, tkSign T u p = Sum.inr (k, pl) ∧ flt σ' k pl ∧ tkf σ σ'))) := by
  refine zC_of (ls0 := [_, _]) zm_Reader_takeSign (by decide) rfl (Nat.le_of_ble_eq_true rfl) ?_
  generalize hQ : (zPI (GM L) (fun z σ' => (z = 1 ∧ ∃ X, tkSign T u p = Sum.inl X ∧ SCp σ' T X ∧ (p < X ∧ X ≤ n) ∧ tks σ σ') ∨ (z = 0 ∧ ∃ k pl, tkSign T u p = Sum.inr (k, pl) ∧ flt σ' k pl ∧ tkf σ σ'))) = Q
  refine zaload_n (k := 0) rfl rfl ?_
  refine zgF 0 (k := 1) rfl ob_52 fl_4_14 rfl fx_52_0 ?_
  refine ziload_n (k := 2) rfl rfl ?_
  refine zpVI (k := 3) rfl (c_Scanner_isSign h0) fm_Scanner_isSign lk_4_184 rfl rfl ob_53 ⟨_, rfl, rfl⟩ (Nat.le_of_ble_eq_true rfl) (by decide) ⟨by decide, by decide⟩ (fun z2 σ2 h2 => ?_)
  obtain ⟨he, h2⟩ := h2
  rw [he]
  clear he
  refine zif_ne (k := 4) rfl rfl (fun c1 => ?_) (fun c1 => ?_)
  · skip
    have hs : isSg T p u := or_1 h2 (by assumption)
    clear h2
    have tb := tN_c hE.2.2.1 hp (Or.inr (Or.inr hs.1))
    refine zaload_n (k := 9) rfl rfl ?_
    refine zgF 0 (k := 10) rfl ob_52 fl_4_14 rfl fx_52_0 ?_
    refine zpV0 (k := 11) rfl (k_adv3 hE h0 hp (Or.inr (Or.inr hs.1))) fm_Scanner_advance lk_4_85 rfl rfl ob_53 ⟨_, rfl, rfl⟩ (Nat.le_of_ble_eq_true rfl) (by decide) ⟨by decide, by decide⟩ (fun σ3 h3 => ?_)
    refine ziconst (k := 12) rfl (by decide) ?_
    refine zzreturn (k := 13) rfl rfl (by first | exact Or.inl rfl | exact Or.inr rfl | omega) rfl ?_
    rw [← hQ]
    exact ⟨rfl, _, rfl, Or.inl ⟨rfl, _, if_pos hs, h3.1, ⟨tb.1, tb.2.2⟩, fun x k a b => h3.2 x k a⟩⟩
  · skip
    have hs : ¬ isSg T p u := or_0 h2 (by assumption)
    clear h2
    refine zaload_n (k := 5) rfl rfl ?_
    refine ziconst (k := 6) rfl (by decide) ?_
    refine zpVI (k := 7) rfl (k_wrong3 h0) fm_Reader_wrong lk_4_79 rfl rfl ob_52 ⟨_, rfl, rfl⟩ (Nat.le_of_ble_eq_true rfl) (by decide) ⟨by decide, by decide⟩ (fun z9 σ9 h9 => ?_)
    rw [h9.1]
    refine zzreturn (k := 8) rfl rfl (by first | exact Or.inl rfl | exact Or.inr rfl | omega) rfl ?_
    rw [← hQ]
    exact ⟨rfl, _, rfl, Or.inr ⟨rfl, _, _, if_neg hs, h9.2⟩⟩
set_option maxHeartbeats 4000000 in
set_option maxRecDepth 20000 in
theorem d_Reader_takeNumber {Γ : zv_M} {L : Int} {σ : zv_H} {T : Int → Int} {n w p : Int} (hE : RW σ T n w) (h0 : SCp σ T p) (hp : 0 ≤ p ∧ p ≤ n) {lo hi : Int} : zC Γ m_Reader_takeNumber 3 0 0 (GM L) [zR 52, zI lo, zI hi] σ (zPI (GM L) (fun z σ' => (z = 1 ∧ ∃ X, tkNum T lo hi p = Sum.inl X ∧ σ' 52 4 = X.1 ∧ (lo ≤ X.1 ∧ X.1 ≤ hi) ∧ SCp σ' T X.2 ∧ (p < X.2 ∧ X.2 ≤ n) ∧ tks σ σ') ∨ (z = 0 ∧ ∃ k pl, tkNum T lo hi p = Sum.inr (k, pl) ∧ flt σ' k pl ∧ tkf σ σ'))) := by
  refine zC_of (ls0 := [_, _, _]) zm_Reader_takeNumber (by decide) rfl (Nat.le_of_ble_eq_true rfl) ?_
  generalize hQ : (zPI (GM L) (fun z σ' => (z = 1 ∧ ∃ X, tkNum T lo hi p = Sum.inl X ∧ σ' 52 4 = X.1 ∧ (lo ≤ X.1 ∧ X.1 ≤ hi) ∧ SCp σ' T X.2 ∧ (p < X.2 ∧ X.2 ≤ n) ∧ tks σ σ') ∨ (z = 0 ∧ ∃ k pl, tkNum T lo hi p = Sum.inr (k, pl) ∧ flt σ' k pl ∧ tkf σ σ'))) = Q
  refine zaload_n (k := 0) rfl rfl ?_
  refine zgF 0 (k := 1) rfl ob_52 fl_4_14 rfl fx_52_0 ?_
  refine zgI 3 (k := 2) rfl ob_53 fl_4_46 rfl fx_53_3 ?_
  rw [h0.2.1]
  refine ziconst (k := 3) rfl (by decide) ?_
  refine zicmp_eq (k := 4) rfl rfl (fun c1 => ?_) (fun c1 => ?_)
  · skip
    have hk : tK T p = 2 := by assumption
    have tb := tN_c hE.2.2.1 hp (Or.inr (Or.inl hk))
    refine zaload_n (k := 9) rfl rfl ?_
    refine zgF 0 (k := 10) rfl ob_52 fl_4_14 rfl fx_52_0 ?_
    refine zgI 8 (k := 11) rfl ob_53 fl_4_187 rfl fx_53_8 ?_
    rw [h0.2.2.2.2.2.2.1 (by assumption)]
    refine ziload_n (k := 12) rfl rfl ?_
    refine zicmp_lt (k := 13) rfl rfl (fun c2 => ?_) (fun c2 => ?_)
    · skip
      refine zaload_n (k := 19) rfl rfl ?_
      refine ziconst (k := 20) rfl (by decide) ?_
      refine zpVI (k := 21) rfl (k_wrong3 h0) fm_Reader_wrong lk_4_79 rfl rfl ob_52 ⟨_, rfl, rfl⟩ (Nat.le_of_ble_eq_true rfl) (by decide) ⟨by decide, by decide⟩ (fun z9 σ9 h9 => ?_)
      rw [h9.1]
      refine zzreturn (k := 22) rfl rfl (by first | exact Or.inl rfl | exact Or.inr rfl | omega) rfl ?_
      rw [← hQ]
      exact ⟨rfl, _, rfl, Or.inr ⟨rfl, _, _, by unfold tkNum; rw [if_neg (fun q => q hk), if_pos (by omega)], h9.2⟩⟩
    · skip
      refine zaload_n (k := 14) rfl rfl ?_
      refine zgF 0 (k := 15) rfl ob_52 fl_4_14 rfl fx_52_0 ?_
      refine zgI 8 (k := 16) rfl ob_53 fl_4_187 rfl fx_53_8 ?_
      rw [h0.2.2.2.2.2.2.1 (by assumption)]
      refine ziload_n (k := 17) rfl rfl ?_
      refine zicmp_le (k := 18) rfl rfl (fun c3 => ?_) (fun c3 => ?_)
      · skip
        refine zaload_n (k := 23) rfl rfl ?_
        refine zaload_n (k := 24) rfl rfl ?_
        refine zgF 0 (k := 25) rfl ob_52 fl_4_14 rfl fx_52_0 ?_
        refine zgI 8 (k := 26) rfl ob_53 fl_4_187 rfl fx_53_8 ?_
        rw [h0.2.2.2.2.2.2.1 (by assumption)]
        refine zpI 4 (k := 27) rfl ob_52 fl_4_150 ⟨_, rfl, rfl⟩ rfl (by omega) rfl fx_52_4 ?_
        have h1 : SCp (zup σ 52 4 (tNv T p)) T p := by
          unfold SCp
          rw [zup_n (by omega), zup_n (by omega), zup_n (by omega), zup_n (by omega), zup_n (by omega), zup_n (by omega), zup_n (by omega)]
          exact h0
        have hE1 : RW (zup σ 52 4 (tNv T p)) T n w := RW_t hE (fun x k a b => zup_n (by omega))
        refine zaload_n (k := 28) rfl rfl ?_
        refine zgF 0 (k := 29) rfl ob_52 fl_4_14 rfl fx_52_0 ?_
        refine zpV0 (k := 30) rfl (k_adv3 hE1 h1 hp (Or.inr (Or.inl hk))) fm_Scanner_advance lk_4_85 rfl rfl ob_53 ⟨_, rfl, rfl⟩ (Nat.le_of_ble_eq_true rfl) (by decide) ⟨by decide, by decide⟩ (fun σ3 h3 => ?_)
        refine ziconst (k := 31) rfl (by decide) ?_
        refine zzreturn (k := 32) rfl rfl (by first | exact Or.inl rfl | exact Or.inr rfl | omega) rfl ?_
        rw [← hQ]
        exact ⟨rfl, _, rfl, Or.inl ⟨rfl, (tNv T p, tN T p), by unfold tkNum; rw [if_neg (fun q => q hk), if_neg (by omega)], by rw [h3.2 52 4 (by omega), zup_s], ⟨by show lo ≤ tNv T p; omega, by show tNv T p ≤ hi; omega⟩, h3.1, ⟨tb.1, tb.2.2⟩, fun x k a b => by rw [h3.2 x k a, zup_n (by omega)]⟩⟩
      · skip
        refine zaload_n (k := 19) rfl rfl ?_
        refine ziconst (k := 20) rfl (by decide) ?_
        refine zpVI (k := 21) rfl (k_wrong3 h0) fm_Reader_wrong lk_4_79 rfl rfl ob_52 ⟨_, rfl, rfl⟩ (Nat.le_of_ble_eq_true rfl) (by decide) ⟨by decide, by decide⟩ (fun z9 σ9 h9 => ?_)
        rw [h9.1]
        refine zzreturn (k := 22) rfl rfl (by first | exact Or.inl rfl | exact Or.inr rfl | omega) rfl ?_
        rw [← hQ]
        exact ⟨rfl, _, rfl, Or.inr ⟨rfl, _, _, by unfold tkNum; rw [if_neg (fun q => q hk), if_pos (by omega)], h9.2⟩⟩
  · skip
    refine zaload_n (k := 5) rfl rfl ?_
    refine ziconst (k := 6) rfl (by decide) ?_
    refine zpVI (k := 7) rfl (k_wrong3 h0) fm_Reader_wrong lk_4_79 rfl rfl ob_52 ⟨_, rfl, rfl⟩ (Nat.le_of_ble_eq_true rfl) (by decide) ⟨by decide, by decide⟩ (fun z9 σ9 h9 => ?_)
    rw [h9.1]
    refine zzreturn (k := 8) rfl rfl (by first | exact Or.inl rfl | exact Or.inr rfl | omega) rfl ?_
    rw [← hQ]
    exact ⟨rfl, _, rfl, Or.inr ⟨rfl, _, _, by unfold tkNum; rw [if_pos (by assumption)], h9.2⟩⟩
