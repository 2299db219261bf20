/-! a state's cells; outside of them a state is 0; copies and starts -/
def inS (f i : Int) : Prop := (f = 0 ∧ (i = 0 ∨ i = 11 ∨ i = 12)) ∨ (1 ≤ f ∧ f ≤ 3 ∧ 0 ≤ i ∧ i < 7) ∨ (4 ≤ f ∧ f ≤ 8 ∧ 0 ≤ i ∧ i < 6) ∨ (f = 9 ∧ 0 ≤ i ∧ i < 42) ∨ (f = 10 ∧ 0 ≤ i ∧ i < 60)
def SZ (S : zv_H) : Prop := ∀ f i, ¬ inS f i → S f i = 0
theorem SZ_ext {S T : zv_H} (hS : SZ S) (hT : SZ T) (h : ∀ f i, inS f i → S f i = T f i) : S = T := by
  funext f i
  by_cases q : inS f i
  · exact h f i q
  · rw [hS f i q, hT f i q]
theorem SZ_up {S : zv_H} {g i v : Int} (h : SZ S) (hi : inS g i) : SZ (zup S g i v) := fun f k q => by
  rw [zup_n (fun e => q (by rw [e.1, e.2]; exact hi))]
  exact h f k q
theorem SZ_kep {S : zv_H} {e : Int} (h : SZ S) : SZ (kepF S e) := by
  unfold kepF
  split
  · exact SZ_up (SZ_up h (by unfold inS; omega)) (by unfold inS; omega)
  · exact SZ_up (SZ_up h (by unfold inS; omega)) (by unfold inS; omega)
theorem SZ_snd {S : zv_H} {m c t : Int} (h : SZ S) (hm : 0 ≤ m ∧ m < 6) (hc : 0 ≤ c ∧ c < 7) : SZ (sndF S m c t) := by
  unfold sndF
  split
  · exact SZ_up h (by unfold inS; omega)
  · exact h
theorem SZ_wal {S : zv_H} {m : Int} (h : SZ S) (hm : 0 ≤ m ∧ m < 6) : SZ (walF S m) := by
  unfold walF
  split
  · exact SZ_up (SZ_up h (by unfold inS; omega)) (by unfold inS; omega)
  · exact SZ_up h (by unfold inS; omega)
theorem SZ_gon {Wm S : zv_H} {m : Int} (h : SZ S) (hm : 0 ≤ m ∧ m < 6) : SZ (gonF Wm S m) := by
  unfold gonF
  split
  · exact SZ_up h (by unfold inS; omega)
  · exact SZ_up (SZ_up (SZ_up h (by unfold inS; omega)) (by unfold inS; omega)) (by unfold inS; omega)
theorem SZ_met {Wm S : zv_H} {m : Int} (h : SZ S) (hm : 0 ≤ m ∧ m < 6) (hc : 0 ≤ S 4 m ∧ S 4 m < 7) : SZ (metF Wm S m).1 := by
  unfold metF
  split
  · exact SZ_kep (SZ_up h (by unfold inS; omega))
  · split
    · exact SZ_gon h hm
    · exact SZ_kep (SZ_up (SZ_up (SZ_up (SZ_up h (by unfold inS; omega)) (by unfold inS; omega)) (by unfold inS; omega)) (by unfold inS; omega))
theorem SZ_sds {Wm S : zv_H} {m c : Int} (h : SZ S) (hm : 0 ≤ m ∧ m < 6) : ∀ n : Nat, n ≤ 7 → SZ (sdsF Wm S m c n)
  | 0, _ => h
  | t + 1, q => by
    show SZ (if dstF Wm c t ≠ -1 then sndF (sdsF Wm S m c t) m t (S 0 0 + dstF Wm c t + Wm 0 4) else sdsF Wm S m c t)
    split
    · exact SZ_snd (SZ_sds h hm t (by omega)) hm ⟨by omega, by omega⟩
    · exact SZ_sds h hm t (by omega)
theorem SZ_rid {Wm S : zv_H} {m : Int} (hW : WI Wm) (h : SZ S) (hm : 0 ≤ m ∧ m < 6) : SZ (ridF Wm S m) := by
  have w1 := hW.1
  unfold ridF
  split
  · exact SZ_kep (SZ_up h (by unfold inS; omega))
  · exact SZ_gon (SZ_kep (SZ_sds h hm _ (by omega))) hm
theorem SZ_man {Wm S : zv_H} {m : Int} (hW : WI Wm) (hS : SI (Wm 0 1) (Wm 0 3) S) (h : SZ S) (hm : 0 ≤ m ∧ m < Wm 0 3) : SZ (manF Wm S m).1 := by
  have w1 := hW.1
  have w3 := hW.2.2.1
  have b := hS.2.2.2.2.1 m hm.1 hm.2
  unfold manF
  split
  · exact SZ_wal h (by omega)
  · split
    · exact SZ_rid hW h (by omega)
    · split
      · exact SZ_met h (by omega) (by omega)
      · exact h
theorem SZ_men {Wm S : zv_H} (hW : WI Wm) (hS : SI (Wm 0 1) (Wm 0 3) S) (h : SZ S) : ∀ n : Nat, (n : Int) ≤ Wm 0 3 → SZ (menF Wm S n).1
  | 0, _ => h
  | t + 1, q => SZ_man hW (SI_men hW hS t (by omega)) (SZ_men hW hS h t (by omega)) ⟨by omega, by omega⟩
theorem SZ_pas {Wm S : zv_H} (hW : WI Wm) (hS : SI (Wm 0 1) (Wm 0 3) S) (h : SZ S) : SZ (pasF Wm S).1 := by
  have w3 := hW.2.2.1
  exact SZ_up (SZ_men hW hS h _ (by omega)) (by unfold inS; omega)
theorem SZ_goo {Wm S : zv_H} (hW : WI Wm) (hS : SI (Wm 0 1) (Wm 0 3) S) (h : SZ S) : ∀ n : Nat, SZ (gooF Wm S n).1
  | 0 => h
  | t + 1 => SZ_pas hW (SI_goo hW hS t) (SZ_goo hW hS h t)
def sttF (Wm S : zv_H) : zv_H := fun f i => if 1 ≤ f ∧ f ≤ 3 ∧ 0 ≤ i ∧ i < 7 then Wm (f + 1) i else if f = 4 ∧ 0 ≤ i ∧ i < 6 then Wm 6 i else if f = 9 ∧ 0 ≤ i ∧ i < 42 then 1000000 else if f = 10 then S 10 i else 0
theorem SZ_stt {Wm S : zv_H} (h : SZ S) : SZ (sttF Wm S) := fun f i q => by
  unfold inS at q
  unfold sttF
  rw [if_neg (by omega), if_neg (by omega), if_neg (by omega)]
  split
  · rename_i e; exact h 10 i (by unfold inS; omega)
  · rfl
theorem SI_stt {Wm S : zv_H} (hW : WI Wm) (hr : ∀ k, 0 ≤ k → k < 60 → 0 ≤ S 10 k ∧ S 10 k ≤ 999999) : SI (Wm 0 1) (Wm 0 3) (sttF Wm S) := by
  obtain ⟨w1, w2, w3, w4, w5, w6, w7, w8, w9, w10⟩ := hW
  refine ⟨by simp [sttF], by simp [sttF], by simp [sttF], fun c h1 h2 => ?_, fun m h1 h2 => ?_, fun k h1 h2 => ?_, fun k h1 h2 => ?_⟩
  · have := w6 c h1 h2
    have e : ∀ f, 1 ≤ f → f ≤ 3 → sttF Wm S f c = Wm (f + 1) c := fun f q1 q2 => if_pos (by omega)
    rw [e 1 (by omega) (by omega), e 2 (by omega) (by omega), e 3 (by omega) (by omega)]
    exact this.2
  · have := w7 m h1 h2
    have e : sttF Wm S 4 m = Wm 6 m := by unfold sttF; rw [if_neg (by omega), if_pos (by omega)]
    have e2 : ∀ f, 5 ≤ f → f ≤ 8 → sttF Wm S f m = 0 := fun f q1 q2 => by unfold sttF; rw [if_neg (by omega), if_neg (by omega), if_neg (by omega), if_neg (by omega)]
    rw [e, e2 5 (by omega) (by omega), e2 6 (by omega) (by omega), e2 7 (by omega) (by omega), e2 8 (by omega) (by omega)]
    omega
  · have e : sttF Wm S 9 k = 1000000 := by unfold sttF; rw [if_neg (by omega), if_neg (by omega), if_pos (by omega)]
    omega
  · have e : sttF Wm S 10 k = S 10 k := by unfold sttF; rw [if_neg (by omega), if_neg (by omega), if_neg (by omega), if_pos rfl]
    rw [e]; exact hr k h1 h2
theorem zcpy_h {σ : zv_H} {a n b k : Int} : zcpy σ a n b n b k = if 0 ≤ k ∧ k < n then σ a k else σ b k := by
  unfold zcpy
  (repeat' split) <;> first | rfl | (exfalso; omega)
theorem cop_1 {σ : zv_H} {a b : Int} (hap : a + 10 < b ∨ b + 10 < a) (k : Int) : zcop σ a b (a + 1) k = if 0 ≤ k ∧ k < 7 then σ (b + 1) k else σ (a + 1) k := by
  unfold zcop
  rw [zup_n (by omega), zup_n (by omega)]
  rw [zcpy_n (by omega), zcpy_n (by omega), zcpy_n (by omega), zcpy_n (by omega), zcpy_n (by omega), zcpy_n (by omega), zcpy_n (by omega), zcpy_n (by omega), zcpy_n (by omega)]
  rw [zcpy_h]
  split
  · rw [zup_n (by omega)]
  · rw [zup_n (by omega)]
theorem cop_2 {σ : zv_H} {a b : Int} (hap : a + 10 < b ∨ b + 10 < a) (k : Int) : zcop σ a b (a + 2) k = if 0 ≤ k ∧ k < 7 then σ (b + 2) k else σ (a + 2) k := by
  unfold zcop
  rw [zup_n (by omega), zup_n (by omega)]
  rw [zcpy_n (by omega), zcpy_n (by omega), zcpy_n (by omega), zcpy_n (by omega), zcpy_n (by omega), zcpy_n (by omega), zcpy_n (by omega), zcpy_n (by omega)]
  rw [zcpy_h]
  split
  · rw [zcpy_n (by omega), zup_n (by omega)]
  · rw [zcpy_n (by omega), zup_n (by omega)]
theorem cop_3 {σ : zv_H} {a b : Int} (hap : a + 10 < b ∨ b + 10 < a) (k : Int) : zcop σ a b (a + 3) k = if 0 ≤ k ∧ k < 7 then σ (b + 3) k else σ (a + 3) k := by
  unfold zcop
  rw [zup_n (by omega), zup_n (by omega)]
  rw [zcpy_n (by omega), zcpy_n (by omega), zcpy_n (by omega), zcpy_n (by omega), zcpy_n (by omega), zcpy_n (by omega), zcpy_n (by omega)]
  rw [zcpy_h]
  split
  · rw [zcpy_n (by omega), zcpy_n (by omega), zup_n (by omega)]
  · rw [zcpy_n (by omega), zcpy_n (by omega), zup_n (by omega)]
theorem cop_4 {σ : zv_H} {a b : Int} (hap : a + 10 < b ∨ b + 10 < a) (k : Int) : zcop σ a b (a + 4) k = if 0 ≤ k ∧ k < 6 then σ (b + 4) k else σ (a + 4) k := by
  unfold zcop
  rw [zup_n (by omega), zup_n (by omega)]
  rw [zcpy_n (by omega), zcpy_n (by omega), zcpy_n (by omega), zcpy_n (by omega), zcpy_n (by omega), zcpy_n (by omega)]
  rw [zcpy_h]
  split
  · rw [zcpy_n (by omega), zcpy_n (by omega), zcpy_n (by omega), zup_n (by omega)]
  · rw [zcpy_n (by omega), zcpy_n (by omega), zcpy_n (by omega), zup_n (by omega)]
theorem cop_5 {σ : zv_H} {a b : Int} (hap : a + 10 < b ∨ b + 10 < a) (k : Int) : zcop σ a b (a + 5) k = if 0 ≤ k ∧ k < 6 then σ (b + 5) k else σ (a + 5) k := by
  unfold zcop
  rw [zup_n (by omega), zup_n (by omega)]
  rw [zcpy_n (by omega), zcpy_n (by omega), zcpy_n (by omega), zcpy_n (by omega), zcpy_n (by omega)]
  rw [zcpy_h]
  split
  · rw [zcpy_n (by omega), zcpy_n (by omega), zcpy_n (by omega), zcpy_n (by omega), zup_n (by omega)]
  · rw [zcpy_n (by omega), zcpy_n (by omega), zcpy_n (by omega), zcpy_n (by omega), zup_n (by omega)]
theorem cop_6 {σ : zv_H} {a b : Int} (hap : a + 10 < b ∨ b + 10 < a) (k : Int) : zcop σ a b (a + 6) k = if 0 ≤ k ∧ k < 6 then σ (b + 6) k else σ (a + 6) k := by
  unfold zcop
  rw [zup_n (by omega), zup_n (by omega)]
  rw [zcpy_n (by omega), zcpy_n (by omega), zcpy_n (by omega), zcpy_n (by omega)]
  rw [zcpy_h]
  split
  · rw [zcpy_n (by omega), zcpy_n (by omega), zcpy_n (by omega), zcpy_n (by omega), zcpy_n (by omega), zup_n (by omega)]
  · rw [zcpy_n (by omega), zcpy_n (by omega), zcpy_n (by omega), zcpy_n (by omega), zcpy_n (by omega), zup_n (by omega)]
theorem cop_7 {σ : zv_H} {a b : Int} (hap : a + 10 < b ∨ b + 10 < a) (k : Int) : zcop σ a b (a + 7) k = if 0 ≤ k ∧ k < 6 then σ (b + 7) k else σ (a + 7) k := by
  unfold zcop
  rw [zup_n (by omega), zup_n (by omega)]
  rw [zcpy_n (by omega), zcpy_n (by omega), zcpy_n (by omega)]
  rw [zcpy_h]
  split
  · rw [zcpy_n (by omega), zcpy_n (by omega), zcpy_n (by omega), zcpy_n (by omega), zcpy_n (by omega), zcpy_n (by omega), zup_n (by omega)]
  · rw [zcpy_n (by omega), zcpy_n (by omega), zcpy_n (by omega), zcpy_n (by omega), zcpy_n (by omega), zcpy_n (by omega), zup_n (by omega)]
theorem cop_8 {σ : zv_H} {a b : Int} (hap : a + 10 < b ∨ b + 10 < a) (k : Int) : zcop σ a b (a + 8) k = if 0 ≤ k ∧ k < 6 then σ (b + 8) k else σ (a + 8) k := by
  unfold zcop
  rw [zup_n (by omega), zup_n (by omega)]
  rw [zcpy_n (by omega), zcpy_n (by omega)]
  rw [zcpy_h]
  split
  · rw [zcpy_n (by omega), zcpy_n (by omega), zcpy_n (by omega), zcpy_n (by omega), zcpy_n (by omega), zcpy_n (by omega), zcpy_n (by omega), zup_n (by omega)]
  · rw [zcpy_n (by omega), zcpy_n (by omega), zcpy_n (by omega), zcpy_n (by omega), zcpy_n (by omega), zcpy_n (by omega), zcpy_n (by omega), zup_n (by omega)]
theorem cop_9 {σ : zv_H} {a b : Int} (hap : a + 10 < b ∨ b + 10 < a) (k : Int) : zcop σ a b (a + 9) k = if 0 ≤ k ∧ k < 42 then σ (b + 9) k else σ (a + 9) k := by
  unfold zcop
  rw [zup_n (by omega), zup_n (by omega)]
  rw [zcpy_n (by omega)]
  rw [zcpy_h]
  split
  · rw [zcpy_n (by omega), zcpy_n (by omega), zcpy_n (by omega), zcpy_n (by omega), zcpy_n (by omega), zcpy_n (by omega), zcpy_n (by omega), zcpy_n (by omega), zup_n (by omega)]
  · rw [zcpy_n (by omega), zcpy_n (by omega), zcpy_n (by omega), zcpy_n (by omega), zcpy_n (by omega), zcpy_n (by omega), zcpy_n (by omega), zcpy_n (by omega), zup_n (by omega)]
theorem cop_10 {σ : zv_H} {a b : Int} (hap : a + 10 < b ∨ b + 10 < a) (k : Int) : zcop σ a b (a + 10) k = if 0 ≤ k ∧ k < 60 then σ (b + 10) k else σ (a + 10) k := by
  unfold zcop
  rw [zup_n (by omega), zup_n (by omega)]
  skip
  rw [zcpy_h]
  split
  · rw [zcpy_n (by omega), zcpy_n (by omega), zcpy_n (by omega), zcpy_n (by omega), zcpy_n (by omega), zcpy_n (by omega), zcpy_n (by omega), zcpy_n (by omega), zcpy_n (by omega), zup_n (by omega)]
  · rw [zcpy_n (by omega), zcpy_n (by omega), zcpy_n (by omega), zcpy_n (by omega), zcpy_n (by omega), zcpy_n (by omega), zcpy_n (by omega), zcpy_n (by omega), zcpy_n (by omega), zup_n (by omega)]
theorem cop_0 {σ : zv_H} {a b : Int} (hap : a + 10 < b ∨ b + 10 < a) (k : Int) : zcop σ a b a k = if k = 0 ∨ k = 11 ∨ k = 12 then σ b k else σ a k := by
  unfold zcop
  by_cases h12 : k = 12
  · rw [h12, zup_s, if_pos (by omega)]
  · rw [zup_n (by omega)]
    by_cases h11 : k = 11
    · rw [h11, zup_s, if_pos (by omega)]
    · rw [zup_n (by omega), zcpy_n (by omega), zcpy_n (by omega), zcpy_n (by omega), zcpy_n (by omega), zcpy_n (by omega), zcpy_n (by omega), zcpy_n (by omega), zcpy_n (by omega), zcpy_n (by omega), zcpy_n (by omega)]
      by_cases h0 : k = 0
      · rw [h0, zup_s, if_pos (by omega)]
      · rw [zup_n (by omega), if_neg (by omega)]
theorem cop_o {σ : zv_H} {a b x : Int} (h : ¬ (a ≤ x ∧ x ≤ a + 10)) (k : Int) : zcop σ a b x k = σ x k := by
  unfold zcop
  rw [zup_n (by omega), zup_n (by omega), zcpy_n (by omega), zcpy_n (by omega), zcpy_n (by omega), zcpy_n (by omega), zcpy_n (by omega), zcpy_n (by omega), zcpy_n (by omega), zcpy_n (by omega), zcpy_n (by omega), zcpy_n (by omega), zup_n (by omega)]
theorem f10 {P : Int → Prop} {f : Int} (h : 1 ≤ f ∧ f ≤ 10) (p1 : P 1) (p2 : P 2) (p3 : P 3) (p4 : P 4) (p5 : P 5) (p6 : P 6) (p7 : P 7) (p8 : P 8) (p9 : P 9) (p10 : P 10) : P f := by
  have e : f = 1 ∨ f = 2 ∨ f = 3 ∨ f = 4 ∨ f = 5 ∨ f = 6 ∨ f = 7 ∨ f = 8 ∨ f = 9 ∨ f = 10 := by omega
  rcases e with rfl | rfl | rfl | rfl | rfl | rfl | rfl | rfl | rfl | rfl <;> assumption
def lnS (f : Int) : Int := if f ≤ 3 then 7 else if f ≤ 8 then 6 else if f = 9 then 42 else 60
theorem cop_f {σ : zv_H} {a b f : Int} (hap : a + 10 < b ∨ b + 10 < a) (hf : 1 ≤ f ∧ f ≤ 10) : ∀ k, zcop σ a b (a + f) k = if 0 ≤ k ∧ k < lnS f then σ (b + f) k else σ (a + f) k :=
  f10 (P := fun f => ∀ k, zcop σ a b (a + f) k = if 0 ≤ k ∧ k < lnS f then σ (b + f) k else σ (a + f) k) hf (cop_1 hap) (cop_2 hap) (cop_3 hap) (cop_4 hap) (cop_5 hap) (cop_6 hap) (cop_7 hap) (cop_8 hap) (cop_9 hap) (cop_10 hap)
theorem inS_f {f i : Int} (hf : 1 ≤ f ∧ f ≤ 10) : inS f i ↔ 0 ≤ i ∧ i < lnS f := by
  unfold inS lnS
  (repeat' split) <;> omega
theorem vw_cop {σ : zv_H} {a b : Int} (ha : a ∈ stL) (hb : b ∈ stL) (hab : a ≠ b) (h1 : SZ (vw 10 σ a)) (h2 : SZ (vw 10 σ b)) : vw 10 (zcop σ a b) a = vw 10 σ b := by
  have hap := st_ap ha hb hab
  funext f i
  by_cases h0 : f = 0
  · rw [h0, vw_0, vw_0, cop_0 hap]
    split
    · rfl
    · have q1 := h1 0 i (by unfold inS; omega)
      have q2 := h2 0 i (by unfold inS; omega)
      rw [vw_0] at q1 q2
      rw [q1, q2]
  · by_cases hf : 1 ≤ f ∧ f ≤ 10
    · rw [vw_f hf, vw_f hf, cop_f hap hf]
      split
      · rfl
      · have q1 := h1 f i (by rw [inS_f hf]; assumption)
        have q2 := h2 f i (by rw [inS_f hf]; assumption)
        rw [vw_f hf] at q1 q2
        rw [q1, q2]
    · have q : ¬ inS f i := by unfold inS; omega
      have e : ∀ τ c, vw 10 τ c f i = 0 := fun τ c => by unfold vw; rw [if_neg h0, if_neg hf]
      rw [e, e]
theorem stp_cop {σ : zv_H} {a b : Int} (ha : a ∈ stL) (hb : b ∈ stL) (hab : a ≠ b) (h1 : SZ (vw 10 σ a)) (h2 : SZ (vw 10 σ b)) : stp σ (zcop σ a b) a (vw 10 σ b) := ⟨vw_cop ha hb hab h1 h2, fun x k q _ _ => cop_o q k⟩
