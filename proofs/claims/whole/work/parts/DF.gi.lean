/-! THE CLASS AND THE MODEL TOGETHER -/
theorem SI_3 {nc nm : Int} {S : zv_H} (h : SI nc nm S) {c v : Int} (he : 0 ≤ v ∧ v ≤ 9) : SI nc nm (zup S 3 c v) := by
  obtain ⟨b0_q, b11_q, b12_q, bc, bm, bl, br⟩ := h
  refine ⟨by rw [zup_n (by omega)]; exact b0_q, by rw [zup_n (by omega)]; exact b11_q, by rw [zup_n (by omega)]; exact b12_q, fun k h1_q h2_q => ?_, fun k h1_q h2_q => ?_, fun k h1_q h2_q => by rw [zup_n (by omega)]; exact bl k h1_q h2_q, fun k h1_q h2_q => by rw [zup_n (by omega)]; exact br k h1_q h2_q⟩
  · have q := bc k h1_q h2_q
    rw [zup_n (by omega), zup_n (by omega)]
    refine ⟨q.1, q.2.1, ?_⟩
    by_cases e : k = c
    · rw [e, zup_s]; exact he
    · rw [zup_n (by omega)]; exact q.2.2
  · rw [zup_n (by omega), zup_n (by omega), zup_n (by omega), zup_n (by omega), zup_n (by omega)]; exact bm k h1_q h2_q
theorem SI_rdC {T : Int → Int} {Wm S : zv_H} (hW : WI Wm) (h : SI (Wm 0 1) (Wm 0 3) S) : ∀ c : Nat, (c : Int) ≤ Wm 0 1 → SI (Wm 0 1) (Wm 0 3) (rdC T Wm S c)
  | 0, _ => h
  | c + 1, q => by
    have ih := SI_rdC (T := T) hW h c (by omega)
    have w := hW.2.2.2.2.2.1 c (by omega) (by omega)
    have a := jv_b (v := T (2 + 4 * c)) (mo := Wm 2 c) (by omega)
    have b := jv_b (v := 256 * T (2 + 4 * c + 1) + T (2 + 4 * c + 2)) (mo := 999) (by omega)
    have d := jv_b (v := T (2 + 4 * c + 3)) (mo := 9) (by omega)
    exact SI_3 (SI_p (SI_q ih (by omega)) (by omega)) (by omega)
theorem SI_rdK {T : Int → Int} {nc nm m p : Int} {S : zv_H} (h : SI nc nm S) : ∀ c : Nat, SI nc nm (rdK T m p S c)
  | 0 => h
  | c + 1 => by
    have ih := SI_rdK (T := T) (m := m) (p := p) h c
    have b := h.1
    have d := jv_b (v := T (p + c)) (mo := 255) (by omega)
    show SI nc nm (if 0 < jv (T (p + c)) 255 then sndF (rdK T m p S c) m c (S 0 0 + jv (T (p + c)) 255 - 1) else rdK T m p S c)
    by_cases q : 0 < jv (T (p + c)) 255
    · rw [if_pos q]; exact SI_snd ih (by omega)
    · rw [if_neg q]; exact ih
theorem SI_rdP {T : Int → Int} {nc nm m p : Int} {S : zv_H} (h : SI nc nm S) (ok : okP T nc p) : SI nc nm (rdP T nc m p S) := by
  obtain ⟨o1_q, o2_q, o3_q, o4_q, o5_q, o6_q⟩ := ok
  have l : 0 ≤ lfm T p ∧ lfm T p ≤ 99 := by unfold lfm; omega
  have e1_q : jv (T p) (nc - 1) = T p := if_pos o1_q
  have e2_q : jv (T (p + 1)) 4 = T (p + 1) := if_pos o2_q
  have e3_q : jv (T (p + 2)) (lfm T p) = T (p + 2) := if_pos o3_q
  have e5_q : jv (T (p + 3)) 99 = T (p + 3) := if_pos o5_q
  have e6_q : jv (256 * T (p + 4) + T (p + 5)) 9999 = 256 * T (p + 4) + T (p + 5) := if_pos o6_q
  rw [e3_q, e2_q] at o4_q
  unfold rdP
  rw [e1_q, e2_q, e3_q, e5_q, e6_q]
  refine SI_m (m := m) h _ (fun g k q => by rw [zup_n (by omega), zup_n (by omega), zup_n (by omega), zup_n (by omega), zup_n (by omega)]) ?_
  have v4_q : zup (zup (zup (zup (zup S 4 m (T p)) 5 m (T (p + 1))) 6 m (T (p + 2))) 7 m (T (p + 3))) 8 m (256 * T (p + 4) + T (p + 5)) 4 m = T p := by rw [zup_n (by omega), zup_n (by omega), zup_n (by omega), zup_n (by omega), zup_s]
  have v5_q : zup (zup (zup (zup (zup S 4 m (T p)) 5 m (T (p + 1))) 6 m (T (p + 2))) 7 m (T (p + 3))) 8 m (256 * T (p + 4) + T (p + 5)) 5 m = T (p + 1) := by rw [zup_n (by omega), zup_n (by omega), zup_n (by omega), zup_s]
  have v6_q : zup (zup (zup (zup (zup S 4 m (T p)) 5 m (T (p + 1))) 6 m (T (p + 2))) 7 m (T (p + 3))) 8 m (256 * T (p + 4) + T (p + 5)) 6 m = T (p + 2) := by rw [zup_n (by omega), zup_n (by omega), zup_s]
  have v7_q : zup (zup (zup (zup (zup S 4 m (T p)) 5 m (T (p + 1))) 6 m (T (p + 2))) 7 m (T (p + 3))) 8 m (256 * T (p + 4) + T (p + 5)) 7 m = T (p + 3) := by rw [zup_n (by omega), zup_s]
  have v8_q : zup (zup (zup (zup (zup S 4 m (T p)) 5 m (T (p + 1))) 6 m (T (p + 2))) 7 m (T (p + 3))) 8 m (256 * T (p + 4) + T (p + 5)) 8 m = 256 * T (p + 4) + T (p + 5) := zup_s _ _ _ _
  rw [v4_q, v5_q, v6_q, v7_q, v8_q]
  omega
theorem SI_rdM {T : Int → Int} {nc nm : Int} {S : zv_H} (h : SI nc nm S) : ∀ m : Nat, okM T nc m → SI nc nm (rdM T nc S m)
  | 0, _ => h
  | m + 1, ok => SI_rdK (SI_rdP (SI_rdM h m ok.1) ok.2.1) _
theorem SI_rdA {T : Int → Int} {Wm A : zv_H} {n : Int} (hW : WI Wm) (hr : ∀ k, 0 ≤ k → k < 60 → 0 ≤ A 10 k ∧ A 10 k ≤ 999999) (ok : okA T Wm n) : SI (Wm 0 1) (Wm 0 3) (rdA T Wm (sttF Wm A)) := by
  have w1_q := hW.1
  exact SI_rdM (SI_rdC hW (SI_wk (SI_stt hW hr) (jv_b (by omega))) _ (by omega)) _ ok.2.2.2
theorem sfit_c {sg a b a' b' : Int → Int} {m : Int} : ∀ r : Nat, (∀ k : Int, 0 ≤ k → k < r → a' k = a k ∧ b' k = b k) → sfit sg a' b' m r = sfit sg a b m r
  | 0, _ => rfl
  | r + 1, h => by
    have q := h r (by omega) (by omega)
    rw [sfit_s, sfit_s, sfit_c r (fun k h1_q h2_q => h k h1_q (by omega)), q.1, q.2]
theorem sebN_c {sg a b a' b' : Int → Int} {n : Nat} (h : ∀ k : Int, 0 ≤ k → k < n → a' k = a k ∧ b' k = b k) : ∀ j : Nat, sebN sg a' b' n j = sebN sg a b n j
  | 0 => rfl
  | j + 1 => by
    show (if sfit sg a' b' j n = true then sebN sg a' b' n j + 2 ^ j else sebN sg a' b' n j) = (if sfit sg a b j n = true then sebN sg a b n j + 2 ^ j else sebN sg a b n j)
    rw [sfit_c n h, sebN_c h j]
theorem seeB_c {t t' : Int → Int} : ∀ r : Nat, (∀ k : Int, 0 ≤ k → k < 2 * (r : Int) → t' k = t k) → seeB t' r = seeB t r
  | 0, _ => rfl
  | r + 1, h => by
    rw [seeB_s, seeB_s, seeB_c r (fun k h1_q h2_q => h k h1_q (by omega)), h (2 * r) (by omega) (by omega), h (2 * r + 1) (by omega) (by omega)]
theorem imgL_b {Wm S : zv_H} (hW : WI Wm) : (imgL Wm S).length ≤ 109 := by
  have w1_q := hW.1
  have w3_q := hW.2.2.1
  have a := imgC_l S (Wm 0 1).toNat
  have b := imgM_l S (nc := (Wm 0 1).toNat) (by omega) (Wm 0 3).toNat
  unfold imgL imgB
  rw [List.length_append, List.length_append, List.length_append, imgH_l, a]
  show 2 + (4 * (Wm 0 1).toNat + (imgM S (Wm 0 1).toNat (Wm 0 3).toNat).length) + 1 ≤ 109
  omega
/-- .. and its ring is in bounds -/
def SZr (A : zv_H) : Prop := SZ A ∧ ∀ k, 0 ≤ k → k < 60 → 0 ≤ A 10 k ∧ A 10 k ≤ 999999
theorem SI_rb {nc nm : Int} {S : zv_H} (h : SI nc nm S) : ∀ k, 0 ≤ k → k < 60 → 0 ≤ S 10 k ∧ S 10 k ≤ 999999 := h.2.2.2.2.2.2
theorem rb_rdA {T : Int → Int} {Wm A : zv_H} (h : ∀ k, 0 ≤ k → k < 60 → 0 ≤ A 10 k ∧ A 10 k ≤ 999999) : ∀ k, 0 ≤ k → k < 60 → 0 ≤ rdA T Wm (sttF Wm A) 10 k ∧ rdA T Wm (sttF Wm A) 10 k ≤ 999999 := fun k h1_q h2_q => by
  have e : rdA T Wm (sttF Wm A) 10 k = A 10 k := by
    unfold rdA
    rw [rdM_0 (by omega), rdC_n (by omega), zup_n (by omega)]
    unfold sttF
    rw [if_neg (by omega), if_neg (by omega), if_neg (by omega), if_pos rfl]
  rw [e]; exact h k h1_q h2_q
def gN (w u : Int) : Prop := (w = 4 ∧ u = 17) ∨ (w = 17 ∧ u = 4)
theorem gN_w {w u : Int} (h : gN w u) : w ∈ wrL ∧ u ∈ wrL := by
  rcases h with ⟨rfl, rfl⟩ | ⟨rfl, rfl⟩ <;> exact ⟨by decide, by decide⟩
theorem gN_s {w u : Int} (h : gN w u) : gN u w := by
  rcases h with ⟨a, b⟩ | ⟨a, b⟩
  · exact Or.inr ⟨b, a⟩
  · exact Or.inl ⟨b, a⟩
/-- the ACTS of the class, the latest first -/
def gAc (σ : zv_H) (q nc nm : Int) (l : List zv_H) : Prop := σ 62 1 = q ∧ (0 ≤ q ∧ q < 20) ∧ (σ 62 2 = (l.length : Int) ∧ l.length ≤ 20) ∧ (∀ j, 0 ≤ j → j < 20 → SZ (vw 10 σ (actn j))) ∧ ∀ (j : Nat) (T : zv_H), l[j]? = some T → vw 10 σ (actn ((q + 19 - j) % 20)) = T ∧ SI nc nm T
def gTp (σ : zv_H) : Prop := (0 ≤ σ 2 1 ∧ σ 2 1 ≤ 1600) ∧ σ 289 1 = σ 2 1 ∧ ∀ k, 0 ≤ k → k < σ 2 1 → σ 290 k = σ 3 k ∧ 0 ≤ σ 3 k ∧ σ 3 k ≤ 255
def gOw (σ : zv_H) : Prop := ∀ k, 0 ≤ k → k < 24 → σ 54 k = ownR k
def gFl (σ : zv_H) : Prop := σ 289 10 = σ 1 11 ∧ σ 289 11 = σ 1 12
def gSd (σ : zv_H) : Prop := σ 289 59 = σ 1 10 ∧ 0 ≤ σ 1 10 ∧ σ 1 10 ≤ 2147483647
def gSn (σ : zv_H) : Prop := σ 289 67 = σ 1 15 ∧ (0 ≤ σ 1 15 ∧ σ 1 15 ≤ 16) ∧ ∀ k, 0 ≤ k → k < σ 1 15 → σ 332 k = σ 286 k ∧ σ 333 k = σ 287 k
def gIm (σ : zv_H) : Prop := σ 289 71 = σ 284 1 ∧ (0 ≤ σ 284 1 ∧ σ 284 1 ≤ 109) ∧ ∀ k, 0 ≤ k → k < σ 284 1 → σ 334 k = σ 285 k
def gRf (σ : zv_H) : Prop := ∀ k, 0 ≤ k → k < 6 → σ 314 k = σ 288 k
def gMo (σ : zv_H) (b : Int) (Wm S : zv_H) (l : List zv_H) : Prop := (b = 0 ∨ b = 1) ∧ stM σ σ b 0 Wm S ∧ acM σ (Wm 0 1) (Wm 0 3) l
def GK (c : Int → Int) (σ : zv_H) (w u b q : Int) (Wm S : zv_H) (l : List zv_H) : Prop :=
  (∀ k, σ 0 k = c k) ∧ (gN w u ∧ σ 1 8 = w ∧ σ 1 9 = u) ∧ (vw 12 σ w = Wm ∧ vw 10 σ 30 = S) ∧ (SI (Wm 0 1) (Wm 0 3) S ∧ WI Wm ∧ WT Wm ∧ SZ S) ∧ SZr (vw 10 σ 41) ∧ gAc σ q (Wm 0 1) (Wm 0 3) l ∧ gTp σ ∧ gOw σ ∧ gFl σ ∧ gSd σ ∧ gSn σ ∧ gIm σ ∧ gRf σ ∧ gMo σ b Wm S l
def GI (c : Int → Int) (σ : zv_H) : Prop := ∃ (w u b q : Int) (Wm S : zv_H) (l : List zv_H), GK c σ w u b q Wm S l
theorem gAc_x {σ σ' : zv_H} {q nc nm : Int} {l : List zv_H} (h : gAc σ q nc nm l) (he : ∀ x k, (x = 62 ∧ (k = 1 ∨ k = 2)) ∨ (64 ≤ x ∧ x ≤ 283) → σ' x k = σ x k) : gAc σ' q nc nm l := by
  obtain ⟨a, b, ⟨c, d⟩, e, f⟩ := h
  have v : ∀ j, 0 ≤ j → j < 20 → vw 10 σ' (actn j) = vw 10 σ (actn j) := fun j h1_q h2_q => vw_eq (fun x k q1_q q2_q => he x k (Or.inr (by unfold actn at q1_q q2_q; omega))) (by omega)
  refine ⟨by rw [he 62 1 (by omega)]; exact a, b, ⟨by rw [he 62 2 (by omega)]; exact c, d⟩, fun j h1_q h2_q => by rw [v j h1_q h2_q]; exact e j h1_q h2_q, fun j T hj => ?_⟩
  rw [v _ (by omega) (by omega)]
  exact f j T hj
theorem gTp_x {σ σ' : zv_H} (h : gTp σ) (he : ∀ x k, (x = 2 ∧ k = 1) ∨ x = 3 ∨ (x = 289 ∧ k = 1) ∨ x = 290 → σ' x k = σ x k) : gTp σ' := by
  obtain ⟨a, b, c⟩ := h
  unfold gTp
  rw [he 2 1 (by omega), he 289 1 (by omega)]
  exact ⟨a, b, fun k h1_q h2_q => by rw [he 290 k (by omega), he 3 k (by omega)]; exact c k h1_q h2_q⟩
theorem gOw_x {σ σ' : zv_H} (h : gOw σ) (he : ∀ k, σ' 54 k = σ 54 k) : gOw σ' := fun k h1_q h2_q => by rw [he]; exact h k h1_q h2_q
theorem gFl_x {σ σ' : zv_H} (h : gFl σ) (he : ∀ x k, (x = 289 ∧ (k = 10 ∨ k = 11)) ∨ (x = 1 ∧ (k = 11 ∨ k = 12)) → σ' x k = σ x k) : gFl σ' := by
  unfold gFl
  rw [he 289 10 (by omega), he 289 11 (by omega), he 1 11 (by omega), he 1 12 (by omega)]
  exact h
theorem gSd_x {σ σ' : zv_H} (h : gSd σ) (he : ∀ x k, (x = 289 ∧ k = 59) ∨ (x = 1 ∧ k = 10) → σ' x k = σ x k) : gSd σ' := by
  unfold gSd
  rw [he 289 59 (by omega), he 1 10 (by omega)]
  exact h
theorem gSn_x {σ σ' : zv_H} (h : gSn σ) (he : ∀ x k, (x = 289 ∧ k = 67) ∨ (x = 1 ∧ k = 15) ∨ x = 332 ∨ x = 333 ∨ x = 286 ∨ x = 287 → σ' x k = σ x k) : gSn σ' := by
  obtain ⟨a, b, c⟩ := h
  unfold gSn
  rw [he 289 67 (by omega), he 1 15 (by omega)]
  exact ⟨a, b, fun k h1_q h2_q => by rw [he 332 k (by omega), he 333 k (by omega), he 286 k (by omega), he 287 k (by omega)]; exact c k h1_q h2_q⟩
theorem gIm_x {σ σ' : zv_H} (h : gIm σ) (he : ∀ x k, (x = 289 ∧ k = 71) ∨ (x = 284 ∧ k = 1) ∨ x = 334 ∨ x = 285 → σ' x k = σ x k) : gIm σ' := by
  obtain ⟨a, b, c⟩ := h
  unfold gIm
  rw [he 289 71 (by omega), he 284 1 (by omega)]
  exact ⟨a, b, fun k h1_q h2_q => by rw [he 334 k (by omega), he 285 k (by omega)]; exact c k h1_q h2_q⟩
theorem gRf_x {σ σ' : zv_H} (h : gRf σ) (he : ∀ x k, x = 314 ∨ x = 288 → σ' x k = σ x k) : gRf σ' := fun k h1_q h2_q => by
  rw [he 314 k (by omega), he 288 k (by omega)]
  exact h k h1_q h2_q
theorem gRf_r {σ σ' : zv_H} {i : Int} (h : gRf σ) (h1_q : ∀ k, σ' 288 k = if k = i then w32 (σ 288 i + 1) else σ 288 k) (h2_q : ∀ k, σ' 314 k = if k = i then w32 (σ 314 i + 1) else σ 314 k) (hi : 0 ≤ i ∧ i < 6) : gRf σ' := fun k k1_q k2_q => by
  rw [h1_q, h2_q]
  by_cases e : k = i
  · rw [if_pos e, if_pos e, h i hi.1 hi.2]
  · rw [if_neg e, if_neg e]; exact h k k1_q k2_q
theorem wM_b {σ σ' Wm : zv_H} {b : Int} (h : wM σ b Wm) (hW : WI Wm) (he : ∀ x k, inB b x k → σ' x k = σ x k) : wM σ' b Wm := by
  obtain ⟨⟨a1_q, a2_q, a3_q, a4_q⟩, c1_q, c2_q, c3_q, f0_q, f1_q⟩ := h
  have w1_q := hW.1
  have w3_q := hW.2.2.1
  have fm : ∀ (g : Int) (s : Int → Int) (len : Int), (g = 0 ∨ g = 1) → fmM σ b g s len → fmM σ' b g s len := fun g s len hg q => by
    rcases q with ⟨q1_q, q2_q⟩ | ⟨q1_q, i0_q, q2_q, q3_q, q4_q, q5_q, q6_q⟩
    · exact Or.inl ⟨q1_q, by rw [he 302 _ (by unfold inB; omega)]; exact q2_q⟩
    · refine Or.inr ⟨q1_q, i0_q, q2_q, by rw [he 302 _ (by unfold inB; omega)]; exact q3_q, by rw [he 303 _ (by unfold inB; omega)]; exact q4_q, fun i k1_q k2_q => ?_, q6_q⟩
      rw [he 304 _ (by unfold inB; omega), he 305 _ (by unfold inB; omega)]
      exact q5_q i k1_q k2_q
  refine ⟨⟨by rw [he 291 b (by unfold inB; omega)]; exact a1_q, by rw [he 295 b (by unfold inB; omega)]; exact a2_q, by rw [he 298 b (by unfold inB; omega)]; exact a3_q, by rw [he 301 b (by unfold inB; omega)]; exact a4_q⟩, fun c h1_q h2_q => ?_, fun m h1_q h2_q => ?_, fun f t h1_q h2_q h3_q h4_q => ?_, fm 0 _ _ (by omega) f0_q, fm 1 _ _ (by omega) f1_q⟩
  · rw [he 292 _ (by unfold inB; omega), he 293 _ (by unfold inB; omega), he 294 _ (by unfold inB; omega), he 306 _ (by unfold inB; omega)]
    exact c1_q c h1_q h2_q
  · rw [he 299 _ (by unfold inB; omega), he 300 _ (by unfold inB; omega), he 307 _ (by unfold inB; omega)]
    exact c2_q m h1_q h2_q
  · rw [he 297 _ (by unfold inB; omega)]
    exact c3_q f t h1_q h2_q h3_q h4_q
theorem gMo_x {σ σ' Wm S : zv_H} {b : Int} {l : List zv_H} (h : gMo σ b Wm S l) (hW : WI Wm) (h12_q : S 0 12 ≤ 60) (he : ∀ x k, (x = 289 ∧ (k = 13 ∨ k = 57 ∨ k = 58)) ∨ inB b x k ∨ (315 ≤ x ∧ x ≤ 326 ∧ ¬ inV 1 x k) → σ' x k = σ x k) : gMo σ' b Wm S l := by
  obtain ⟨hb, ⟨r, w, h13_q, _⟩, ac⟩ := h
  refine ⟨hb, ⟨rM_v r hW.1.2 hW.2.2.1.2 h12_q (fun x k q => he x k (Or.inr (Or.inr ?_))), wM_b w hW (fun x k q => he x k (Or.inr (Or.inl q))), by rw [he 289 13 (by omega)]; exact h13_q, fun _ _ _ _ _ => rfl⟩, acM_v (v := 1) ac hW.1.2 hW.2.2.1.2 (by omega) (fun x k q1_q q2_q q3_q => he x k (Or.inr (Or.inr ⟨q1_q, q2_q, q3_q⟩))) (he 289 57 (by omega)) (he 289 58 (by omega))⟩
  exact ⟨by unfold inV at q; omega, by unfold inV at q; omega, inV_d q (by omega)⟩
/-- the cells on which nothing rests -/
def fr (u b x k : Int) : Prop := (u ≤ x ∧ x ≤ u + 12) ∨ (41 ≤ x ∧ x ≤ 53) ∨ (55 ≤ x ∧ x ≤ 61) ∨ (x = 284 ∧ k ≠ 1) ∨ (x = 289 ∧ ((2 ≤ k ∧ k ≤ 9) ∨ k = 12 ∨ (14 ≤ k ∧ k ≤ 56) ∨ (60 ≤ k ∧ k ≤ 66))) ∨ (308 ≤ x ∧ x ≤ 313) ∨ (327 ≤ x ∧ x ≤ 331) ∨ inV 1 x k ∨ inB (1 - b) x k
theorem GK_x {c : Int → Int} {σ σ' : zv_H} {w u b q : Int} {Wm S : zv_H} {l : List zv_H} (h : GK c σ w u b q Wm S l) (he : ∀ x k, ¬ fr u b x k → σ' x k = σ x k) (hz : SZr (vw 10 σ' 41)) : GK c σ' w u b q Wm S l := by
  obtain ⟨h0_q, ⟨hn, h8_q, h9_q⟩, ⟨hw, hs⟩, ⟨i1_q, i2_q, i3_q, i4_q⟩, _, ac, tp, ow, fl, sd, sn, im, rf, mo⟩ := h
  have hu : (w = 4 ∧ u = 17) ∨ (w = 17 ∧ u = 4) := hn
  have hb := mo.1
  have e : ∀ x k, ¬ (u ≤ x ∧ x ≤ u + 12) → ¬ (41 ≤ x ∧ x ≤ 53) → ¬ (55 ≤ x ∧ x ≤ 61) → ¬ (x = 284 ∧ k ≠ 1) → x ≤ 288 → σ' x k = σ x k := fun x k a1_q a2_q a3_q a4_q a5_q => he x k (fun q => by unfold fr inV inB at q; omega)
  have em : ∀ k, (k = 1 ∨ k = 10 ∨ k = 11 ∨ k = 13 ∨ k = 57 ∨ k = 58 ∨ k = 59 ∨ k = 67 ∨ k = 71) → σ' 289 k = σ 289 k := fun k a => he 289 k (fun q => by unfold fr inV inB at q; omega)
  have eb : ∀ x k, x = 290 ∨ x = 314 ∨ x = 332 ∨ x = 333 ∨ x = 334 → σ' x k = σ x k := fun x k a => he x k (fun q => by unfold fr inV inB at q; omega)
  refine ⟨fun k => by rw [e 0 k (by omega) (by omega) (by omega) (by omega) (by omega)]; exact h0_q k, ⟨hn, by rw [e 1 8 (by omega) (by omega) (by omega) (by omega) (by omega)]; exact h8_q, by rw [e 1 9 (by omega) (by omega) (by omega) (by omega) (by omega)]; exact h9_q⟩, ⟨?_, ?_⟩, ⟨i1_q, i2_q, i3_q, i4_q⟩, hz, gAc_x ac (fun x k q => e x k (by omega) (by omega) (by omega) (by omega) (by omega)), gTp_x tp (fun x k q => ?_), gOw_x ow (fun k => e 54 k (by omega) (by omega) (by omega) (by omega) (by omega)), gFl_x fl (fun x k q => ?_), gSd_x sd (fun x k q => ?_), gSn_x sn (fun x k q => ?_), gIm_x im (fun x k q => ?_), gRf_x rf (fun x k q => ?_), gMo_x mo i2_q i1_q.2.2.1.2 (fun x k q => ?_)⟩
  · rw [← hw]
    exact vw_eq (fun x k q1_q q2_q => e x k (by omega) (by omega) (by omega) (by omega) (by omega)) (by omega)
  · rw [← hs]
    exact vw_eq (fun x k q1_q q2_q => e x k (by omega) (by omega) (by omega) (by omega) (by omega)) (by omega)
  · by_cases c1_q : x ≤ 288
    · exact e x k (by omega) (by omega) (by omega) (by omega) c1_q
    · by_cases c2_q : x = 289
      · rw [c2_q]; exact em k (by omega)
      · exact eb x k (by omega)
  · by_cases c2_q : x = 289
    · rw [c2_q]; exact em k (by omega)
    · exact e x k (by omega) (by omega) (by omega) (by omega) (by omega)
  · by_cases c2_q : x = 289
    · rw [c2_q]; exact em k (by omega)
    · exact e x k (by omega) (by omega) (by omega) (by omega) (by omega)
  · by_cases c1_q : x ≤ 288
    · exact e x k (by omega) (by omega) (by omega) (by omega) c1_q
    · by_cases c2_q : x = 289
      · rw [c2_q]; exact em k (by omega)
      · exact eb x k (by omega)
  · by_cases c1_q : x ≤ 288
    · exact e x k (by omega) (by omega) (by omega) (by omega) c1_q
    · by_cases c2_q : x = 289
      · rw [c2_q]; exact em k (by omega)
      · exact eb x k (by omega)
  · by_cases c1_q : x ≤ 288
    · exact e x k (by omega) (by omega) (by omega) (by omega) c1_q
    · exact eb x k (by omega)
  · rcases q with q | q | q
    · rw [q.1]; exact em k (by omega)
    · exact he x k (fun r => by unfold inB at q; unfold fr inV inB at r; omega)
    · exact he x k (fun r => by
        have q3_q := q.2.2
        rcases r with r | r | r | r | r | r | r | r | r
        · omega
        · omega
        · omega
        · omega
        · omega
        · omega
        · omega
        · exact q3_q r
        · unfold inB at r; omega)
/-- what stands from name 289 on is the model's -/
theorem gMo_lo {σ σ' Wm S : zv_H} {b : Int} {l : List zv_H} (h : gMo σ b Wm S l) (hW : WI Wm) (h12_q : S 0 12 ≤ 60) (he : ∀ x k, 289 ≤ x → σ' x k = σ x k) : gMo σ' b Wm S l := gMo_x h hW h12_q (fun x k q => he x k (by unfold inB at q; omega))
/-! one call of each -/
def gQ (Γ : zv_M) (L : Int) (c : Int → Int) (y : zv_Y) (F : Nat) (as : List zv_A) (σ : zv_H) : Int → zv_H → Prop := fun z σ1 => (∀ k, σ1 0 k = σ 0 k) ∧ zC Γ y F 0 0 (GM L) as σ1 (zPI (GM L) (fun z2_q σ2 => z2_q = z ∧ GI c σ2))
theorem g_p {Γ : zv_M} {L : Int} {c : Int → Int} {y y' : zv_Y} {F F' : Nat} {as as' : List zv_A} {σ : zv_H} {P : Int → zv_H → Prop} (h1_q : zC Γ y F 0 0 (GM L) as σ (zPI (GM L) P)) (h2_q : ∀ z σ1, P z σ1 → gQ Γ L c y' F' as' σ z σ1) : zC Γ y F 0 0 (GM L) as σ (zPI (GM L) (gQ Γ L c y' F' as' σ)) := zC_mono (fun q G' σ' hq => by
  obtain ⟨e, z, e2_q, h⟩ := hq
  exact ⟨e, z, e2_q, h2_q z σ' h⟩) h1_q
theorem g_f {Γ : zv_M} {L : Int} {c : Int → Int} {y y' : zv_Y} {F F' : Nat} {as as' : List zv_A} {σ σ1 : zv_H} {z : Int} (h1_q : zC Γ y F 0 0 (GM L) as σ (zFn (some (zI z)) (GM L) σ1)) (h2_q : gQ Γ L c y' F' as' σ z σ1) : zC Γ y F 0 0 (GM L) as σ (zPI (GM L) (gQ Γ L c y' F' as' σ)) := zC_mono (fun q G' σ' hq => by
  obtain ⟨e1_q, e2_q, e3_q⟩ := hq
  subst e1_q e2_q e3_q
  exact ⟨rfl, z, rfl, h2_q⟩) h1_q
theorem g2_p {Γ : zv_M} {L : Int} {c : Int → Int} {y' : zv_Y} {F' : Nat} {as' : List zv_A} {σ σ1 : zv_H} {z : Int} {P : Int → zv_H → Prop} (h0_q : ∀ k, σ1 0 k = σ 0 k) (h1_q : zC Γ y' F' 0 0 (GM L) as' σ1 (zPI (GM L) P)) (h2_q : ∀ z2_q σ2, P z2_q σ2 → z2_q = z ∧ GI c σ2) : gQ Γ L c y' F' as' σ z σ1 := ⟨h0_q, zC_mono (fun q G' σ' hq => by
  obtain ⟨e, z2_q, e2_q, h⟩ := hq
  exact ⟨e, z2_q, e2_q, h2_q z2_q σ' h⟩) h1_q⟩
theorem g2_f {Γ : zv_M} {L : Int} {c : Int → Int} {y' : zv_Y} {F' : Nat} {as' : List zv_A} {σ σ1 σ2 : zv_H} {z z2_q : Int} (h0_q : ∀ k, σ1 0 k = σ 0 k) (h1_q : zC Γ y' F' 0 0 (GM L) as' σ1 (zFn (some (zI z2_q)) (GM L) σ2)) (e : z2_q = z) (h2_q : GI c σ2) : gQ Γ L c y' F' as' σ z σ1 := ⟨h0_q, zC_mono (fun q G' σ' hq => by
  obtain ⟨e1_q, e2_q, e3_q⟩ := hq
  subst e1_q e2_q e3_q
  exact ⟨rfl, z2_q, rfl, e, h2_q⟩) h1_q⟩
/-- both only ask -/
theorem g_ask {Γ : zv_M} {L : Int} {c : Int → Int} {y y' : zv_Y} {F F' : Nat} {as as' : List zv_A} {σ : zv_H} {z z2_q : Int} (hG : GI c σ) (h1_q : zC Γ y F 0 0 (GM L) as σ (zFn (some (zI z)) (GM L) σ)) (h2_q : zC Γ y' F' 0 0 (GM L) as' σ (zFn (some (zI z2_q)) (GM L) σ)) (e : z2_q = z) : zC Γ y F 0 0 (GM L) as σ (zPI (GM L) (gQ Γ L c y' F' as' σ)) := g_f h1_q (g2_f (fun _ => rfl) h2_q e hG)
