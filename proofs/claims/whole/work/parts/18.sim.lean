/-! THE MATHEMATICAL MIDDLE: a state S, a war Wm (rows as in the classes State, War), and what a WEEK does -/
/-- rows a .. a + n of the heap -/
def vw (n : Int) (σ : zv_H) (a : Int) : zv_H := fun f i => if f = 0 then σ a i else if 1 ≤ f ∧ f ≤ n then σ (a + f) i else 0
theorem vw_0 (n : Int) (σ : zv_H) (a i : Int) : vw n σ a 0 i = σ a i := if_pos rfl
theorem vw_f {n : Int} {σ : zv_H} {a f : Int} (h : 1 ≤ f ∧ f ≤ n) (i : Int) : vw n σ a f i = σ (a + f) i := by unfold vw; rw [if_neg (by omega), if_pos h]
theorem vw_eq {n : Int} {σ σ' : zv_H} {a : Int} (h : ∀ x k, a ≤ x → x ≤ a + n → σ' x k = σ x k) (hn : 0 ≤ n) : vw n σ' a = vw n σ a := by
  funext f i
  unfold vw
  split
  · exact h a i (by omega) (by omega)
  · split
    · exact h (a + f) i (by omega) (by omega)
    · rfl
theorem vw_up0 {n : Int} {σ : zv_H} {a i v : Int} : vw n (zup σ a i v) a = zup (vw n σ a) 0 i v := by
  funext f j
  unfold vw zup
  dsimp only
  (repeat' split) <;> first | rfl | (exfalso; omega)
theorem vw_up {n : Int} {σ : zv_H} {a g i v : Int} (h : 1 ≤ g ∧ g ≤ n) : vw n (zup σ (a + g) i v) a = zup (vw n σ a) g i v := by
  funext f j
  unfold vw zup
  dsimp only
  (repeat' split) <;> first | rfl | (exfalso; omega)
def dstF (Wm : zv_H) (f t : Int) : Int := if (0 ≤ f ∧ f < Wm 0 1) ∧ (0 ≤ t ∧ t < Wm 0 1) ∧ Wm 12 (f * 7 + t) < 1000000 then Wm 12 (f * 7 + t) else -1
def envF (S : zv_H) (m c p d : Int) : Int → Int := fun s => if s = -1 then S 3 c else if s = -2 then p else if s = -3 then S 7 m else if s = -4 then S 8 m else if s = -5 then S 0 0 else if s = -6 then S 1 c else d
def jmpF (Wm S : zv_H) (m c : Int) : Bool := decide (Wm 8 1 ≤ 0) || decide ((crun (envF S m c (S 2 c) 0) (Wm 9) (Wm 8 1).toNat).headD 0 ≠ 0)
def likF (Wm S : zv_H) (m c p : Int) : Int := if Wm 10 1 ≤ 0 then p else (crun (envF S m c p (dstF Wm (S 4 m) c)) (Wm 11) (Wm 10 1).toNat).headD 0
def nxtL (Wm S : zv_H) (m : Int) : Nat → Int × Int
  | 0 => (-1, 0)
  | t + 1 => if (t : Int) ≠ S 4 m ∧ dstF Wm (S 4 m) t ≠ -1 ∧ ((nxtL Wm S m t).1 = -1 ∨ (nxtL Wm S m t).2 < likF Wm S m t (S 2 t)) then ((t : Int), likF Wm S m t (S 2 t)) else nxtL Wm S m t
def nxtF (Wm S : zv_H) (m : Int) : Int := (nxtL Wm S m (Wm 0 1).toNat).1
def gonF (Wm S : zv_H) (m : Int) : zv_H := if nxtF Wm S m = -1 then zup S 5 m 0 else zup (zup (zup S 5 m 1) 6 m (dstF Wm (S 4 m) (nxtF Wm S m))) 4 m (nxtF Wm S m)
def kepF (S : zv_H) (e : Int) : zv_H := if S 0 12 < 60 then zup (zup S 10 ((S 0 11 + S 0 12) % 60) e) 0 12 (S 0 12 + 1) else zup (zup S 10 ((S 0 11 + S 0 12) % 60) e) 0 11 ((S 0 11 + 1) % 60)
def entF (S : zv_H) (m c t : Int) : Int := ((S 0 0 * 10 + m) * 10 + c) * 10 + t
def sndF (S : zv_H) (m c t : Int) : zv_H := if t < S 9 (m * 7 + c) then zup S 9 (m * 7 + c) t else S
def knwF (Wm S : zv_H) (m c t : Int) : Bool := zknB (Wm 7) (S 9) m c t (Wm 0 3).toNat
def walF (S : zv_H) (m : Int) : zv_H := if max 0 (S 6 m - 1) = 0 then zup (zup S 6 m (max 0 (S 6 m - 1))) 5 m 0 else zup S 6 m (max 0 (S 6 m - 1))
def metF (Wm S : zv_H) (m : Int) : zv_H × Int :=
  if knwF Wm S m (S 4 m) (S 0 0) = true then (kepF (zup S 5 m 3) (entF S m (S 4 m) 3), 0)
  else if S 1 (S 4 m) = 0 then (gonF Wm S m, 0)
  else (kepF (zup (zup (zup (zup S 1 (S 4 m) (S 1 (S 4 m) - 1)) 8 m (min 9999 (S 8 m + S 2 (S 4 m)))) 7 m (min 99 (S 7 m + 1))) 5 m 2) (entF S m (S 4 m) 1), 1)
def sdsF (Wm S : zv_H) (m c : Int) : Nat → zv_H
  | 0 => S
  | t + 1 => if dstF Wm c t ≠ -1 then sndF (sdsF Wm S m c t) m t (S 0 0 + dstF Wm c t + Wm 0 4) else sdsF Wm S m c t
def ridF (Wm S : zv_H) (m : Int) : zv_H :=
  if jmpF Wm S m (S 4 m) = false then kepF (zup S 5 m 4) (entF S m (S 4 m) 4)
  else gonF Wm (kepF (sdsF Wm S m (S 4 m) (Wm 0 1).toNat) (entF S m (S 4 m) 2)) m
def manF (Wm S : zv_H) (m : Int) : zv_H × Int := if S 5 m = 1 then (walF S m, 0) else if S 5 m = 2 then (ridF Wm S m, 0) else if S 5 m = 0 then metF Wm S m else (S, 0)
def menF (Wm S : zv_H) : Nat → zv_H × Int
  | 0 => (S, 0)
  | m + 1 => ((manF Wm (menF Wm S m).1 m).1, (menF Wm S m).2 + (manF Wm (menF Wm S m).1 m).2)
def pasF (Wm S : zv_H) : zv_H × Int := (zup (menF Wm S (Wm 0 3).toNat).1 0 0 (min 999 ((menF Wm S (Wm 0 3).toNat).1 0 0 + 1)), (menF Wm S (Wm 0 3).toNat).2)
def gooF (Wm S : zv_H) : Nat → zv_H × Int
  | 0 => (S, 0)
  | n + 1 => ((pasF Wm (gooF Wm S n).1).1, (gooF Wm S n).2 + (pasF Wm (gooF Wm S n).1).2)
/-- what is so of every state: nc COUNTIES, nm MEN -/
def SI (nc nm : Int) (S : zv_H) : Prop :=
  (0 ≤ S 0 0 ∧ S 0 0 ≤ 999) ∧ (0 ≤ S 0 11 ∧ S 0 11 < 60) ∧ (0 ≤ S 0 12 ∧ S 0 12 ≤ 60) ∧
  (∀ c, 0 ≤ c → c < nc → (0 ≤ S 1 c ∧ S 1 c ≤ 20) ∧ (0 ≤ S 2 c ∧ S 2 c ≤ 999) ∧ (0 ≤ S 3 c ∧ S 3 c ≤ 9)) ∧
  (∀ m, 0 ≤ m → m < nm → (0 ≤ S 4 m ∧ S 4 m < nc) ∧ (0 ≤ S 5 m ∧ S 5 m ≤ 4) ∧ (0 ≤ S 6 m ∧ S 6 m ≤ 99) ∧ (0 ≤ S 7 m ∧ S 7 m ≤ 99) ∧ (0 ≤ S 8 m ∧ S 8 m ≤ 9999) ∧ (S 5 m = 1 ↔ 1 ≤ S 6 m)) ∧
  (∀ k, 0 ≤ k → k < 42 → 0 ≤ S 9 k ∧ (S 9 k ≤ 2000 ∨ S 9 k = 1000000)) ∧
  (∀ k, 0 ≤ k → k < 60 → 0 ≤ S 10 k ∧ S 10 k ≤ 999999)
/-- of formulas: with every reasonable asking they come to one value -/
def FI (s : Int → Int) (n : Int) : Prop := 0 ≤ n ∧ n ≤ 1600 ∧ (0 < n → ∀ E : Int → Int, (∀ q, -1000 ≤ E q ∧ E q ≤ 10000) → crok E s n.toNat ∧ (crun E s n.toNat).length = 1)
/-- what is so of every war -/
def WI (Wm : zv_H) : Prop :=
  (0 ≤ Wm 0 1 ∧ Wm 0 1 ≤ 7) ∧ (0 ≤ Wm 0 2 ∧ Wm 0 2 ≤ 12) ∧ (0 ≤ Wm 0 3 ∧ Wm 0 3 ≤ 6) ∧ (0 ≤ Wm 0 4 ∧ Wm 0 4 ≤ 9) ∧ (0 ≤ Wm 0 0 ∧ Wm 0 0 ≤ 80) ∧
  (∀ c, 0 ≤ c → c < Wm 0 1 → (0 ≤ Wm 1 c ∧ Wm 1 c ≤ 387420488) ∧ (0 ≤ Wm 2 c ∧ Wm 2 c ≤ 20) ∧ (0 ≤ Wm 3 c ∧ Wm 3 c ≤ 999) ∧ (0 ≤ Wm 4 c ∧ Wm 4 c ≤ 9)) ∧
  (∀ m, 0 ≤ m → m < Wm 0 3 → (0 ≤ Wm 5 m ∧ Wm 5 m ≤ 387420488) ∧ (0 ≤ Wm 6 m ∧ Wm 6 m < Wm 0 1) ∧ (0 ≤ Wm 7 m ∧ Wm 7 m ≤ 63)) ∧
  FI (Wm 9) (Wm 8 1) ∧ FI (Wm 11) (Wm 10 1) ∧
  (∀ f t, 0 ≤ f → f < Wm 0 1 → 0 ≤ t → t < Wm 0 1 → 0 ≤ Wm 12 (f * 7 + t) ∧ (Wm 12 (f * 7 + t) ≤ 54 ∨ Wm 12 (f * 7 + t) = 1000000) ∧ (Wm 12 (f * 7 + t) = 0 ↔ f = t))
/-- a step on the state at a: the state is S' behind it, all else stays but the reckoner's notes -/
def stp (σ σ' : zv_H) (a : Int) (S' : zv_H) : Prop := vw 10 σ' a = S' ∧ ∀ x k, ¬ (a ≤ x ∧ x ≤ a + 10) → x ≠ 56 → x ≠ 57 → σ' x k = σ x k
theorem stp_tr {σ σ1 σ2 : zv_H} {a : Int} {S1 S2 : zv_H} (h1 : stp σ σ1 a S1) (h2 : stp σ1 σ2 a S2) : stp σ σ2 a S2 := ⟨h2.1, fun x k q1 q2 q3 => by rw [h2.2 x k q1 q2 q3]; exact h1.2 x k q1 q2 q3⟩
theorem stp_rf (σ : zv_H) (a : Int) : stp σ σ a (vw 10 σ a) := ⟨rfl, fun _ _ _ _ _ => rfl⟩
theorem stp_up {σ σ1 : zv_H} {a g i v : Int} {S1 : zv_H} (h : stp σ σ1 a S1) (hg : 1 ≤ g ∧ g ≤ 10) : stp σ (zup σ1 (a + g) i v) a (zup S1 g i v) := ⟨by rw [vw_up hg, h.1], fun x k q1 q2 q3 => by rw [zup_n (by omega)]; exact h.2 x k q1 q2 q3⟩
theorem stp_up0 {σ σ1 : zv_H} {a i v : Int} {S1 : zv_H} (h : stp σ σ1 a S1) : stp σ (zup σ1 a i v) a (zup S1 0 i v) := ⟨by rw [vw_up0, h.1], fun x k q1 q2 q3 => by rw [zup_n (by omega)]; exact h.2 x k q1 q2 q3⟩
theorem stp_0 {σ σ1 : zv_H} {a : Int} {S1 : zv_H} (h : stp σ σ1 a S1) (i : Int) : σ1 a i = S1 0 i := by rw [← h.1, vw_0]
theorem stp_f {σ σ1 : zv_H} {a f : Int} {S1 : zv_H} (h : stp σ σ1 a S1) (hf : 1 ≤ f ∧ f ≤ 10) (i : Int) : σ1 (a + f) i = S1 f i := by rw [← h.1, vw_f hf]
theorem stp_kep {σ σ1 : zv_H} {a e : Int} {S1 : zv_H} (h : stp σ σ1 a S1) : stp σ (zkep σ1 a e) a (kepF S1 e) := by
  unfold zkep kepF
  rw [stp_0 h 12, stp_0 h 11]
  split
  · exact stp_up0 (stp_up h (by omega))
  · exact stp_up0 (stp_up h (by omega))
theorem stp_snd {σ σ1 : zv_H} {a m c t : Int} {S1 : zv_H} (h : stp σ σ1 a S1) : stp σ (zsnd σ1 a m c t) a (sndF S1 m c t) := by
  unfold zsnd sndF
  rw [stp_f h (by omega)]
  split
  · exact stp_up h (by omega)
  · exact h
theorem st_far {a : Int} (h : a ∈ stL) : 30 ≤ a ∧ a ≤ 273 ∧ (a + 10 < 52 ∨ 62 < a) := by
  simp only [stL, List.mem_cons, List.not_mem_nil, or_false] at h
  omega
theorem wr_far {w : Int} (h : w ∈ wrL) : 4 ≤ w ∧ w + 12 ≤ 29 := by
  simp only [wrL, List.mem_cons, List.not_mem_nil, or_false] at h
  omega
theorem stp_w {σ σ1 : zv_H} {a w : Int} {S1 : zv_H} (h : stp σ σ1 a S1) (ha : a ∈ stL) (hw : w ∈ wrL) : vw 12 σ1 w = vw 12 σ w := by
  have := st_far ha
  have := wr_far hw
  exact vw_eq (fun x k h1 h2 => h.2 x k (by omega) (by omega) (by omega)) (by omega)
