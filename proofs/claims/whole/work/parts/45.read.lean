/-! AN IMAGE: what is read -/
def jv (v mo : Int) : Int := if 0 ≤ v ∧ v ≤ mo then v else 0
theorem jv_b {v mo : Int} (h : 0 ≤ mo) : 0 ≤ jv v mo ∧ jv v mo ≤ mo := by unfold jv; split <;> omega
def tA (σ : zv_H) (k : Int) : Int := if 0 ≤ k ∧ k < σ 2 1 then σ 3 k else -1
/-- all up to p is read, it fits just if P, the state at 41 is S -/
def rdg (σ0 σ : zv_H) (p : Int) (P : Prop) (S : zv_H) : Prop := ∃ f : Int, (f = 0 ∨ f = 1) ∧ (f = 1 ↔ P) ∧ stp (zup (zup σ0 284 3 p) 284 4 f) σ 41 S
theorem rdg_iff {σ0 σ S : zv_H} {p : Int} {P P2 : Prop} (h : rdg σ0 σ p P S) (e : P ↔ P2) : rdg σ0 σ p P2 S := by
  obtain ⟨f, h1, h2, h3⟩ := h
  exact ⟨f, h1, h2.trans e, h3⟩
theorem rdg_n {σ0 σ S : zv_H} {p p2 : Int} {P : Prop} (h : rdg σ0 σ p P S) : rdg σ0 (zup σ 284 3 p2) p2 P S := by
  obtain ⟨f, h1, h2, h3⟩ := h
  refine ⟨f, h1, h2, by rw [← h3.1]; exact vw_eq (fun x k h1 h2 => zup_n (by omega)) (by omega), fun x k q1 q2 q3 => ?_⟩
  by_cases e : x = 284 ∧ k = 3
  · rw [e.1, e.2, zup_s, zup_n (by omega), zup_s]
  · rw [zup_n e, h3.2 x k q1 q2 q3]
    by_cases e2 : x = 284 ∧ k = 4
    · rw [e2.1, e2.2, zup_s, zup_s]
    · rw [zup_n e2, zup_n e2, zup_n e, zup_n e]
theorem rdg_f {σ0 σ S : zv_H} {p f2 : Int} {P P2 : Prop} (h : rdg σ0 σ p P S) (h1 : f2 = 0 ∨ f2 = 1) (h2 : f2 = 1 ↔ P2) : rdg σ0 (zup σ 284 4 f2) p P2 S := by
  obtain ⟨f, _, _, h3⟩ := h
  refine ⟨f2, h1, h2, by rw [← h3.1]; exact vw_eq (fun x k h1 h2 => zup_n (by omega)) (by omega), fun x k q1 q2 q3 => ?_⟩
  by_cases e : x = 284 ∧ k = 4
  · rw [e.1, e.2, zup_s, zup_s]
  · rw [zup_n e, zup_n e, h3.2 x k q1 q2 q3, zup_n e]
theorem rdg_st {σ0 σ σ2 S S2 : zv_H} {p : Int} {P : Prop} (h : rdg σ0 σ p P S) (h2 : ∀ τ : zv_H, stp τ σ 41 S → stp τ σ2 41 S2) : rdg σ0 σ2 p P S2 := by
  obtain ⟨f, h1, hf, h3⟩ := h
  exact ⟨f, h1, hf, h2 _ h3⟩
theorem rdg_v {σ0 σ S : zv_H} {p : Int} {P : Prop} (h : rdg σ0 σ p P S) : vw 10 σ 41 = S := by
  obtain ⟨f, h1, hf, h3⟩ := h
  exact h3.1
theorem rdg_x {σ0 σ S : zv_H} {p : Int} {P : Prop} (h : rdg σ0 σ p P S) {x k : Int} (h1 : ¬ (41 ≤ x ∧ x ≤ 51)) (h2 : x ≠ 56) (h3 : x ≠ 57) (h4 : ¬ (x = 284 ∧ (k = 3 ∨ k = 4))) : σ x k = σ0 x k := by
  obtain ⟨f, _, _, h5⟩ := h
  rw [h5.2 x k h1 h2 h3, zup_n (by omega), zup_n (by omega)]
theorem rdg_p {σ0 σ S : zv_H} {p : Int} {P : Prop} (h : rdg σ0 σ p P S) : σ 284 3 = p := by
  obtain ⟨f, _, _, h5⟩ := h
  rw [h5.2 284 3 (by omega) (by omega) (by omega), zup_n (by omega), zup_s]
theorem rdg_T {σ0 σ S : zv_H} {p : Int} {P : Prop} (h : rdg σ0 σ p P S) : tA σ = tA σ0 := by
  funext k
  unfold tA
  rw [rdg_x h (x := 2) (by omega) (by omega) (by omega) (by omega), rdg_x h (x := 3) (by omega) (by omega) (by omega) (by omega)]
theorem rdg_w {σ0 σ S Wm : zv_H} {p w : Int} {P : Prop} (h : rdg σ0 σ p P S) (hw : w ∈ wrL) (hW : vw 12 σ0 w = Wm) : vw 12 σ w = Wm := by
  have hf := wr_far hw
  rw [← hW]
  exact vw_eq (fun x k h1 h2 => rdg_x h (by omega) (by omega) (by omega) (by omega)) (by omega)
set_option maxHeartbeats 4000000 in
set_option maxRecDepth 20000 in
theorem c_Image_nextOctet {Γ : zv_M} {L : Int} {σ : zv_H} {p : Int} (hp : σ 284 3 = p) (hb : 0 ≤ p ∧ p ≤ 5000) (ht : σ 2 1 ≤ 1600) : zC Γ m_Image_nextOctet 1 0 0 (GM L) [zR 284] σ (zFn (some (zI (tA σ p))) (GM L) (zup σ 284 3 (p + 1))) := by
  refine zC_of (ls0 := [_, _]) zm_Image_nextOctet (by decide) rfl (Nat.le_of_ble_eq_true rfl) ?_
  generalize hQ : (zFn (some (zI (tA σ p))) (GM L) (zup σ 284 3 (p + 1))) = Q
  refine zaload_n (k := 0) rfl rfl ?_
  refine zgF 2 (k := 1) rfl ob_284 fl_2_19 rfl fx_284_2 ?_
  refine zaload_n (k := 2) rfl rfl ?_
  refine zgI 3 (k := 3) rfl ob_284 fl_2_84 rfl fx_284_3 ?_
  refine zfV1 (k := 4) rfl (c_Tape_octetAt ht) fm_Tape_octetAt lk_2_114 rfl rfl ob_2 ⟨_, rfl, rfl⟩ (Nat.le_of_ble_eq_true rfl) (by decide) ⟨by decide, by decide⟩ ?_
  rw [hp, show (if 0 ≤ p ∧ p < σ 2 1 then σ 3 p else -1) = tA σ p from rfl]
  refine zistore_n (k := 5) (ls' := [_, _]) rfl (Nat.le_of_ble_eq_true rfl) rfl ?_
  refine zaload_n (k := 6) rfl rfl ?_
  refine zdup (k := 7) rfl rfl ?_
  refine zgI 3 (k := 8) rfl ob_284 fl_2_84 rfl fx_284_3 ?_
  rw [hp]
  refine ziconst (k := 9) rfl (by decide) ?_
  refine ziaddB (k := 10) rfl (by omega) ?_
  refine zpI 3 (k := 11) rfl ob_284 fl_2_84 ⟨_, rfl, rfl⟩ rfl (by omega) rfl fx_284_3 ?_
  refine ziload_n (k := 12) rfl rfl ?_
  refine zireturn (k := 13) rfl rfl rfl ?_
  rw [← hQ]
  exact ⟨rfl, rfl, rfl⟩
set_option maxHeartbeats 4000000 in
set_option maxRecDepth 20000 in
theorem c_Image_judged {Γ : zv_M} {L : Int} {σ : zv_H} {v mo : Int} : zC Γ m_Image_judged 0 0 0 (GM L) [zR 284, zI v, zI mo] σ (zFn (some (zI (jv v mo))) (GM L) (if 0 ≤ v ∧ v ≤ mo then σ else zup σ 284 4 0)) := by
  refine zC_of (ls0 := [_, _, _]) zm_Image_judged (by decide) rfl (Nat.le_of_ble_eq_true rfl) ?_
  generalize hQ : (zFn (some (zI (jv v mo))) (GM L) (if 0 ≤ v ∧ v ≤ mo then σ else zup σ 284 4 0)) = Q
  refine ziload_n (k := 0) rfl rfl ?_
  refine zif_lt (k := 1) rfl rfl (fun c1 => ?_) (fun c1 => ?_)
  · skip
    refine zaload_n (k := 5) rfl rfl ?_
    refine ziconst (k := 6) rfl (by decide) ?_
    refine zpZ 4 (k := 7) rfl ob_284 fl_2_94 ⟨_, rfl, rfl⟩ rfl (by first | exact Or.inl rfl | exact Or.inr rfl | omega) (by omega) rfl fx_284_4 ?_
    refine ziconst (k := 8) rfl (by decide) ?_
    refine zireturn (k := 9) rfl rfl rfl ?_
    rw [← hQ]
    unfold jv
    first | exact ⟨by rw [if_pos (by omega)], rfl, by rw [if_pos (by omega)]⟩ | exact ⟨by rw [if_neg (by omega)], rfl, by rw [if_neg (by omega)]⟩
  · skip
    refine ziload_n (k := 2) rfl rfl ?_
    refine ziload_n (k := 3) rfl rfl ?_
    refine zicmp_le (k := 4) rfl rfl (fun c2 => ?_) (fun c2 => ?_)
    · skip
      refine ziload_n (k := 10) rfl rfl ?_
      refine zireturn (k := 11) rfl rfl rfl ?_
      rw [← hQ]
      unfold jv
      first | exact ⟨by rw [if_pos (by omega)], rfl, by rw [if_pos (by omega)]⟩ | exact ⟨by rw [if_neg (by omega)], rfl, by rw [if_neg (by omega)]⟩
    · skip
      refine zaload_n (k := 5) rfl rfl ?_
      refine ziconst (k := 6) rfl (by decide) ?_
      refine zpZ 4 (k := 7) rfl ob_284 fl_2_94 ⟨_, rfl, rfl⟩ rfl (by first | exact Or.inl rfl | exact Or.inr rfl | omega) (by omega) rfl fx_284_4 ?_
      refine ziconst (k := 8) rfl (by decide) ?_
      refine zireturn (k := 9) rfl rfl rfl ?_
      rw [← hQ]
      unfold jv
      first | exact ⟨by rw [if_pos (by omega)], rfl, by rw [if_pos (by omega)]⟩ | exact ⟨by rw [if_neg (by omega)], rfl, by rw [if_neg (by omega)]⟩
theorem k_next {Γ : zv_M} {L : Int} {σ0 σ S : zv_H} {p : Int} {P : Prop} (h : rdg σ0 σ p P S) (hb : 0 ≤ p ∧ p ≤ 5000) (ht : σ0 2 1 ≤ 1600) : zC Γ m_Image_nextOctet 1 0 0 (GM L) [zR 284] σ (zPI (GM L) (fun z σ' => z = tA σ0 p ∧ rdg σ0 σ' (p + 1) P S)) := by
  refine zC_mono (fun q G' σ' hq => ?_) (c_Image_nextOctet (rdg_p h) hb (by rw [rdg_x h (by omega) (by omega) (by omega) (by omega)]; exact ht))
  obtain ⟨rfl, rfl, rfl⟩ := hq
  exact ⟨rfl, _, rfl, by rw [rdg_T h], rdg_n h⟩
theorem k_judged {Γ : zv_M} {L : Int} {σ0 σ S : zv_H} {p v mo : Int} {P : Prop} (h : rdg σ0 σ p P S) : zC Γ m_Image_judged 0 0 0 (GM L) [zR 284, zI v, zI mo] σ (zPI (GM L) (fun z σ' => z = jv v mo ∧ rdg σ0 σ' p (P ∧ (0 ≤ v ∧ v ≤ mo)) S)) := by
  refine zC_mono (fun q G' σ' hq => ?_) c_Image_judged
  obtain ⟨rfl, rfl, rfl⟩ := hq
  refine ⟨rfl, _, rfl, rfl, ?_⟩
  by_cases c : 0 ≤ v ∧ v ≤ mo
  · rw [if_pos c]; exact rdg_iff h ⟨fun q => ⟨q, c⟩, fun q => q.1⟩
  · rw [if_neg c]; exact rdg_f h (Or.inl rfl) ⟨fun q => by omega, fun q => absurd q.2 c⟩
set_option maxHeartbeats 4000000 in
set_option maxRecDepth 20000 in
theorem c_Image_take {Γ : zv_M} {L : Int} {σ0 σn S : zv_H} {p mo : Int} {P : Prop} (h0 : rdg σ0 σn p P S) (hb : 0 ≤ p ∧ p ≤ 4000) (ht : 0 ≤ σ0 2 1 ∧ σ0 2 1 ≤ 1600)  : zC Γ m_Image_take 2 0 0 (GM L) [zR 284, zI mo] σn (zPI (GM L) (fun z σ' => z = jv (tA σ0 p) mo ∧ rdg σ0 σ' (p + 1) (P ∧ (0 ≤ tA σ0 p ∧ tA σ0 p ≤ mo)) S)) := by
  refine zC_of (ls0 := [_, _]) zm_Image_take (by decide) rfl (Nat.le_of_ble_eq_true rfl) ?_
  generalize hQ : (zPI (GM L) (fun z σ' => z = jv (tA σ0 p) mo ∧ rdg σ0 σ' (p + 1) (P ∧ (0 ≤ tA σ0 p ∧ tA σ0 p ≤ mo)) S)) = Q
  refine zaload_n (k := 0) rfl rfl ?_
  refine zaload_n (k := 1) rfl rfl ?_
  refine zpVI (k := 2) rfl (k_next h0 (by omega) ht.2) fm_Image_nextOctet lk_2_117 rfl rfl ob_284 ⟨_, rfl, rfl⟩ (Nat.le_of_ble_eq_true rfl) (by decide) ⟨by decide, by decide⟩ (fun z σn hh => ?_)
  rw [hh.1]
  clear h0
  have h0 := hh.2
  clear hh
  try simp only [Int.add_assoc, Int.reduceAdd] at h0
  refine ziload_n (k := 3) rfl rfl ?_
  refine zpVI (k := 4) rfl (k_judged h0) fm_Image_judged lk_2_121 rfl rfl ob_284 ⟨_, rfl, rfl⟩ (Nat.le_of_ble_eq_true rfl) (by decide) ⟨by decide, by decide⟩ (fun z σn hh => ?_)
  rw [hh.1]
  clear h0
  have h0 := hh.2
  clear hh
  try simp only [Int.add_assoc, Int.reduceAdd] at h0
  refine zireturn (k := 5) rfl rfl rfl ?_
  rw [← hQ]
  exact ⟨rfl, _, rfl, rfl, h0⟩
set_option maxHeartbeats 4000000 in
set_option maxRecDepth 20000 in
theorem c_Image_takeTwo {Γ : zv_M} {L : Int} {σ0 σn S : zv_H} {p mo : Int} {P : Prop} (h0 : rdg σ0 σn p P S) (hb : 0 ≤ p ∧ p ≤ 4000) (ht : 0 ≤ σ0 2 1 ∧ σ0 2 1 ≤ 1600) (hT : ∀ k, -1 ≤ tA σ0 k ∧ tA σ0 k ≤ 255) : zC Γ m_Image_takeTwo 2 0 0 (GM L) [zR 284, zI mo] σn (zPI (GM L) (fun z σ' => z = jv (256 * tA σ0 p + tA σ0 (p + 1)) mo ∧ rdg σ0 σ' (p + 2) (P ∧ (0 ≤ 256 * tA σ0 p + tA σ0 (p + 1) ∧ 256 * tA σ0 p + tA σ0 (p + 1) ≤ mo)) S)) := by
  refine zC_of (ls0 := [_, _, _]) zm_Image_takeTwo (by decide) rfl (Nat.le_of_ble_eq_true rfl) ?_
  generalize hQ : (zPI (GM L) (fun z σ' => z = jv (256 * tA σ0 p + tA σ0 (p + 1)) mo ∧ rdg σ0 σ' (p + 2) (P ∧ (0 ≤ 256 * tA σ0 p + tA σ0 (p + 1) ∧ 256 * tA σ0 p + tA σ0 (p + 1) ≤ mo)) S)) = Q
  have hT1 := hT p
  have hT2 := hT (p + 1)
  refine zaload_n (k := 0) rfl rfl ?_
  refine zpVI (k := 1) rfl (k_next h0 (by omega) ht.2) fm_Image_nextOctet lk_2_117 rfl rfl ob_284 ⟨_, rfl, rfl⟩ (Nat.le_of_ble_eq_true rfl) (by decide) ⟨by decide, by decide⟩ (fun z σn hh => ?_)
  rw [hh.1]
  clear h0
  have h0 := hh.2
  clear hh
  try simp only [Int.add_assoc, Int.reduceAdd] at h0
  refine zistore_n (k := 2) (ls' := [_, _, _]) rfl (Nat.le_of_ble_eq_true rfl) rfl ?_
  refine zaload_n (k := 3) rfl rfl ?_
  refine zsipush (k := 4) rfl rfl ?_
  refine ziload_n (k := 5) rfl rfl ?_
  refine zimulB (k := 6) rfl (by omega) ?_
  refine zaload_n (k := 7) rfl rfl ?_
  refine zpVI (k := 8) rfl (k_next h0 (by omega) ht.2) fm_Image_nextOctet lk_2_117 rfl rfl ob_284 ⟨_, rfl, rfl⟩ (Nat.le_of_ble_eq_true rfl) (by decide) ⟨by decide, by decide⟩ (fun z σn hh => ?_)
  rw [hh.1]
  clear h0
  have h0 := hh.2
  clear hh
  try simp only [Int.add_assoc, Int.reduceAdd] at h0
  refine ziaddB (k := 9) rfl (by omega) ?_
  refine ziload_n (k := 10) rfl rfl ?_
  refine zpVI (k := 11) rfl (k_judged h0) fm_Image_judged lk_2_121 rfl rfl ob_284 ⟨_, rfl, rfl⟩ (Nat.le_of_ble_eq_true rfl) (by decide) ⟨by decide, by decide⟩ (fun z σn hh => ?_)
  rw [hh.1]
  clear h0
  have h0 := hh.2
  clear hh
  try simp only [Int.add_assoc, Int.reduceAdd] at h0
  refine zireturn (k := 12) rfl rfl rfl ?_
  rw [← hQ]
  exact ⟨rfl, _, rfl, rfl, h0⟩
set_option maxHeartbeats 4000000 in
set_option maxRecDepth 20000 in
theorem c_Image_sumFits {Γ : zv_M} {L : Int} {σ : zv_H} (ht : 0 ≤ σ 2 1 ∧ σ 2 1 ≤ 1600) (hT : ∀ k, 0 ≤ k → k < σ 2 1 → 0 ≤ σ 3 k ∧ σ 3 k ≤ 255) : zC Γ m_Image_sumFits 1 0 0 (GM L) [zR 284] σ (zFn (some (zI (if imS (tA σ) (σ 2 1 - 1).toNat = tA σ (σ 2 1 - 1) then 1 else 0))) (GM L) σ) := by
  refine zC_of (ls0 := [_, _, _]) zm_Image_sumFits (by decide) rfl (Nat.le_of_ble_eq_true rfl) ?_
  generalize hQ : (zFn (some (zI (if imS (tA σ) (σ 2 1 - 1).toNat = tA σ (σ 2 1 - 1) then 1 else 0))) (GM L) σ) = Q
  refine zsipush (k := 0) rfl rfl ?_
  refine zistore_n (k := 1) (ls' := [_, _, _]) rfl (Nat.le_of_ble_eq_true rfl) rfl ?_
  refine ziconst (k := 2) rfl (by decide) ?_
  refine zistore_n (k := 3) (ls' := [_, _, _]) rfl (Nat.le_of_ble_eq_true rfl) rfl ?_
  have lp6 : ∀ (g : Nat) (k : Nat), ((σ 2 1).toNat - k) < g → ((k : Int) ≤ σ 2 1 - 1 ∨ k = 0) → zV Γ m_Image_sumFits 1 0 0 Q (GM L) (0, 0) 6 [some (zR 284), some (zI (imS (tA σ) k)), some (zI k)] [] σ := by
    intro g
    induction g with
    | zero => intro k hg; exact absurd hg (Nat.not_lt_zero _)
    | succ g ih6 =>
      intro k hg hk
      have sb := imS_b (tA σ) k
      refine ziload_n (k := 4) rfl rfl ?_
      refine zaload_n (k := 5) rfl rfl ?_
      refine zgF 2 (k := 6) rfl ob_284 fl_2_19 rfl fx_284_2 ?_
      refine zgI 1 (k := 7) rfl ob_2 fl_2_87 rfl fx_2_1 ?_
      refine ziconst (k := 8) rfl (by decide) ?_
      refine zisubB (k := 9) rfl (by omega) ?_
      refine zicmp_ge (k := 10) rfl rfl (fun c1 => ?_) (fun c1 => ?_)
      · skip
        rw [show k = (σ 2 1 - 1).toNat by omega]
        refine ziload_n (k := 24) rfl rfl ?_
        refine zaload_n (k := 25) rfl rfl ?_
        refine zgF 2 (k := 26) rfl ob_284 fl_2_19 rfl fx_284_2 ?_
        refine zaload_n (k := 27) rfl rfl ?_
        refine zgF 2 (k := 28) rfl ob_284 fl_2_19 rfl fx_284_2 ?_
        refine zgI 1 (k := 29) rfl ob_2 fl_2_87 rfl fx_2_1 ?_
        refine ziconst (k := 30) rfl (by decide) ?_
        refine zisubB (k := 31) rfl (by omega) ?_
        refine zfV1 (k := 32) rfl (c_Tape_octetAt ht.2) fm_Tape_octetAt lk_2_114 rfl rfl ob_2 ⟨_, rfl, rfl⟩ (Nat.le_of_ble_eq_true rfl) (by decide) ⟨by decide, by decide⟩ ?_
        rw [show (if 0 ≤ σ 2 1 - 1 ∧ σ 2 1 - 1 < σ 2 1 then σ 3 (σ 2 1 - 1) else -1) = tA σ (σ 2 1 - 1) from rfl]
        refine zicmp_ne (k := 33) rfl rfl (fun c2 => ?_) (fun c2 => ?_)
        · skip
          refine ziconst (k := 36) rfl (by decide) ?_
          refine zzreturn (k := 37) rfl rfl (by first | exact Or.inl rfl | exact Or.inr rfl | omega) rfl ?_
          rw [← hQ]
          first | exact ⟨by rw [if_pos (by omega)], rfl, rfl⟩ | exact ⟨by rw [if_neg (by omega)], rfl, rfl⟩
        · skip
          refine ziconst (k := 34) rfl (by decide) ?_
          refine zgoto (k := 35) rfl rfl ?_
          refine zzreturn (k := 37) rfl rfl (by first | exact Or.inl rfl | exact Or.inr rfl | omega) rfl ?_
          rw [← hQ]
          first | exact ⟨by rw [if_pos (by omega)], rfl, rfl⟩ | exact ⟨by rw [if_neg (by omega)], rfl, rfl⟩
      · skip
        refine ziconst (k := 11) rfl (by decide) ?_
        refine ziload_n (k := 12) rfl rfl ?_
        refine zimulB (k := 13) rfl (by omega) ?_
        refine zaload_n (k := 14) rfl rfl ?_
        refine zgF 2 (k := 15) rfl ob_284 fl_2_19 rfl fx_284_2 ?_
        refine ziload_n (k := 16) rfl rfl ?_
        refine zfV1 (k := 17) rfl (c_Tape_octetAt ht.2) fm_Tape_octetAt lk_2_114 rfl rfl ob_2 ⟨_, rfl, rfl⟩ (Nat.le_of_ble_eq_true rfl) (by decide) ⟨by decide, by decide⟩ ?_
        rw [show (if 0 ≤ (k : Int) ∧ (k : Int) < σ 2 1 then σ 3 k else -1) = tA σ k from rfl]
        have tb : 0 ≤ tA σ k ∧ tA σ k ≤ 255 := by unfold tA; rw [if_pos (by omega)]; exact hT k (by omega) (by omega)
        refine ziaddB (k := 18) rfl (by omega) ?_
        refine zsipush (k := 19) rfl rfl ?_
        refine ziremP (k := 20) rfl (by omega) ?_
        refine zistore_n (k := 21) (ls' := [_, _, _]) rfl (Nat.le_of_ble_eq_true rfl) rfl ?_
        refine ziincB (k := 22) (ls' := [_, _, _]) rfl rfl (by decide) (by omega) rfl ?_
        refine zgoto (k := 23) rfl rfl ?_
        exact ih6 (k + 1) (by omega) (by omega)
  exact lp6 _ 0 (Nat.lt_succ_self _) (by omega)
