/-! War -/
def zrow (σ : zv_H) (a : Int) (f : Int → Int) : zv_H := fun x k => if x = a then f k else σ x k
theorem zrow_s (σ : zv_H) (a : Int) (f : Int → Int) (k : Int) : zrow σ a f a k = f k := by unfold zrow; rw [if_pos rfl]
theorem zrow_n {σ : zv_H} {a x : Int} {f : Int → Int} (h : x ≠ a) (k : Int) : zrow σ a f x k = σ x k := by unfold zrow; rw [if_neg h]
theorem zrow_id (σ : zv_H) (a : Int) : zrow σ a (σ a) = σ := by
  funext x k
  unfold zrow
  split
  · rename_i h; rw [h]
  · rfl
def ups (f : Int → Int) (i v : Int) : Int → Int := fun k => if k = i then v else f k
theorem ups_s (f : Int → Int) (i v : Int) : ups f i v i = v := by unfold ups; rw [if_pos rfl]
theorem ups_n {f : Int → Int} {i v k : Int} (h : k ≠ i) : ups f i v k = f k := by unfold ups; rw [if_neg h]
theorem zrow_up (σ : zv_H) (a : Int) (f : Int → Int) (i v : Int) : zup (zrow σ a f) a i v = zrow σ a (ups f i v) := by
  funext x k
  unfold zup zrow ups
  by_cases h : x = a
  · by_cases hk : k = i
    · rw [if_pos ⟨h, hk⟩, if_pos h, if_pos hk]
    · rw [if_neg (fun q => hk q.2), if_pos h, if_pos h, if_neg hk]
  · rw [if_neg (fun q => h q.1), if_neg h, if_neg h]
theorem zup_row (σ : zv_H) (a i v : Int) : zup σ a i v = zrow σ a (ups (σ a) i v) := by
  have h := zrow_up σ a (σ a) i v
  rw [zrow_id] at h
  exact h
/-- the ways, by turns: shorter by one COUNTY -/
def fwu (w : Int → Int) (b f t : Int) : Int → Int := if w (f * 7 + b) + w (b * 7 + t) < w (f * 7 + t) then ups w (f * 7 + t) (w (f * 7 + b) + w (b * 7 + t)) else w
def fwT (w : Int → Int) (b f : Int) : Nat → (Int → Int)
  | 0 => w
  | t + 1 => fwu (fwT w b f t) b f t
def fwF (w : Int → Int) (b : Int) (n : Nat) : Nat → (Int → Int)
  | 0 => w
  | f + 1 => fwT (fwF w b n f) b f n
def fwB (w : Int → Int) (n : Nat) : Nat → (Int → Int)
  | 0 => w
  | b + 1 => fwF (fwB w n b) b n n
def fwD (w : Int → Int) : Nat → (Int → Int)
  | 0 => w
  | c + 1 => ups (fwD w c) ((c : Int) * 7 + c) 0
def fwok (w : Int → Int) : Prop := ∀ k, 0 ≤ k → k < 49 → 0 ≤ w k ∧ w k ≤ 1000000
theorem fwu_ok {w : Int → Int} {b f t : Int} (h : fwok w) (hb : 0 ≤ b ∧ b < 7) (hf : 0 ≤ f ∧ f < 7) (ht : 0 ≤ t ∧ t < 7) : fwok (fwu w b f t) := by
  unfold fwu
  split
  · intro k h0 h1
    unfold ups
    have q1 := h (f * 7 + b) (by omega) (by omega)
    have q2 := h (b * 7 + t) (by omega) (by omega)
    have q3 := h (f * 7 + t) (by omega) (by omega)
    split
    · omega
    · exact h k h0 h1
  · exact h
theorem fwT_ok {w : Int → Int} {b f : Int} (h : fwok w) (hb : 0 ≤ b ∧ b < 7) (hf : 0 ≤ f ∧ f < 7) : ∀ t : Nat, t ≤ 7 → fwok (fwT w b f t)
  | 0, _ => h
  | t + 1, ht => fwu_ok (fwT_ok h hb hf t (by omega)) hb hf ⟨by omega, by omega⟩
theorem fwF_ok {w : Int → Int} {b : Int} {n : Nat} (h : fwok w) (hb : 0 ≤ b ∧ b < 7) (hn : n ≤ 7) : ∀ f : Nat, f ≤ 7 → fwok (fwF w b n f)
  | 0, _ => h
  | f + 1, hf => fwT_ok (fwF_ok h hb hn f (by omega)) hb ⟨by omega, by omega⟩ n hn
theorem fwB_ok {w : Int → Int} {n : Nat} (h : fwok w) (hn : n ≤ 7) : ∀ b : Nat, b ≤ 7 → fwok (fwB w n b)
  | 0, _ => h
  | b + 1, hb => fwF_ok (fwB_ok h hn b (by omega)) ⟨by omega, by omega⟩ hn n hn
theorem fwD_ok {w : Int → Int} (h : fwok w) : ∀ c : Nat, fwok (fwD w c)
  | 0 => h
  | c + 1 => by
    intro k h0 h1
    show 0 ≤ ups (fwD w c) ((c : Int) * 7 + c) 0 k ∧ ups (fwD w c) ((c : Int) * 7 + c) 0 k ≤ 1000000
    unfold ups
    split
    · omega
    · exact fwD_ok h c k h0 h1
set_option maxHeartbeats 4000000 in
set_option maxRecDepth 20000 in
theorem c_War_hasCounty {Γ : zv_M} {L : Int} {a c : Int} {σ : zv_H} (hw : a ∈ wrL) : zC Γ m_War_hasCounty 0 0 0 (GM L) [zR a, zI c] σ (zFn (some (zI (if 0 ≤ c ∧ c < σ a 1 then 1 else 0))) (GM L) σ) := by
  refine zC_of zm_War_hasCounty (by decide) rfl (Nat.le_of_ble_eq_true rfl) ?_
  generalize hQ : (zFn (some (zI (if 0 ≤ c ∧ c < σ a 1 then 1 else 0))) (GM L) σ) = Q
  refine ziload_n (k := 0) rfl rfl ?_
  refine zif_lt (k := 1) rfl rfl (fun c1 => ?_) (fun c1 => ?_)
  · skip
    refine ziconst (k := 8) rfl (by decide) ?_
    refine zzreturn (k := 9) rfl rfl (by first | exact Or.inl rfl | exact Or.inr rfl | omega) rfl ?_
    rw [← hQ]
    exact ⟨by first | (rw [if_pos (by omega)]; done) | (rw [if_neg (by omega)]; done) | (exfalso; omega), rfl, rfl⟩
  · skip
    refine ziload_n (k := 2) rfl rfl ?_
    refine zaload_n (k := 3) rfl rfl ?_
    refine zgI 1 (k := 4) rfl (wr_ob hw) fl_10_53 rfl (wr_fx_1 hw) ?_
    refine zicmp_ge (k := 5) rfl rfl (fun c2 => ?_) (fun c2 => ?_)
    · skip
      refine ziconst (k := 8) rfl (by decide) ?_
      refine zzreturn (k := 9) rfl rfl (by first | exact Or.inl rfl | exact Or.inr rfl | omega) rfl ?_
      rw [← hQ]
      exact ⟨by first | (rw [if_pos (by omega)]; done) | (rw [if_neg (by omega)]; done) | (exfalso; omega), rfl, rfl⟩
    · skip
      refine ziconst (k := 6) rfl (by decide) ?_
      refine zgoto (k := 7) rfl rfl ?_
      refine zzreturn (k := 9) rfl rfl (by first | exact Or.inl rfl | exact Or.inr rfl | omega) rfl ?_
      rw [← hQ]
      exact ⟨by first | (rw [if_pos (by omega)]; done) | (rw [if_neg (by omega)]; done) | (exfalso; omega), rfl, rfl⟩
set_option maxHeartbeats 4000000 in
set_option maxRecDepth 20000 in
theorem c_War_hasMan {Γ : zv_M} {L : Int} {a c : Int} {σ : zv_H} (hw : a ∈ wrL) : zC Γ m_War_hasMan 0 0 0 (GM L) [zR a, zI c] σ (zFn (some (zI (if 0 ≤ c ∧ c < σ a 3 then 1 else 0))) (GM L) σ) := by
  refine zC_of zm_War_hasMan (by decide) rfl (Nat.le_of_ble_eq_true rfl) ?_
  generalize hQ : (zFn (some (zI (if 0 ≤ c ∧ c < σ a 3 then 1 else 0))) (GM L) σ) = Q
  refine ziload_n (k := 0) rfl rfl ?_
  refine zif_lt (k := 1) rfl rfl (fun c1 => ?_) (fun c1 => ?_)
  · skip
    refine ziconst (k := 8) rfl (by decide) ?_
    refine zzreturn (k := 9) rfl rfl (by first | exact Or.inl rfl | exact Or.inr rfl | omega) rfl ?_
    rw [← hQ]
    exact ⟨by first | (rw [if_pos (by omega)]; done) | (rw [if_neg (by omega)]; done) | (exfalso; omega), rfl, rfl⟩
  · skip
    refine ziload_n (k := 2) rfl rfl ?_
    refine zaload_n (k := 3) rfl rfl ?_
    refine zgI 3 (k := 4) rfl (wr_ob hw) fl_10_59 rfl (wr_fx_3 hw) ?_
    refine zicmp_ge (k := 5) rfl rfl (fun c2 => ?_) (fun c2 => ?_)
    · skip
      refine ziconst (k := 8) rfl (by decide) ?_
      refine zzreturn (k := 9) rfl rfl (by first | exact Or.inl rfl | exact Or.inr rfl | omega) rfl ?_
      rw [← hQ]
      exact ⟨by first | (rw [if_pos (by omega)]; done) | (rw [if_neg (by omega)]; done) | (exfalso; omega), rfl, rfl⟩
    · skip
      refine ziconst (k := 6) rfl (by decide) ?_
      refine zgoto (k := 7) rfl rfl ?_
      refine zzreturn (k := 9) rfl rfl (by first | exact Or.inl rfl | exact Or.inr rfl | omega) rfl ?_
      rw [← hQ]
      exact ⟨by first | (rw [if_pos (by omega)]; done) | (rw [if_neg (by omega)]; done) | (exfalso; omega), rfl, rfl⟩
set_option maxHeartbeats 4000000 in
set_option maxRecDepth 20000 in
theorem c_War_countyNamed {Γ : zv_M} {L : Int} {a v : Int} {σ : zv_H} (hw : a ∈ wrL) : zC Γ m_War_countyNamed 1 0 0 (GM L) [zR a, zI v] σ (zFn (some (zI (zidx σ (a + 1) v (zmn (σ a 1) 7) 0))) (GM L) σ) := by
  refine zC_of zm_War_countyNamed (by decide) rfl (Nat.le_of_ble_eq_true rfl) ?_
  generalize hQ : (zFn (some (zI (zidx σ (a + 1) v (zmn (σ a 1) 7) 0))) (GM L) σ) = Q
  refine zaload_n (k := 0) rfl rfl ?_
  refine zgF 5 (k := 1) rfl (wr_ob hw) fl_10_15 rfl (wr_fx_5 hw) ?_
  refine zaload_n (k := 2) rfl rfl ?_
  refine zgI 1 (k := 3) rfl (wr_ob hw) fl_10_53 rfl (wr_fx_1 hw) ?_
  refine ziload_n (k := 4) rfl rfl ?_
  refine zfS1 (k := 5) rfl (c_NT_indexOf (wr_ar_1 hw) (by omega) (by omega)) fm_NT_indexOf lk_10_70 rfl rfl (Nat.le_of_ble_eq_true rfl) (by decide) ⟨by decide, by decide⟩ ?_
  refine zireturn (k := 6) rfl rfl rfl ?_
  rw [← hQ]
  exact ⟨rfl, rfl, rfl⟩
set_option maxHeartbeats 4000000 in
set_option maxRecDepth 20000 in
theorem c_War_manNamed {Γ : zv_M} {L : Int} {a v : Int} {σ : zv_H} (hw : a ∈ wrL) : zC Γ m_War_manNamed 1 0 0 (GM L) [zR a, zI v] σ (zFn (some (zI (zidx σ (a + 5) v (zmn (σ a 3) 6) 0))) (GM L) σ) := by
  refine zC_of zm_War_manNamed (by decide) rfl (Nat.le_of_ble_eq_true rfl) ?_
  generalize hQ : (zFn (some (zI (zidx σ (a + 5) v (zmn (σ a 3) 6) 0))) (GM L) σ) = Q
  refine zaload_n (k := 0) rfl rfl ?_
  refine zgF 9 (k := 1) rfl (wr_ob hw) fl_10_28 rfl (wr_fx_9 hw) ?_
  refine zaload_n (k := 2) rfl rfl ?_
  refine zgI 3 (k := 3) rfl (wr_ob hw) fl_10_59 rfl (wr_fx_3 hw) ?_
  refine ziload_n (k := 4) rfl rfl ?_
  refine zfS1 (k := 5) rfl (c_NT_indexOf (wr_ar_5 hw) (by omega) (by omega)) fm_NT_indexOf lk_10_70 rfl rfl (Nat.le_of_ble_eq_true rfl) (by decide) ⟨by decide, by decide⟩ ?_
  refine zireturn (k := 6) rfl rfl rfl ?_
  rw [← hQ]
  exact ⟨rfl, rfl, rfl⟩
set_option maxHeartbeats 4000000 in
set_option maxRecDepth 20000 in
theorem c_War_hasRail {Γ : zv_M} {L : Int} {a f t : Int} {σ : zv_H} (hw : a ∈ wrL) (hf : 0 ≤ f ∧ f < 7) (ht : 0 ≤ t ∧ t < 7) : zC Γ m_War_hasRail 1 0 0 (GM L) [zR a, zI f, zI t] σ (zFn (some (zI (if σ (a + 12) (f * 7 + t) < 1000000 then 1 else 0))) (GM L) σ) := by
  refine zC_of zm_War_hasRail (by decide) rfl (Nat.le_of_ble_eq_true rfl) ?_
  generalize hQ : (zFn (some (zI (if σ (a + 12) (f * 7 + t) < 1000000 then 1 else 0))) (GM L) σ) = Q
  refine zaload_n (k := 0) rfl rfl ?_
  refine zgF 14 (k := 1) rfl (wr_ob hw) fl_10_47 rfl (wr_fx_14 hw) ?_
  refine ziload_n (k := 2) rfl rfl ?_
  refine zbipush (k := 3) rfl rfl ?_
  refine zimulB (k := 4) rfl (by omega) ?_
  refine ziload_n (k := 5) rfl rfl ?_
  refine ziaddB (k := 6) rfl (by omega) ?_
  refine zfS1 (k := 7) rfl (c_NT_at (wr_ar_12 hw)) fm_NT_at lk_10_74 rfl rfl (Nat.le_of_ble_eq_true rfl) (by decide) ⟨by decide, by decide⟩ ?_
  (first | rw [zat_in (by omega)] | skip)
  refine zldc (k := 8) (z := 1000000) rfl kc_10_65 rfl ?_
  refine zicmp_ge (k := 9) rfl rfl (fun c1 => ?_) (fun c1 => ?_)
  · skip
    refine ziconst (k := 12) rfl (by decide) ?_
    refine zzreturn (k := 13) rfl rfl (by first | exact Or.inl rfl | exact Or.inr rfl | omega) rfl ?_
    rw [← hQ]
    exact ⟨by first | (rw [if_pos (by omega)]; done) | (rw [if_neg (by omega)]; done) | (exfalso; omega), rfl, rfl⟩
  · skip
    refine ziconst (k := 10) rfl (by decide) ?_
    refine zgoto (k := 11) rfl rfl ?_
    refine zzreturn (k := 13) rfl rfl (by first | exact Or.inl rfl | exact Or.inr rfl | omega) rfl ?_
    rw [← hQ]
    exact ⟨by first | (rw [if_pos (by omega)]; done) | (rw [if_neg (by omega)]; done) | (exfalso; omega), rfl, rfl⟩
set_option maxHeartbeats 4000000 in
set_option maxRecDepth 20000 in
theorem c_War_addRail {Γ : zv_M} {L : Int} {a f t v : Int} {σ : zv_H} (hw : a ∈ wrL) (hf : 0 ≤ f ∧ f < 7) (ht : 0 ≤ t ∧ t < 7) (hr : 0 ≤ σ a 2 ∧ σ a 2 ≤ 100) : zC Γ m_War_addRail 1 0 0 (GM L) [zR a, zI f, zI t, zI v] σ (zFn none (GM L) (zup (zup (zup σ (a + 12) (f * 7 + t) v) (a + 12) (t * 7 + f) v) a 2 (σ a 2 + 1))) := by
  refine zC_of zm_War_addRail (by decide) rfl (Nat.le_of_ble_eq_true rfl) ?_
  generalize hQ : (zFn none (GM L) (zup (zup (zup σ (a + 12) (f * 7 + t) v) (a + 12) (t * 7 + f) v) a 2 (σ a 2 + 1))) = Q
  refine zaload_n (k := 0) rfl rfl ?_
  refine zgF 14 (k := 1) rfl (wr_ob hw) fl_10_47 rfl (wr_fx_14 hw) ?_
  refine ziload_n (k := 2) rfl rfl ?_
  refine zbipush (k := 3) rfl rfl ?_
  refine zimulB (k := 4) rfl (by omega) ?_
  refine ziload_n (k := 5) rfl rfl ?_
  refine ziaddB (k := 6) rfl (by omega) ?_
  refine ziload_n (k := 7) rfl rfl ?_
  refine zfS0 (k := 8) rfl (c_NT_put (wr_ar_12 hw) (by have := wr_pos hw; omega)) fm_NT_put lk_10_78 rfl rfl (Nat.le_of_ble_eq_true rfl) (by decide) ⟨by decide, by decide⟩ ?_
  (first | rw [zpt_in (by omega)] | skip)
  refine zaload_n (k := 9) rfl rfl ?_
  refine zgF 14 (k := 10) rfl (wr_ob hw) fl_10_47 rfl (wr_fx_14 hw) ?_
  refine ziload_n (k := 11) rfl rfl ?_
  refine zbipush (k := 12) rfl rfl ?_
  refine zimulB (k := 13) rfl (by omega) ?_
  refine ziload_n (k := 14) rfl rfl ?_
  refine ziaddB (k := 15) rfl (by omega) ?_
  refine ziload_n (k := 16) rfl rfl ?_
  refine zfS0 (k := 17) rfl (c_NT_put (wr_ar_12 hw) (by have := wr_pos hw; omega)) fm_NT_put lk_10_78 rfl rfl (Nat.le_of_ble_eq_true rfl) (by decide) ⟨by decide, by decide⟩ ?_
  (first | rw [zpt_in (by omega)] | skip)
  refine zaload_n (k := 18) rfl rfl ?_
  refine zdup (k := 19) rfl rfl ?_
  refine zgI 2 (k := 20) rfl (wr_ob hw) fl_10_56 rfl (wr_fx_2 hw) ?_
  refine ziconst (k := 21) rfl (by decide) ?_
  rw [zup_n (by omega), zup_n (by omega)]
  refine ziaddB (k := 22) rfl (by omega) ?_
  refine zpI 2 (k := 23) rfl (wr_ob hw) fl_10_56 ⟨_, rfl, rfl⟩ rfl (wr_pos hw) rfl (wr_fx_2 hw) ?_
  refine zreturn (k := 24) rfl rfl rfl ?_
  rw [← hQ]
  exact ⟨rfl, rfl, rfl⟩
def zdst (σ : zv_H) (a f t : Int) : Int := if (0 ≤ f ∧ f < σ a 1) ∧ (0 ≤ t ∧ t < σ a 1) ∧ σ (a + 12) (f * 7 + t) < 1000000 then σ (a + 12) (f * 7 + t) else -1
set_option maxHeartbeats 4000000 in
set_option maxRecDepth 20000 in
theorem c_War_distance {Γ : zv_M} {L : Int} {a f t : Int} {σ : zv_H} (hw : a ∈ wrL) (hc : 0 ≤ σ a 1 ∧ σ a 1 ≤ 7) : zC Γ m_War_distance 1 0 0 (GM L) [zR a, zI f, zI t] σ (zFn (some (zI (zdst σ a f t))) (GM L) σ) := by
  refine zC_of zm_War_distance (by decide) rfl (Nat.le_of_ble_eq_true rfl) ?_
  generalize hQ : (zFn (some (zI (zdst σ a f t))) (GM L) σ) = Q
  refine zaload_n (k := 0) rfl rfl ?_
  refine ziload_n (k := 1) rfl rfl ?_
  refine zfV1 (k := 2) rfl (c_War_hasCounty hw) fm_War_hasCounty lk_10_82 rfl rfl (wr_ob hw) ⟨_, rfl, rfl⟩ (Nat.le_of_ble_eq_true rfl) (by decide) ⟨by decide, by decide⟩ ?_
  refine zif_eq (k := 3) rfl rfl (fun c1 => ?_) (fun c1 => ?_)
  · skip
    refine ziconst (k := 8) rfl (by decide) ?_
    refine zireturn (k := 9) rfl rfl rfl ?_
    rw [← hQ]
    exact ⟨by unfold zdst; first | (rw [if_pos (by omega)]; done) | (rw [if_neg (by omega)]; done) | (rw [if_neg (by split at c1 <;> omega)]; done) | (rw [if_neg (by split at c2 <;> omega)]; done), rfl, rfl⟩
  · skip
    refine zaload_n (k := 4) rfl rfl ?_
    refine ziload_n (k := 5) rfl rfl ?_
    refine zfV1 (k := 6) rfl (c_War_hasCounty hw) fm_War_hasCounty lk_10_82 rfl rfl (wr_ob hw) ⟨_, rfl, rfl⟩ (Nat.le_of_ble_eq_true rfl) (by decide) ⟨by decide, by decide⟩ ?_
    refine zif_ne (k := 7) rfl rfl (fun c2 => ?_) (fun c2 => ?_)
    · skip
      have g1 : 0 ≤ f ∧ f < σ a 1 := by split at c1 <;> first | assumption | omega
      have g2 : 0 ≤ t ∧ t < σ a 1 := by split at c2 <;> first | assumption | omega
      refine zaload_n (k := 10) rfl rfl ?_
      refine zgF 14 (k := 11) rfl (wr_ob hw) fl_10_47 rfl (wr_fx_14 hw) ?_
      refine ziload_n (k := 12) rfl rfl ?_
      refine zbipush (k := 13) rfl rfl ?_
      refine zimulB (k := 14) rfl (by omega) ?_
      refine ziload_n (k := 15) rfl rfl ?_
      refine ziaddB (k := 16) rfl (by omega) ?_
      refine zfS1 (k := 17) rfl (c_NT_at (wr_ar_12 hw)) fm_NT_at lk_10_74 rfl rfl (Nat.le_of_ble_eq_true rfl) (by decide) ⟨by decide, by decide⟩ ?_
      (first | rw [zat_in (by omega)] | skip)
      refine zistore_n (k := 18) rfl (Nat.le_of_ble_eq_true rfl) rfl ?_
      refine ziload_n (k := 19) rfl rfl ?_
      refine zldc (k := 20) (z := 1000000) rfl kc_10_65 rfl ?_
      refine zicmp_ge (k := 21) rfl rfl (fun c3 => ?_) (fun c3 => ?_)
      · skip
        refine ziconst (k := 24) rfl (by decide) ?_
        refine zireturn (k := 25) rfl rfl rfl ?_
        rw [← hQ]
        exact ⟨by unfold zdst; first | (rw [if_pos (by omega)]; done) | (rw [if_neg (by omega)]; done) | (rw [if_neg (by split at c1 <;> omega)]; done) | (rw [if_neg (by split at c2 <;> omega)]; done), rfl, rfl⟩
      · skip
        refine ziload_n (k := 22) rfl rfl ?_
        refine zgoto (k := 23) rfl rfl ?_
        refine zireturn (k := 25) rfl rfl rfl ?_
        rw [← hQ]
        exact ⟨by unfold zdst; first | (rw [if_pos (by omega)]; done) | (rw [if_neg (by omega)]; done) | (rw [if_neg (by split at c1 <;> omega)]; done) | (rw [if_neg (by split at c2 <;> omega)]; done), rfl, rfl⟩
    · skip
      refine ziconst (k := 8) rfl (by decide) ?_
      refine zireturn (k := 9) rfl rfl rfl ?_
      rw [← hQ]
      exact ⟨by unfold zdst; first | (rw [if_pos (by omega)]; done) | (rw [if_neg (by omega)]; done) | (rw [if_neg (by split at c1 <;> omega)]; done) | (rw [if_neg (by split at c2 <;> omega)]; done), rfl, rfl⟩
set_option maxHeartbeats 4000000 in
set_option maxRecDepth 20000 in
theorem c_War_clear {Γ : zv_M} {L : Int} {a : Int} {σ : zv_H} (hw : a ∈ wrL) : zC Γ m_War_clear 1 0 0 (GM L) [zR a] σ (zFn none (GM L) (zfil (zup (zup (zup (zup (zup (zup (zup σ a 0 0) a 1 0) a 2 0) a 3 0) a 4 2) (a + 8) 1 0) (a + 10) 1 0) (a + 12) 49 1000000)) := by
  refine zC_of zm_War_clear (by decide) rfl (Nat.le_of_ble_eq_true rfl) ?_
  generalize hQ : (zFn none (GM L) (zfil (zup (zup (zup (zup (zup (zup (zup σ a 0 0) a 1 0) a 2 0) a 3 0) a 4 2) (a + 8) 1 0) (a + 10) 1 0) (a + 12) 49 1000000)) = Q
  refine zaload_n (k := 0) rfl rfl ?_
  refine ziconst (k := 1) rfl (by decide) ?_
  refine zpI 0 (k := 2) rfl (wr_ob hw) fl_10_50 ⟨_, rfl, rfl⟩ rfl (wr_pos hw) rfl (wr_fx_0 hw) ?_
  refine zaload_n (k := 3) rfl rfl ?_
  refine ziconst (k := 4) rfl (by decide) ?_
  refine zpI 1 (k := 5) rfl (wr_ob hw) fl_10_53 ⟨_, rfl, rfl⟩ rfl (wr_pos hw) rfl (wr_fx_1 hw) ?_
  refine zaload_n (k := 6) rfl rfl ?_
  refine ziconst (k := 7) rfl (by decide) ?_
  refine zpI 2 (k := 8) rfl (wr_ob hw) fl_10_56 ⟨_, rfl, rfl⟩ rfl (wr_pos hw) rfl (wr_fx_2 hw) ?_
  refine zaload_n (k := 9) rfl rfl ?_
  refine ziconst (k := 10) rfl (by decide) ?_
  refine zpI 3 (k := 11) rfl (wr_ob hw) fl_10_59 ⟨_, rfl, rfl⟩ rfl (wr_pos hw) rfl (wr_fx_3 hw) ?_
  refine zaload_n (k := 12) rfl rfl ?_
  refine ziconst (k := 13) rfl (by decide) ?_
  refine zpI 4 (k := 14) rfl (wr_ob hw) fl_10_9 ⟨_, rfl, rfl⟩ rfl (wr_pos hw) rfl (wr_fx_4 hw) ?_
  refine zaload_n (k := 15) rfl rfl ?_
  refine zgF 12 (k := 16) rfl (wr_ob hw) fl_10_40 rfl (wr_fx_12 hw) ?_
  refine zfV0 (k := 17) rfl (c_Formula_clear (wr_fm8 hw)) fm_Formula_clear lk_10_62 rfl rfl (wr_ob_8 hw) ⟨_, rfl, rfl⟩ (Nat.le_of_ble_eq_true rfl) (by decide) ⟨by decide, by decide⟩ ?_
  refine zaload_n (k := 18) rfl rfl ?_
  refine zgF 13 (k := 19) rfl (wr_ob hw) fl_10_44 rfl (wr_fx_13 hw) ?_
  refine zfV0 (k := 20) rfl (c_Formula_clear (wr_fm10 hw)) fm_Formula_clear lk_10_62 rfl rfl (wr_ob_10 hw) ⟨_, rfl, rfl⟩ (Nat.le_of_ble_eq_true rfl) (by decide) ⟨by decide, by decide⟩ ?_
  refine zaload_n (k := 21) rfl rfl ?_
  refine zgF 14 (k := 22) rfl (wr_ob hw) fl_10_47 rfl (wr_fx_14 hw) ?_
  refine zldc (k := 23) (z := 1000000) rfl kc_10_65 rfl ?_
  refine zfS0 (k := 24) rfl (c_NT_fillRow (wr_ar_12 hw) (by have := wr_pos hw; omega) (by omega)) fm_NT_fillRow lk_10_66 rfl rfl (Nat.le_of_ble_eq_true rfl) (by decide) ⟨by decide, by decide⟩ ?_
  refine zreturn (k := 25) rfl rfl rfl ?_
  rw [← hQ]
  exact ⟨rfl, rfl, rfl⟩
set_option maxHeartbeats 4000000 in
set_option maxRecDepth 20000 in
theorem c_War_findWays {Γ : zv_M} {L : Int} {a : Int} {σ : zv_H} (hw : a ∈ wrL) (N : Nat) (hN : σ a 1 = N) (hN7 : N ≤ 7) (h49 : fwok (σ (a + 12))) : zC Γ m_War_findWays 1 0 0 (GM L) [zR a] σ (zFn none (GM L) (zrow σ (a + 12) (fwB (fwD (σ (a + 12)) N) N N))) := by
  refine zC_of zm_War_findWays (by decide) rfl (Nat.le_of_ble_eq_true rfl) ?_
  generalize hQ : (zFn none (GM L) (zrow σ (a + 12) (fwB (fwD (σ (a + 12)) N) N N))) = Q
  have h1 : ∀ g, zrow σ (a + 12) g a 1 = N := fun g => by rw [zrow_n (by omega)]; exact hN
  refine ziconst (k := 0) rfl (by decide) ?_
  refine zistore_n (k := 1) rfl (Nat.le_of_ble_eq_true rfl) rfl ?_
  have lp2 : ∀ (g : Nat) (c : Nat), (N - c) < g → (c ≤ N) → zV Γ m_War_findWays 1 0 0 Q (GM L) (0, 0) 2 [some (zR a), some (zI c), none, none, none] [] (zrow σ (a + 12) (fwD (σ (a + 12)) c)) := by
    intro g
    induction g with
    | zero => intro c hg; exact absurd hg (Nat.not_lt_zero _)
    | succ g ih2 =>
      intro c hg hc
      refine ziload_n (k := 2) rfl rfl ?_
      refine zaload_n (k := 3) rfl rfl ?_
      refine zgI 1 (k := 4) rfl (wr_ob hw) fl_10_53 rfl (wr_fx_1 hw) ?_
      rw [h1]
      refine zicmp_ge (k := 5) rfl rfl (fun c1 => ?_) (fun c1 => ?_)
      · skip
        refine ziconst (k := 17) rfl (by decide) ?_
        refine zistore_n (k := 18) rfl (Nat.le_of_ble_eq_true rfl) rfl ?_
        have lp32 : ∀ (g : Nat) (b : Nat), (N - b) < g → (b ≤ N) → zV Γ m_War_findWays 1 0 0 Q (GM L) (0, 0) 32 [some (zR a), some (zI b), none, none, none] [] (zrow σ (a + 12) (fwB (fwD (σ (a + 12)) N) N b)) := by
          intro g
          induction g with
          | zero => intro b hg; exact absurd hg (Nat.not_lt_zero _)
          | succ g ih32 =>
            intro b hg hb
            refine ziload_n (k := 19) rfl rfl ?_
            refine zaload_n (k := 20) rfl rfl ?_
            refine zgI 1 (k := 21) rfl (wr_ob hw) fl_10_53 rfl (wr_fx_1 hw) ?_
            rw [h1]
            refine zicmp_ge (k := 22) rfl rfl (fun c2 => ?_) (fun c2 => ?_)
            · skip
              rw [show b = N by omega]
              refine zreturn (k := 78) rfl rfl rfl ?_
              rw [← hQ]
              exact ⟨rfl, rfl, rfl⟩
            · skip
              refine ziconst (k := 23) rfl (by decide) ?_
              refine zistore_n (k := 24) rfl (Nat.le_of_ble_eq_true rfl) rfl ?_
              have lp42 : ∀ (g : Nat) (f : Nat), (N - f) < g → (f ≤ N) → zV Γ m_War_findWays 1 0 0 Q (GM L) (0, 0) 42 [some (zR a), some (zI b), some (zI f), none, none] [] (zrow σ (a + 12) (fwF (fwB (fwD (σ (a + 12)) N) N b) b N f)) := by
                intro g
                induction g with
                | zero => intro f hg; exact absurd hg (Nat.not_lt_zero _)
                | succ g ih42 =>
                  intro f hg hf
                  refine ziload_n (k := 25) rfl rfl ?_
                  refine zaload_n (k := 26) rfl rfl ?_
                  refine zgI 1 (k := 27) rfl (wr_ob hw) fl_10_53 rfl (wr_fx_1 hw) ?_
                  rw [h1]
                  refine zicmp_ge (k := 28) rfl rfl (fun c3 => ?_) (fun c3 => ?_)
                  · skip
                    rw [show f = N by omega]
                    refine ziincB (k := 76) rfl rfl (by decide) (by omega) rfl ?_
                    refine zgoto (k := 77) rfl rfl ?_
                    refine zforget 2 rfl ?_
                    exact ih32 (b + 1) (by omega) (by omega)
                  · skip
                    refine ziconst (k := 29) rfl (by decide) ?_
                    refine zistore_n (k := 30) rfl (Nat.le_of_ble_eq_true rfl) rfl ?_
                    have lp52 : ∀ (g : Nat) (t : Nat), (N - t) < g → (t ≤ N) → zV Γ m_War_findWays 1 0 0 Q (GM L) (0, 0) 52 [some (zR a), some (zI b), some (zI f), some (zI t), none] [] (zrow σ (a + 12) (fwT (fwF (fwB (fwD (σ (a + 12)) N) N b) b N f) b f t)) := by
                      intro g
                      induction g with
                      | zero => intro t hg; exact absurd hg (Nat.not_lt_zero _)
                      | succ g ih52 =>
                        intro t hg ht
                        refine ziload_n (k := 31) rfl rfl ?_
                        refine zaload_n (k := 32) rfl rfl ?_
                        refine zgI 1 (k := 33) rfl (wr_ob hw) fl_10_53 rfl (wr_fx_1 hw) ?_
                        rw [h1]
                        refine zicmp_ge (k := 34) rfl rfl (fun c4 => ?_) (fun c4 => ?_)
                        · skip
                          rw [show t = N by omega]
                          refine ziincB (k := 74) rfl rfl (by decide) (by omega) rfl ?_
                          refine zgoto (k := 75) rfl rfl ?_
                          refine zforget 3 rfl ?_
                          exact ih42 (f + 1) (by omega) (by omega)
                        · skip
                          have hok := fwT_ok (fwF_ok (b := (b : Int)) (fwB_ok (fwD_ok h49 N) hN7 b (by omega)) ⟨by omega, by omega⟩ hN7 f (by omega)) (b := (b : Int)) (f := (f : Int)) ⟨by omega, by omega⟩ ⟨by omega, by omega⟩ t (by omega)
                          have q1 := hok (f * 7 + b) (by omega) (by omega)
                          have q2 := hok (b * 7 + t) (by omega) (by omega)
                          have q3 := hok (f * 7 + t) (by omega) (by omega)
                          refine zaload_n (k := 35) rfl rfl ?_
                          refine zgF 14 (k := 36) rfl (wr_ob hw) fl_10_47 rfl (wr_fx_14 hw) ?_
                          refine ziload_n (k := 37) rfl rfl ?_
                          refine zbipush (k := 38) rfl rfl ?_
                          refine zimulB (k := 39) rfl (by omega) ?_
                          refine ziload_n (k := 40) rfl rfl ?_
                          refine ziaddB (k := 41) rfl (by omega) ?_
                          refine zfS1 (k := 42) rfl (c_NT_at (wr_ar_12 hw)) fm_NT_at lk_10_74 rfl rfl (Nat.le_of_ble_eq_true rfl) (by decide) ⟨by decide, by decide⟩ ?_
                          (first | rw [zat_in (by omega)] | skip)
                          rw [zrow_s]
                          refine zaload_n (k := 43) rfl rfl ?_
                          refine zgF 14 (k := 44) rfl (wr_ob hw) fl_10_47 rfl (wr_fx_14 hw) ?_
                          refine ziload_n (k := 45) rfl rfl ?_
                          refine zbipush (k := 46) rfl rfl ?_
                          refine zimulB (k := 47) rfl (by omega) ?_
                          refine ziload_n (k := 48) rfl rfl ?_
                          refine ziaddB (k := 49) rfl (by omega) ?_
                          refine zfS1 (k := 50) rfl (c_NT_at (wr_ar_12 hw)) fm_NT_at lk_10_74 rfl rfl (Nat.le_of_ble_eq_true rfl) (by decide) ⟨by decide, by decide⟩ ?_
                          (first | rw [zat_in (by omega)] | skip)
                          rw [zrow_s]
                          refine ziaddB (k := 51) rfl (by omega) ?_
                          refine zistore (k := 52) rfl (Nat.le_of_ble_eq_true rfl) rfl ?_
                          refine ziload (k := 53) rfl rfl ?_
                          refine zaload_n (k := 54) rfl rfl ?_
                          refine zgF 14 (k := 55) rfl (wr_ob hw) fl_10_47 rfl (wr_fx_14 hw) ?_
                          refine ziload_n (k := 56) rfl rfl ?_
                          refine zbipush (k := 57) rfl rfl ?_
                          refine zimulB (k := 58) rfl (by omega) ?_
                          refine ziload_n (k := 59) rfl rfl ?_
                          refine ziaddB (k := 60) rfl (by omega) ?_
                          refine zfS1 (k := 61) rfl (c_NT_at (wr_ar_12 hw)) fm_NT_at lk_10_74 rfl rfl (Nat.le_of_ble_eq_true rfl) (by decide) ⟨by decide, by decide⟩ ?_
                          (first | rw [zat_in (by omega)] | skip)
                          rw [zrow_s]
                          refine zicmp_ge (k := 62) rfl rfl (fun c5 => ?_) (fun c5 => ?_)
                          · skip
                            try rw [show fwT (fwF (fwB (fwD (σ (a + 12)) N) N b) b N f) b f t = fwT (fwF (fwB (fwD (σ (a + 12)) N) N b) b N f) b f (t + 1) from (if_neg (Int.not_lt.mpr (by assumption))).symm]
                            refine ziincB (k := 72) rfl rfl (by decide) (by omega) rfl ?_
                            refine zgoto (k := 73) rfl rfl ?_
                            refine zforget 4 rfl ?_
                            exact ih52 (t + 1) (by omega) (by omega)
                          · skip
                            refine zaload_n (k := 63) rfl rfl ?_
                            refine zgF 14 (k := 64) rfl (wr_ob hw) fl_10_47 rfl (wr_fx_14 hw) ?_
                            refine ziload_n (k := 65) rfl rfl ?_
                            refine zbipush (k := 66) rfl rfl ?_
                            refine zimulB (k := 67) rfl (by omega) ?_
                            refine ziload_n (k := 68) rfl rfl ?_
                            refine ziaddB (k := 69) rfl (by omega) ?_
                            refine ziload (k := 70) rfl rfl ?_
                            refine zfS0 (k := 71) rfl (c_NT_put (wr_ar_12 hw) (by have := wr_pos hw; omega)) fm_NT_put lk_10_78 rfl rfl (Nat.le_of_ble_eq_true rfl) (by decide) ⟨by decide, by decide⟩ ?_
                            rw [zpt_in (by omega), zrow_up, show ups (fwT (fwF (fwB (fwD (σ (a + 12)) N) N b) b N f) b f t) _ _ = fwT (fwF (fwB (fwD (σ (a + 12)) N) N b) b N f) b f (t + 1) from (if_pos (by assumption)).symm]
                            try rw [show fwT (fwF (fwB (fwD (σ (a + 12)) N) N b) b N f) b f t = fwT (fwF (fwB (fwD (σ (a + 12)) N) N b) b N f) b f (t + 1) from (if_neg (Int.not_lt.mpr (by assumption))).symm]
                            refine ziincB (k := 72) rfl rfl (by decide) (by omega) rfl ?_
                            refine zgoto (k := 73) rfl rfl ?_
                            refine zforget 4 rfl ?_
                            exact ih52 (t + 1) (by omega) (by omega)
                    exact lp52 _ 0 (Nat.lt_succ_self _) (by omega)
              exact lp42 _ 0 (Nat.lt_succ_self _) (by omega)
        rw [show c = N by omega]
        exact lp32 _ 0 (Nat.lt_succ_self _) (by omega)
      · skip
        refine zaload_n (k := 6) rfl rfl ?_
        refine zgF 14 (k := 7) rfl (wr_ob hw) fl_10_47 rfl (wr_fx_14 hw) ?_
        refine ziload_n (k := 8) rfl rfl ?_
        refine zbipush (k := 9) rfl rfl ?_
        refine zimulB (k := 10) rfl (by omega) ?_
        refine ziload_n (k := 11) rfl rfl ?_
        refine ziaddB (k := 12) rfl (by omega) ?_
        refine ziconst (k := 13) rfl (by decide) ?_
        refine zfS0 (k := 14) rfl (c_NT_put (wr_ar_12 hw) (by have := wr_pos hw; omega)) fm_NT_put lk_10_78 rfl rfl (Nat.le_of_ble_eq_true rfl) (by decide) ⟨by decide, by decide⟩ ?_
        (first | rw [zpt_in (by omega)] | skip)
        rw [zrow_up]
        refine ziincB (k := 15) rfl rfl (by decide) (by omega) rfl ?_
        refine zgoto (k := 16) rfl rfl ?_
        exact ih2 (c + 1) (by omega) (by omega)
  rw [show σ = zrow σ (a + 12) (fwD (σ (a + 12)) 0) from (zrow_id σ (a + 12)).symm]
  exact lp2 _ 0 (Nat.lt_succ_self _) (by omega)
