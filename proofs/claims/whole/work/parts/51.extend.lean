/-! the search, depth by depth; what is best is told as (row, what he gets, when he comes) -/
abbrev zB3 : Type := List Int × Int × Int
def cmpF (B : zB3) (p : List (Int × Int)) (g v : Int) : zB3 := if 0 < B.1.length ∧ btrB B.1.length B.2.1 B.2.2 p.length g v = false then B else ((p.map Prod.fst).reverse, g, v)
noncomputable def extL (rec : List (Int × Int) → Int → zB3 → zB3) (Wm S : zv_H) (m : Int) (p : List (Int × Int)) (g : Int) : Nat → zB3 → zB3
  | 0, B => B
  | c + 1, B => @ite zB3 (cmA Wm S m p c ≠ -1 ∧ canP Wm S m p c (cmA Wm S m p c)) (Classical.propDecidable _) (rec (((c : Int), cmA Wm S m p c) :: p) (g + S 2 c) (cmpF (extL rec Wm S m p g c B) (((c : Int), cmA Wm S m p c) :: p) (g + S 2 c) (cmA Wm S m p c))) (extL rec Wm S m p g c B)
theorem extL_1 {rec : List (Int × Int) → Int → zB3 → zB3} {Wm S : zv_H} {m : Int} {p : List (Int × Int)} {g : Int} {c : Nat} {B : zB3} (h : cmA Wm S m p c ≠ -1 ∧ canP Wm S m p c (cmA Wm S m p c)) : extL rec Wm S m p g (c + 1) B = rec (((c : Int), cmA Wm S m p c) :: p) (g + S 2 c) (cmpF (extL rec Wm S m p g c B) (((c : Int), cmA Wm S m p c) :: p) (g + S 2 c) (cmA Wm S m p c)) := if_pos h
theorem extL_0 {rec : List (Int × Int) → Int → zB3 → zB3} {Wm S : zv_H} {m : Int} {p : List (Int × Int)} {g : Int} {c : Nat} {B : zB3} (h : ¬ (cmA Wm S m p c ≠ -1 ∧ canP Wm S m p c (cmA Wm S m p c))) : extL rec Wm S m p g (c + 1) B = extL rec Wm S m p g c B := if_neg h
noncomputable def extF (Wm S : zv_H) (m : Int) : Nat → List (Int × Int) → Int → zB3 → zB3
  | 0, _, _, B => B
  | d + 1, p, g, B => extL (extF Wm S m d) Wm S m p g (Wm 0 1).toNat B
/-- the notes of the search hold the row p and the best B -/
def rnd (σ0 σ : zv_H) (p : List (Int × Int)) (B : zB3) : Prop := prR σ p ∧ σ 58 1 = (B.1.length : Int) ∧ σ 58 2 = B.2.1 ∧ σ 58 3 = B.2.2 ∧ (∀ k : Nat, k < B.1.length → σ 59 k = B.1.getD k 0) ∧ ∀ x k, ¬ (x = 58 ∧ 1 ≤ k ∧ k ≤ 3) → ¬ (59 ≤ x ∧ x ≤ 61) → σ x k = σ0 x k
theorem rnd_S {σ0 σ S : zv_H} {p : List (Int × Int)} {B : zB3} (h : rnd σ0 σ p B) (hS : vw 10 σ0 30 = S) : vw 10 σ 30 = S := by
  rw [← hS]; exact vw_eq (fun x k h1 h2 => h.2.2.2.2.2 x k (by omega) (by omega)) (by omega)
theorem rnd_W {σ0 σ Wm : zv_H} {w : Int} {p : List (Int × Int)} {B : zB3} (h : rnd σ0 σ p B) (hw : w ∈ wrL) (hW : vw 12 σ0 w = Wm) : vw 12 σ w = Wm := by
  have hf := wr_far hw
  rw [← hW]; exact vw_eq (fun x k h1 h2 => h.2.2.2.2.2 x k (by omega) (by omega)) (by omega)
theorem rnd_8 {σ0 σ : zv_H} {p : List (Int × Int)} {B : zB3} (h : rnd σ0 σ p B) {k : Int} (hk : 4 ≤ k) : σ 58 k = σ0 58 k := h.2.2.2.2.2 58 k (by omega) (by omega)
theorem rnd_push {σ0 σ : zv_H} {p : List (Int × Int)} {B : zB3} {c v : Int} (h : rnd σ0 σ p B) : rnd σ0 (zup (zup σ 60 (p.length : Int) c) 61 (p.length : Int) v) ((c, v) :: p) B := by
  obtain ⟨h1, h2, h3, h4, h5, h6⟩ := h
  refine ⟨⟨by rw [zup_n (by omega), zup_s], by rw [zup_s], prR_up h1 (fun k hk => ⟨by rw [zup_n (by omega), zup_n (by omega)], by rw [zup_n (by omega), zup_n (by omega)]⟩)⟩, by rw [zup_n (by omega), zup_n (by omega)]; exact h2, by rw [zup_n (by omega), zup_n (by omega)]; exact h3, by rw [zup_n (by omega), zup_n (by omega)]; exact h4, fun k hk => by rw [zup_n (by omega), zup_n (by omega)]; exact h5 k hk, fun x k q1 q2 => by rw [zup_n (by omega), zup_n (by omega)]; exact h6 x k q1 q2⟩
theorem rnd_pop {σ0 σ : zv_H} {p : List (Int × Int)} {q : Int × Int} {B : zB3} (h : rnd σ0 σ (q :: p) B) : rnd σ0 σ p B := ⟨h.1.2.2, h.2⟩
theorem k_cmp {Γ : zv_M} {L : Int} {σ0 σ : zv_H} {p : List (Int × Int)} {B : zB3} {n g v : Int} (h : rnd σ0 σ p B) (hn : n = (p.length : Int)) (hp : p.length ≤ 4) : zC Γ m_Rounds_compare 1 0 0 (GM L) [zR 58, zI n, zI g, zI v] σ (zP0 (GM L) (fun σ' => rnd σ0 σ' p (cmpF B p g v))) := by
  refine zC_mono (fun q G' σ' hq => ?_) c_Rounds_compare
  obtain ⟨g1, g2, g3⟩ := hq
  refine ⟨g1, g2, ?_⟩
  obtain ⟨h1, h2, h3, h4, h5, h6⟩ := h
  rw [h2, h3, h4, hn] at g3
  unfold cmpF
  rcases g3 with ⟨⟨c1, c2⟩, rfl⟩ | ⟨c1, rfl⟩
  · rw [if_pos ⟨by omega, c2⟩]
    exact ⟨h1, h2, h3, h4, h5, h6⟩
  · rw [if_neg (fun q => by
      rcases c1 with c1 | c1
      · have := q.1; omega
      · rw [q.2] at c1; exact absurd c1 (by decide))]
    have hl : ((p.map Prod.fst).reverse).length = p.length := by simp
    refine ⟨prR_up h1 (fun k hk => ⟨?_, ?_⟩), ?_, ?_, ?_, fun k hk => ?_, fun x k q1 q2 => ?_⟩
    · rw [zcpy_n (by omega), zup_n (by omega), zup_n (by omega), zup_n (by omega)]
    · rw [zcpy_n (by omega), zup_n (by omega), zup_n (by omega), zup_n (by omega)]
    · rw [zcpy_n (by omega), zup_n (by omega), zup_n (by omega), zup_s]; dsimp only; rw [hl]
    · rw [zcpy_n (by omega), zup_n (by omega), zup_s]
    · rw [zcpy_n (by omega), zup_s]
    · dsimp only at hk ⊢
      rw [hl] at hk
      rw [zcpy_h, if_pos (by omega), zup_n (by omega), zup_n (by omega), zup_n (by omega)]
      exact (prR_at h1 k hk).1
    · rw [zcpy_n (by omega), zup_n (by omega), zup_n (by omega), zup_n (by omega)]; exact h6 x k q1 q2
theorem cmA_b {Wm S : zv_H} {m c : Int} {p : List (Int × Int)} (hW : WI Wm) (hp : prB (Wm 0 1) p) (h : cmA Wm S m p c ≠ -1) : 0 ≤ cmA Wm S m p c ∧ cmA Wm S m p c ≤ 60 * (p.length + 1) := by
  unfold cmA at h ⊢
  cases p with
  | nil =>
    have := dst_b hW (S 4 m) c
    dsimp only at h ⊢
    show 0 ≤ _ ∧ _ ≤ 60 * (((0 : Nat) : Int) + 1)
    omega
  | cons q r =>
    have := dst_b hW q.1 c
    have hb := hp.2.1
    dsimp only at h ⊢
    show 0 ≤ _ ∧ _ ≤ 60 * (((r.length + 1 : Nat) : Int) + 1)
    split at h
    · exact absurd rfl h
    · rename_i hh
      rw [if_neg hh]
      omega
theorem c_ext0 {Γ : zv_M} {L : Int} {w m : Int} {σ0 σ S Wm : zv_H} (h6 : σ0 58 6 = w) (h7 : σ0 58 7 = 30) (h8 : σ0 58 8 = m) (hw : w ∈ wrL) (hW : vw 12 σ0 w = Wm) (hS : vw 10 σ0 30 = S) (hSI : SI (Wm 0 1) (Wm 0 3) S) (hWI : WI Wm) (hm : 0 ≤ m ∧ m < Wm 0 3) {p : List (Int × Int)} {B : zB3} (h0 : rnd σ0 σ p B) (hpb : prB (Wm 0 1) p) {e : Int} (hg : 0 ≤ e ∧ e ≤ 999 * (p.length : Int)) (hn : p.length = 4) : zC Γ m_Rounds_extend 4 0 0 (GM L) [zR 58, zI 4, zI e] σ (zP0 (GM L) (fun σ' => rnd σ0 σ' p (extF Wm S m 0 p e B))) := by
  refine zC_of (ls0 := [_, _, _, _, _, _]) zm_Rounds_extend (by decide) rfl (Nat.le_of_ble_eq_true rfl) ?_
  refine ziload_n (k := 0) rfl rfl ?_
  refine ziconst (k := 1) rfl (by decide) ?_
  refine zicmp_lt (k := 2) rfl rfl (fun c1 => absurd c1 (by decide)) (fun _ => ?_)
  exact zreturn (k := 3) rfl rfl rfl ⟨rfl, rfl, h0⟩
set_option maxHeartbeats 4000000 in
set_option maxRecDepth 20000 in
theorem c_ext1 {Γ : zv_M} {L : Int} {w m : Int} {σ0 σ S Wm : zv_H} (h6 : σ0 58 6 = w) (h7 : σ0 58 7 = 30) (h8 : σ0 58 8 = m) (hw : w ∈ wrL) (hW : vw 12 σ0 w = Wm) (hS : vw 10 σ0 30 = S) (hSI : SI (Wm 0 1) (Wm 0 3) S) (hWI : WI Wm) (hm : 0 ≤ m ∧ m < Wm 0 3) {p : List (Int × Int)} {B : zB3} (h0 : rnd σ0 σ p B) (hpb : prB (Wm 0 1) p) {e : Int} (hg : 0 ≤ e ∧ e ≤ 999 * (p.length : Int)) (hn : p.length = 3) : zC Γ m_Rounds_extend 6 0 0 (GM L) [zR 58, zI 3, zI e] σ (zP0 (GM L) (fun σ' => rnd σ0 σ' p (extF Wm S m 1 p e B))) := by
  refine zC_of (ls0 := [_, _, _, _, _, _]) zm_Rounds_extend (by decide) rfl (Nat.le_of_ble_eq_true rfl) ?_
  generalize hQ : (zP0 (GM L) (fun σ' => rnd σ0 σ' p (extF Wm S m 1 p e B))) = Q
  have w1 := hWI.1
  have bc := hSI.2.2.2.1
  refine ziload_n (k := 0) rfl rfl ?_
  refine ziconst (k := 1) rfl (by decide) ?_
  refine zicmp_lt (k := 2) rfl rfl (fun c1 => ?_) (fun c1 => ?_)
  · skip
    refine ziconst (k := 4) rfl (by decide) ?_
    refine zistore_n (k := 5) (ls' := [_, _, _, _, _, _]) rfl (Nat.le_of_ble_eq_true rfl) rfl ?_
    have lp8 : ∀ (g : Nat) (c : Nat) (σn : zv_H), ((Wm 0 1).toNat - c) < g → ((c : Int) ≤ Wm 0 1) → (rnd σ0 σn p (extL (extF Wm S m 0) Wm S m p e c B)) → zV Γ m_Rounds_extend 6 0 0 Q (GM L) (0, 0) 8 [some (zR 58), some (zI 3), some (zI e), some (zI c), none, none] [] σn := by
      intro g
      induction g with
      | zero => intro c σn hg; exact absurd hg (Nat.not_lt_zero _)
      | succ g ih8 =>
        intro c σn hg hc h0
        have f6 : σn 58 6 = w := by rw [rnd_8 h0 (by omega)]; exact h6
        have f7 : σn 58 7 = 30 := by rw [rnd_8 h0 (by omega)]; exact h7
        have f8 : σn 58 8 = m := by rw [rnd_8 h0 (by omega)]; exact h8
        have fW : vw 12 σn w = Wm := rnd_W h0 hw hW
        have fS : vw 10 σn 30 = S := rnd_S h0 hS
        have fw0 : σn w = Wm 0 := st_e0 fW
        refine ziload_n (k := 6) rfl rfl ?_
        refine zaload_n (k := 7) rfl rfl ?_
        refine zgR 6 (k := 8) rfl ob_58 fl_6_21 rfl fx_58_6 ?_
        rw [f6]
        refine zgI 1 (k := 9) rfl (wr_ob hw) fl_6_46 rfl (wr_fx_1 hw) ?_
        rw [fw0]
        refine zicmp_ge (k := 10) rfl rfl (fun c2 => ?_) (fun c2 => ?_)
        · skip
          rw [show c = (Wm 0 1).toNat by omega] at h0
          refine zreturn (k := 58) rfl rfl rfl ?_
          rw [← hQ]
          exact ⟨rfl, rfl, h0⟩
        · skip
          refine zaload_n (k := 11) rfl rfl ?_
          refine ziload_n (k := 12) rfl rfl ?_
          refine ziload_n (k := 13) rfl rfl ?_
          refine zfV1 (k := 14) rfl (c_Rounds_comesAt f6 f7 f8 hw fW fS hSI hWI hm h0.1 hpb (by omega) (by omega)) fm_Rounds_comesAt lk_6_51 rfl rfl ob_58 ⟨_, rfl, rfl⟩ (Nat.le_of_ble_eq_true rfl) (by decide) ⟨by decide, by decide⟩ ?_
          refine zistore (k := 15) (ls' := [_, _, _, _, _, _]) rfl (Nat.le_of_ble_eq_true rfl) rfl ?_
          refine ziload (k := 16) rfl rfl ?_
          refine ziconst (k := 17) rfl (by decide) ?_
          refine zicmp_eq (k := 18) rfl rfl (fun c3 => ?_) (fun c3 => ?_)
          · skip
            refine ziincB (k := 56) (ls' := [_, _, _, _, _, _]) rfl rfl (by decide) (by omega) rfl ?_
            refine zgoto (k := 57) rfl rfl ?_
            refine zforget (ls' := [_, _, _, _, _, _]) 4 rfl ?_
            first
            | exact ih8 (c + 1) _ (by omega) (by omega) (by rw [extL_1 ⟨hcm, hca⟩]; exact h0)
            | exact ih8 (c + 1) _ (by omega) (by omega) (by rw [extL_0 (fun q => by rcases h2.2 with r | r; omega; exact r.2 q.2)]; exact h0)
            | exact ih8 (c + 1) _ (by omega) (by omega) (by rw [extL_0 (fun q => q.1 (by assumption))]; exact h0)
          · skip
            have hcm : cmA Wm S m p c ≠ -1 := by assumption
            have cb := cmA_b hWI hpb hcm
            have bcc := bc c (by omega) (by omega)
            refine zaload_n (k := 19) rfl rfl ?_
            refine ziload_n (k := 20) rfl rfl ?_
            refine ziload_n (k := 21) rfl rfl ?_
            refine ziload (k := 22) rfl rfl ?_
            refine zpVI (k := 23) rfl (c_Rounds_canEnlist f6 f7 f8 hw fW fS hSI hWI hm h0.1 hpb (by omega) (by omega) ⟨by omega, by omega⟩ (by omega)) fm_Rounds_canEnlist lk_6_55 rfl rfl ob_58 ⟨_, rfl, rfl⟩ (Nat.le_of_ble_eq_true rfl) (by decide) ⟨by decide, by decide⟩ (fun z σ2 h2 => ?_)
            rw [h2.1]
            refine zif_eq (k := 24) rfl rfl (fun c4 => ?_) (fun c4 => ?_)
            · skip
              refine ziincB (k := 56) (ls' := [_, _, _, _, _, _]) rfl rfl (by decide) (by omega) rfl ?_
              refine zgoto (k := 57) rfl rfl ?_
              refine zforget (ls' := [_, _, _, _, _, _]) 4 rfl ?_
              first
              | exact ih8 (c + 1) _ (by omega) (by omega) (by rw [extL_1 ⟨hcm, hca⟩]; exact h0)
              | exact ih8 (c + 1) _ (by omega) (by omega) (by rw [extL_0 (fun q => by rcases h2.2 with r | r; omega; exact r.2 q.2)]; exact h0)
              | exact ih8 (c + 1) _ (by omega) (by omega) (by rw [extL_0 (fun q => q.1 (by assumption))]; exact h0)
            · skip
              have hca : canP Wm S m p c (cmA Wm S m p c) := by rcases h2.2 with r | r; exact r.2; omega
              refine zaload_n (k := 25) rfl rfl ?_
              refine zgF 4 (k := 26) rfl ob_58 fl_6_15 rfl fx_58_4 ?_
              refine ziload_n (k := 27) rfl rfl ?_
              refine ziload_n (k := 28) rfl rfl ?_
              refine zfS0 (k := 29) rfl (c_NT_put ar_60 (by omega)) fm_NT_put lk_6_59 rfl rfl (Nat.le_of_ble_eq_true rfl) (by decide) ⟨by decide, by decide⟩ ?_
              rw [zpt_in (by omega)]
              refine zaload_n (k := 30) rfl rfl ?_
              refine zgF 5 (k := 31) rfl ob_58 fl_6_18 rfl fx_58_5 ?_
              refine ziload_n (k := 32) rfl rfl ?_
              refine ziload (k := 33) rfl rfl ?_
              refine zfS0 (k := 34) rfl (c_NT_put ar_61 (by omega)) fm_NT_put lk_6_59 rfl rfl (Nat.le_of_ble_eq_true rfl) (by decide) ⟨by decide, by decide⟩ ?_
              rw [zpt_in (by omega)]
              rw [show zup (zup σn 60 3 c) 61 3 (cmA Wm S m p c) = zup (zup σn 60 (p.length : Int) c) 61 (p.length : Int) (cmA Wm S m p c) by rw [hn]; rfl]
              refine ziload_n (k := 35) rfl rfl ?_
              refine zaload_n (k := 36) rfl rfl ?_
              refine zgR 7 (k := 37) rfl ob_58 fl_6_25 rfl fx_58_7 ?_
              rw [zup_n (by omega), zup_n (by omega), f7]
              refine zgF 2 (k := 38) rfl ob_30 fl_6_63 rfl fx_30_2 ?_
              refine ziload_n (k := 39) rfl rfl ?_
              refine zfS1 (k := 40) rfl (c_NT_at ar_32) fm_NT_at lk_6_68 rfl rfl (Nat.le_of_ble_eq_true rfl) (by decide) ⟨by decide, by decide⟩ ?_
              rw [zat_in (by omega), zup_n (by omega), zup_n (by omega), show σn 32 = S 2 from st_e (f := 2) fS (by omega)]
              have h0 := rnd_push (c := (c : Int)) (v := cmA Wm S m p c) h0
              refine ziaddB (k := 41) rfl (by omega) ?_
              refine zistore (k := 42) (ls' := [_, _, _, _, _, _]) rfl (Nat.le_of_ble_eq_true rfl) rfl ?_
              refine zaload_n (k := 43) rfl rfl ?_
              refine ziload_n (k := 44) rfl rfl ?_
              refine ziconst (k := 45) rfl (by decide) ?_
              refine ziaddB (k := 46) rfl (by omega) ?_
              refine ziload (k := 47) rfl rfl ?_
              refine ziload (k := 48) rfl rfl ?_
              refine zpV0 (k := 49) rfl (k_cmp h0 (by show _ = ((p.length + 1 : Nat) : Int); omega) (by show p.length + 1 ≤ 4; omega)) fm_Rounds_compare lk_6_72 rfl rfl ob_58 ⟨_, rfl, rfl⟩ (Nat.le_of_ble_eq_true rfl) (by decide) ⟨by decide, by decide⟩ (fun σ3 h3 => ?_)
              clear h0
              have h0 := h3
              clear h3
              refine zaload_n (k := 50) rfl rfl ?_
              refine ziload_n (k := 51) rfl rfl ?_
              refine ziconst (k := 52) rfl (by decide) ?_
              refine ziaddB (k := 53) rfl (by omega) ?_
              refine ziload (k := 54) rfl rfl ?_
              refine zpV0 (k := 55) rfl (c_ext0 h6 h7 h8 hw hW hS hSI hWI hm h0 ⟨⟨by dsimp only; omega, by dsimp only; omega⟩, cb, hpb⟩ (by show 0 ≤ _ ∧ _ ≤ 999 * ((p.length + 1 : Nat) : Int); omega) (by show p.length + 1 = _; omega)) fm_Rounds_extend lk_6_42 rfl rfl ob_58 ⟨_, rfl, rfl⟩ (Nat.le_of_ble_eq_true rfl) (by decide) ⟨by decide, by decide⟩ (fun σ4 h4 => ?_)
              clear h0
              have h0 := rnd_pop h4
              clear h4
              refine ziincB (k := 56) (ls' := [_, _, _, _, _, _]) rfl rfl (by decide) (by omega) rfl ?_
              refine zgoto (k := 57) rfl rfl ?_
              refine zforget (ls' := [_, _, _, _, _, _]) 4 rfl ?_
              refine zforget (ls' := [_, _, _, _, _, _]) 5 rfl ?_
              first
              | exact ih8 (c + 1) _ (by omega) (by omega) (by rw [extL_1 ⟨hcm, hca⟩]; exact h0)
              | exact ih8 (c + 1) _ (by omega) (by omega) (by rw [extL_0 (fun q => by rcases h2.2 with r | r; omega; exact r.2 q.2)]; exact h0)
              | exact ih8 (c + 1) _ (by omega) (by omega) (by rw [extL_0 (fun q => q.1 (by assumption))]; exact h0)
    exact lp8 _ 0 _ (Nat.lt_succ_self _) (by omega) h0
  · exact absurd c1 (by omega)
set_option maxHeartbeats 4000000 in
set_option maxRecDepth 20000 in
theorem c_ext2 {Γ : zv_M} {L : Int} {w m : Int} {σ0 σ S Wm : zv_H} (h6 : σ0 58 6 = w) (h7 : σ0 58 7 = 30) (h8 : σ0 58 8 = m) (hw : w ∈ wrL) (hW : vw 12 σ0 w = Wm) (hS : vw 10 σ0 30 = S) (hSI : SI (Wm 0 1) (Wm 0 3) S) (hWI : WI Wm) (hm : 0 ≤ m ∧ m < Wm 0 3) {p : List (Int × Int)} {B : zB3} (h0 : rnd σ0 σ p B) (hpb : prB (Wm 0 1) p) {e : Int} (hg : 0 ≤ e ∧ e ≤ 999 * (p.length : Int)) (hn : p.length = 2) : zC Γ m_Rounds_extend 8 0 0 (GM L) [zR 58, zI 2, zI e] σ (zP0 (GM L) (fun σ' => rnd σ0 σ' p (extF Wm S m 2 p e B))) := by
  refine zC_of (ls0 := [_, _, _, _, _, _]) zm_Rounds_extend (by decide) rfl (Nat.le_of_ble_eq_true rfl) ?_
  generalize hQ : (zP0 (GM L) (fun σ' => rnd σ0 σ' p (extF Wm S m 2 p e B))) = Q
  have w1 := hWI.1
  have bc := hSI.2.2.2.1
  refine ziload_n (k := 0) rfl rfl ?_
  refine ziconst (k := 1) rfl (by decide) ?_
  refine zicmp_lt (k := 2) rfl rfl (fun c1 => ?_) (fun c1 => ?_)
  · skip
    refine ziconst (k := 4) rfl (by decide) ?_
    refine zistore_n (k := 5) (ls' := [_, _, _, _, _, _]) rfl (Nat.le_of_ble_eq_true rfl) rfl ?_
    have lp8 : ∀ (g : Nat) (c : Nat) (σn : zv_H), ((Wm 0 1).toNat - c) < g → ((c : Int) ≤ Wm 0 1) → (rnd σ0 σn p (extL (extF Wm S m 1) Wm S m p e c B)) → zV Γ m_Rounds_extend 8 0 0 Q (GM L) (0, 0) 8 [some (zR 58), some (zI 2), some (zI e), some (zI c), none, none] [] σn := by
      intro g
      induction g with
      | zero => intro c σn hg; exact absurd hg (Nat.not_lt_zero _)
      | succ g ih8 =>
        intro c σn hg hc h0
        have f6 : σn 58 6 = w := by rw [rnd_8 h0 (by omega)]; exact h6
        have f7 : σn 58 7 = 30 := by rw [rnd_8 h0 (by omega)]; exact h7
        have f8 : σn 58 8 = m := by rw [rnd_8 h0 (by omega)]; exact h8
        have fW : vw 12 σn w = Wm := rnd_W h0 hw hW
        have fS : vw 10 σn 30 = S := rnd_S h0 hS
        have fw0 : σn w = Wm 0 := st_e0 fW
        refine ziload_n (k := 6) rfl rfl ?_
        refine zaload_n (k := 7) rfl rfl ?_
        refine zgR 6 (k := 8) rfl ob_58 fl_6_21 rfl fx_58_6 ?_
        rw [f6]
        refine zgI 1 (k := 9) rfl (wr_ob hw) fl_6_46 rfl (wr_fx_1 hw) ?_
        rw [fw0]
        refine zicmp_ge (k := 10) rfl rfl (fun c2 => ?_) (fun c2 => ?_)
        · skip
          rw [show c = (Wm 0 1).toNat by omega] at h0
          refine zreturn (k := 58) rfl rfl rfl ?_
          rw [← hQ]
          exact ⟨rfl, rfl, h0⟩
        · skip
          refine zaload_n (k := 11) rfl rfl ?_
          refine ziload_n (k := 12) rfl rfl ?_
          refine ziload_n (k := 13) rfl rfl ?_
          refine zfV1 (k := 14) rfl (c_Rounds_comesAt f6 f7 f8 hw fW fS hSI hWI hm h0.1 hpb (by omega) (by omega)) fm_Rounds_comesAt lk_6_51 rfl rfl ob_58 ⟨_, rfl, rfl⟩ (Nat.le_of_ble_eq_true rfl) (by decide) ⟨by decide, by decide⟩ ?_
          refine zistore (k := 15) (ls' := [_, _, _, _, _, _]) rfl (Nat.le_of_ble_eq_true rfl) rfl ?_
          refine ziload (k := 16) rfl rfl ?_
          refine ziconst (k := 17) rfl (by decide) ?_
          refine zicmp_eq (k := 18) rfl rfl (fun c3 => ?_) (fun c3 => ?_)
          · skip
            refine ziincB (k := 56) (ls' := [_, _, _, _, _, _]) rfl rfl (by decide) (by omega) rfl ?_
            refine zgoto (k := 57) rfl rfl ?_
            refine zforget (ls' := [_, _, _, _, _, _]) 4 rfl ?_
            first
            | exact ih8 (c + 1) _ (by omega) (by omega) (by rw [extL_1 ⟨hcm, hca⟩]; exact h0)
            | exact ih8 (c + 1) _ (by omega) (by omega) (by rw [extL_0 (fun q => by rcases h2.2 with r | r; omega; exact r.2 q.2)]; exact h0)
            | exact ih8 (c + 1) _ (by omega) (by omega) (by rw [extL_0 (fun q => q.1 (by assumption))]; exact h0)
          · skip
            have hcm : cmA Wm S m p c ≠ -1 := by assumption
            have cb := cmA_b hWI hpb hcm
            have bcc := bc c (by omega) (by omega)
            refine zaload_n (k := 19) rfl rfl ?_
            refine ziload_n (k := 20) rfl rfl ?_
            refine ziload_n (k := 21) rfl rfl ?_
            refine ziload (k := 22) rfl rfl ?_
            refine zpVI (k := 23) rfl (c_Rounds_canEnlist f6 f7 f8 hw fW fS hSI hWI hm h0.1 hpb (by omega) (by omega) ⟨by omega, by omega⟩ (by omega)) fm_Rounds_canEnlist lk_6_55 rfl rfl ob_58 ⟨_, rfl, rfl⟩ (Nat.le_of_ble_eq_true rfl) (by decide) ⟨by decide, by decide⟩ (fun z σ2 h2 => ?_)
            rw [h2.1]
            refine zif_eq (k := 24) rfl rfl (fun c4 => ?_) (fun c4 => ?_)
            · skip
              refine ziincB (k := 56) (ls' := [_, _, _, _, _, _]) rfl rfl (by decide) (by omega) rfl ?_
              refine zgoto (k := 57) rfl rfl ?_
              refine zforget (ls' := [_, _, _, _, _, _]) 4 rfl ?_
              first
              | exact ih8 (c + 1) _ (by omega) (by omega) (by rw [extL_1 ⟨hcm, hca⟩]; exact h0)
              | exact ih8 (c + 1) _ (by omega) (by omega) (by rw [extL_0 (fun q => by rcases h2.2 with r | r; omega; exact r.2 q.2)]; exact h0)
              | exact ih8 (c + 1) _ (by omega) (by omega) (by rw [extL_0 (fun q => q.1 (by assumption))]; exact h0)
            · skip
              have hca : canP Wm S m p c (cmA Wm S m p c) := by rcases h2.2 with r | r; exact r.2; omega
              refine zaload_n (k := 25) rfl rfl ?_
              refine zgF 4 (k := 26) rfl ob_58 fl_6_15 rfl fx_58_4 ?_
              refine ziload_n (k := 27) rfl rfl ?_
              refine ziload_n (k := 28) rfl rfl ?_
              refine zfS0 (k := 29) rfl (c_NT_put ar_60 (by omega)) fm_NT_put lk_6_59 rfl rfl (Nat.le_of_ble_eq_true rfl) (by decide) ⟨by decide, by decide⟩ ?_
              rw [zpt_in (by omega)]
              refine zaload_n (k := 30) rfl rfl ?_
              refine zgF 5 (k := 31) rfl ob_58 fl_6_18 rfl fx_58_5 ?_
              refine ziload_n (k := 32) rfl rfl ?_
              refine ziload (k := 33) rfl rfl ?_
              refine zfS0 (k := 34) rfl (c_NT_put ar_61 (by omega)) fm_NT_put lk_6_59 rfl rfl (Nat.le_of_ble_eq_true rfl) (by decide) ⟨by decide, by decide⟩ ?_
              rw [zpt_in (by omega)]
              rw [show zup (zup σn 60 2 c) 61 2 (cmA Wm S m p c) = zup (zup σn 60 (p.length : Int) c) 61 (p.length : Int) (cmA Wm S m p c) by rw [hn]; rfl]
              refine ziload_n (k := 35) rfl rfl ?_
              refine zaload_n (k := 36) rfl rfl ?_
              refine zgR 7 (k := 37) rfl ob_58 fl_6_25 rfl fx_58_7 ?_
              rw [zup_n (by omega), zup_n (by omega), f7]
              refine zgF 2 (k := 38) rfl ob_30 fl_6_63 rfl fx_30_2 ?_
              refine ziload_n (k := 39) rfl rfl ?_
              refine zfS1 (k := 40) rfl (c_NT_at ar_32) fm_NT_at lk_6_68 rfl rfl (Nat.le_of_ble_eq_true rfl) (by decide) ⟨by decide, by decide⟩ ?_
              rw [zat_in (by omega), zup_n (by omega), zup_n (by omega), show σn 32 = S 2 from st_e (f := 2) fS (by omega)]
              have h0 := rnd_push (c := (c : Int)) (v := cmA Wm S m p c) h0
              refine ziaddB (k := 41) rfl (by omega) ?_
              refine zistore (k := 42) (ls' := [_, _, _, _, _, _]) rfl (Nat.le_of_ble_eq_true rfl) rfl ?_
              refine zaload_n (k := 43) rfl rfl ?_
              refine ziload_n (k := 44) rfl rfl ?_
              refine ziconst (k := 45) rfl (by decide) ?_
              refine ziaddB (k := 46) rfl (by omega) ?_
              refine ziload (k := 47) rfl rfl ?_
              refine ziload (k := 48) rfl rfl ?_
              refine zpV0 (k := 49) rfl (k_cmp h0 (by show _ = ((p.length + 1 : Nat) : Int); omega) (by show p.length + 1 ≤ 4; omega)) fm_Rounds_compare lk_6_72 rfl rfl ob_58 ⟨_, rfl, rfl⟩ (Nat.le_of_ble_eq_true rfl) (by decide) ⟨by decide, by decide⟩ (fun σ3 h3 => ?_)
              clear h0
              have h0 := h3
              clear h3
              refine zaload_n (k := 50) rfl rfl ?_
              refine ziload_n (k := 51) rfl rfl ?_
              refine ziconst (k := 52) rfl (by decide) ?_
              refine ziaddB (k := 53) rfl (by omega) ?_
              refine ziload (k := 54) rfl rfl ?_
              refine zpV0 (k := 55) rfl (c_ext1 h6 h7 h8 hw hW hS hSI hWI hm h0 ⟨⟨by dsimp only; omega, by dsimp only; omega⟩, cb, hpb⟩ (by show 0 ≤ _ ∧ _ ≤ 999 * ((p.length + 1 : Nat) : Int); omega) (by show p.length + 1 = _; omega)) fm_Rounds_extend lk_6_42 rfl rfl ob_58 ⟨_, rfl, rfl⟩ (Nat.le_of_ble_eq_true rfl) (by decide) ⟨by decide, by decide⟩ (fun σ4 h4 => ?_)
              clear h0
              have h0 := rnd_pop h4
              clear h4
              refine ziincB (k := 56) (ls' := [_, _, _, _, _, _]) rfl rfl (by decide) (by omega) rfl ?_
              refine zgoto (k := 57) rfl rfl ?_
              refine zforget (ls' := [_, _, _, _, _, _]) 4 rfl ?_
              refine zforget (ls' := [_, _, _, _, _, _]) 5 rfl ?_
              first
              | exact ih8 (c + 1) _ (by omega) (by omega) (by rw [extL_1 ⟨hcm, hca⟩]; exact h0)
              | exact ih8 (c + 1) _ (by omega) (by omega) (by rw [extL_0 (fun q => by rcases h2.2 with r | r; omega; exact r.2 q.2)]; exact h0)
              | exact ih8 (c + 1) _ (by omega) (by omega) (by rw [extL_0 (fun q => q.1 (by assumption))]; exact h0)
    exact lp8 _ 0 _ (Nat.lt_succ_self _) (by omega) h0
  · exact absurd c1 (by omega)
set_option maxHeartbeats 4000000 in
set_option maxRecDepth 20000 in
theorem c_ext3 {Γ : zv_M} {L : Int} {w m : Int} {σ0 σ S Wm : zv_H} (h6 : σ0 58 6 = w) (h7 : σ0 58 7 = 30) (h8 : σ0 58 8 = m) (hw : w ∈ wrL) (hW : vw 12 σ0 w = Wm) (hS : vw 10 σ0 30 = S) (hSI : SI (Wm 0 1) (Wm 0 3) S) (hWI : WI Wm) (hm : 0 ≤ m ∧ m < Wm 0 3) {p : List (Int × Int)} {B : zB3} (h0 : rnd σ0 σ p B) (hpb : prB (Wm 0 1) p) {e : Int} (hg : 0 ≤ e ∧ e ≤ 999 * (p.length : Int)) (hn : p.length = 1) : zC Γ m_Rounds_extend 10 0 0 (GM L) [zR 58, zI 1, zI e] σ (zP0 (GM L) (fun σ' => rnd σ0 σ' p (extF Wm S m 3 p e B))) := by
  refine zC_of (ls0 := [_, _, _, _, _, _]) zm_Rounds_extend (by decide) rfl (Nat.le_of_ble_eq_true rfl) ?_
  generalize hQ : (zP0 (GM L) (fun σ' => rnd σ0 σ' p (extF Wm S m 3 p e B))) = Q
  have w1 := hWI.1
  have bc := hSI.2.2.2.1
  refine ziload_n (k := 0) rfl rfl ?_
  refine ziconst (k := 1) rfl (by decide) ?_
  refine zicmp_lt (k := 2) rfl rfl (fun c1 => ?_) (fun c1 => ?_)
  · skip
    refine ziconst (k := 4) rfl (by decide) ?_
    refine zistore_n (k := 5) (ls' := [_, _, _, _, _, _]) rfl (Nat.le_of_ble_eq_true rfl) rfl ?_
    have lp8 : ∀ (g : Nat) (c : Nat) (σn : zv_H), ((Wm 0 1).toNat - c) < g → ((c : Int) ≤ Wm 0 1) → (rnd σ0 σn p (extL (extF Wm S m 2) Wm S m p e c B)) → zV Γ m_Rounds_extend 10 0 0 Q (GM L) (0, 0) 8 [some (zR 58), some (zI 1), some (zI e), some (zI c), none, none] [] σn := by
      intro g
      induction g with
      | zero => intro c σn hg; exact absurd hg (Nat.not_lt_zero _)
      | succ g ih8 =>
        intro c σn hg hc h0
        have f6 : σn 58 6 = w := by rw [rnd_8 h0 (by omega)]; exact h6
        have f7 : σn 58 7 = 30 := by rw [rnd_8 h0 (by omega)]; exact h7
        have f8 : σn 58 8 = m := by rw [rnd_8 h0 (by omega)]; exact h8
        have fW : vw 12 σn w = Wm := rnd_W h0 hw hW
        have fS : vw 10 σn 30 = S := rnd_S h0 hS
        have fw0 : σn w = Wm 0 := st_e0 fW
        refine ziload_n (k := 6) rfl rfl ?_
        refine zaload_n (k := 7) rfl rfl ?_
        refine zgR 6 (k := 8) rfl ob_58 fl_6_21 rfl fx_58_6 ?_
        rw [f6]
        refine zgI 1 (k := 9) rfl (wr_ob hw) fl_6_46 rfl (wr_fx_1 hw) ?_
        rw [fw0]
        refine zicmp_ge (k := 10) rfl rfl (fun c2 => ?_) (fun c2 => ?_)
        · skip
          rw [show c = (Wm 0 1).toNat by omega] at h0
          refine zreturn (k := 58) rfl rfl rfl ?_
          rw [← hQ]
          exact ⟨rfl, rfl, h0⟩
        · skip
          refine zaload_n (k := 11) rfl rfl ?_
          refine ziload_n (k := 12) rfl rfl ?_
          refine ziload_n (k := 13) rfl rfl ?_
          refine zfV1 (k := 14) rfl (c_Rounds_comesAt f6 f7 f8 hw fW fS hSI hWI hm h0.1 hpb (by omega) (by omega)) fm_Rounds_comesAt lk_6_51 rfl rfl ob_58 ⟨_, rfl, rfl⟩ (Nat.le_of_ble_eq_true rfl) (by decide) ⟨by decide, by decide⟩ ?_
          refine zistore (k := 15) (ls' := [_, _, _, _, _, _]) rfl (Nat.le_of_ble_eq_true rfl) rfl ?_
          refine ziload (k := 16) rfl rfl ?_
          refine ziconst (k := 17) rfl (by decide) ?_
          refine zicmp_eq (k := 18) rfl rfl (fun c3 => ?_) (fun c3 => ?_)
          · skip
            refine ziincB (k := 56) (ls' := [_, _, _, _, _, _]) rfl rfl (by decide) (by omega) rfl ?_
            refine zgoto (k := 57) rfl rfl ?_
            refine zforget (ls' := [_, _, _, _, _, _]) 4 rfl ?_
            first
            | exact ih8 (c + 1) _ (by omega) (by omega) (by rw [extL_1 ⟨hcm, hca⟩]; exact h0)
            | exact ih8 (c + 1) _ (by omega) (by omega) (by rw [extL_0 (fun q => by rcases h2.2 with r | r; omega; exact r.2 q.2)]; exact h0)
            | exact ih8 (c + 1) _ (by omega) (by omega) (by rw [extL_0 (fun q => q.1 (by assumption))]; exact h0)
          · skip
            have hcm : cmA Wm S m p c ≠ -1 := by assumption
            have cb := cmA_b hWI hpb hcm
            have bcc := bc c (by omega) (by omega)
            refine zaload_n (k := 19) rfl rfl ?_
            refine ziload_n (k := 20) rfl rfl ?_
            refine ziload_n (k := 21) rfl rfl ?_
            refine ziload (k := 22) rfl rfl ?_
            refine zpVI (k := 23) rfl (c_Rounds_canEnlist f6 f7 f8 hw fW fS hSI hWI hm h0.1 hpb (by omega) (by omega) ⟨by omega, by omega⟩ (by omega)) fm_Rounds_canEnlist lk_6_55 rfl rfl ob_58 ⟨_, rfl, rfl⟩ (Nat.le_of_ble_eq_true rfl) (by decide) ⟨by decide, by decide⟩ (fun z σ2 h2 => ?_)
            rw [h2.1]
            refine zif_eq (k := 24) rfl rfl (fun c4 => ?_) (fun c4 => ?_)
            · skip
              refine ziincB (k := 56) (ls' := [_, _, _, _, _, _]) rfl rfl (by decide) (by omega) rfl ?_
              refine zgoto (k := 57) rfl rfl ?_
              refine zforget (ls' := [_, _, _, _, _, _]) 4 rfl ?_
              first
              | exact ih8 (c + 1) _ (by omega) (by omega) (by rw [extL_1 ⟨hcm, hca⟩]; exact h0)
              | exact ih8 (c + 1) _ (by omega) (by omega) (by rw [extL_0 (fun q => by rcases h2.2 with r | r; omega; exact r.2 q.2)]; exact h0)
              | exact ih8 (c + 1) _ (by omega) (by omega) (by rw [extL_0 (fun q => q.1 (by assumption))]; exact h0)
            · skip
              have hca : canP Wm S m p c (cmA Wm S m p c) := by rcases h2.2 with r | r; exact r.2; omega
              refine zaload_n (k := 25) rfl rfl ?_
              refine zgF 4 (k := 26) rfl ob_58 fl_6_15 rfl fx_58_4 ?_
              refine ziload_n (k := 27) rfl rfl ?_
              refine ziload_n (k := 28) rfl rfl ?_
              refine zfS0 (k := 29) rfl (c_NT_put ar_60 (by omega)) fm_NT_put lk_6_59 rfl rfl (Nat.le_of_ble_eq_true rfl) (by decide) ⟨by decide, by decide⟩ ?_
              rw [zpt_in (by omega)]
              refine zaload_n (k := 30) rfl rfl ?_
              refine zgF 5 (k := 31) rfl ob_58 fl_6_18 rfl fx_58_5 ?_
              refine ziload_n (k := 32) rfl rfl ?_
              refine ziload (k := 33) rfl rfl ?_
              refine zfS0 (k := 34) rfl (c_NT_put ar_61 (by omega)) fm_NT_put lk_6_59 rfl rfl (Nat.le_of_ble_eq_true rfl) (by decide) ⟨by decide, by decide⟩ ?_
              rw [zpt_in (by omega)]
              rw [show zup (zup σn 60 1 c) 61 1 (cmA Wm S m p c) = zup (zup σn 60 (p.length : Int) c) 61 (p.length : Int) (cmA Wm S m p c) by rw [hn]; rfl]
              refine ziload_n (k := 35) rfl rfl ?_
              refine zaload_n (k := 36) rfl rfl ?_
              refine zgR 7 (k := 37) rfl ob_58 fl_6_25 rfl fx_58_7 ?_
              rw [zup_n (by omega), zup_n (by omega), f7]
              refine zgF 2 (k := 38) rfl ob_30 fl_6_63 rfl fx_30_2 ?_
              refine ziload_n (k := 39) rfl rfl ?_
              refine zfS1 (k := 40) rfl (c_NT_at ar_32) fm_NT_at lk_6_68 rfl rfl (Nat.le_of_ble_eq_true rfl) (by decide) ⟨by decide, by decide⟩ ?_
              rw [zat_in (by omega), zup_n (by omega), zup_n (by omega), show σn 32 = S 2 from st_e (f := 2) fS (by omega)]
              have h0 := rnd_push (c := (c : Int)) (v := cmA Wm S m p c) h0
              refine ziaddB (k := 41) rfl (by omega) ?_
              refine zistore (k := 42) (ls' := [_, _, _, _, _, _]) rfl (Nat.le_of_ble_eq_true rfl) rfl ?_
              refine zaload_n (k := 43) rfl rfl ?_
              refine ziload_n (k := 44) rfl rfl ?_
              refine ziconst (k := 45) rfl (by decide) ?_
              refine ziaddB (k := 46) rfl (by omega) ?_
              refine ziload (k := 47) rfl rfl ?_
              refine ziload (k := 48) rfl rfl ?_
              refine zpV0 (k := 49) rfl (k_cmp h0 (by show _ = ((p.length + 1 : Nat) : Int); omega) (by show p.length + 1 ≤ 4; omega)) fm_Rounds_compare lk_6_72 rfl rfl ob_58 ⟨_, rfl, rfl⟩ (Nat.le_of_ble_eq_true rfl) (by decide) ⟨by decide, by decide⟩ (fun σ3 h3 => ?_)
              clear h0
              have h0 := h3
              clear h3
              refine zaload_n (k := 50) rfl rfl ?_
              refine ziload_n (k := 51) rfl rfl ?_
              refine ziconst (k := 52) rfl (by decide) ?_
              refine ziaddB (k := 53) rfl (by omega) ?_
              refine ziload (k := 54) rfl rfl ?_
              refine zpV0 (k := 55) rfl (c_ext2 h6 h7 h8 hw hW hS hSI hWI hm h0 ⟨⟨by dsimp only; omega, by dsimp only; omega⟩, cb, hpb⟩ (by show 0 ≤ _ ∧ _ ≤ 999 * ((p.length + 1 : Nat) : Int); omega) (by show p.length + 1 = _; omega)) fm_Rounds_extend lk_6_42 rfl rfl ob_58 ⟨_, rfl, rfl⟩ (Nat.le_of_ble_eq_true rfl) (by decide) ⟨by decide, by decide⟩ (fun σ4 h4 => ?_)
              clear h0
              have h0 := rnd_pop h4
              clear h4
              refine ziincB (k := 56) (ls' := [_, _, _, _, _, _]) rfl rfl (by decide) (by omega) rfl ?_
              refine zgoto (k := 57) rfl rfl ?_
              refine zforget (ls' := [_, _, _, _, _, _]) 4 rfl ?_
              refine zforget (ls' := [_, _, _, _, _, _]) 5 rfl ?_
              first
              | exact ih8 (c + 1) _ (by omega) (by omega) (by rw [extL_1 ⟨hcm, hca⟩]; exact h0)
              | exact ih8 (c + 1) _ (by omega) (by omega) (by rw [extL_0 (fun q => by rcases h2.2 with r | r; omega; exact r.2 q.2)]; exact h0)
              | exact ih8 (c + 1) _ (by omega) (by omega) (by rw [extL_0 (fun q => q.1 (by assumption))]; exact h0)
    exact lp8 _ 0 _ (Nat.lt_succ_self _) (by omega) h0
  · exact absurd c1 (by omega)
set_option maxHeartbeats 4000000 in
set_option maxRecDepth 20000 in
theorem c_ext4 {Γ : zv_M} {L : Int} {w m : Int} {σ0 σ S Wm : zv_H} (h6 : σ0 58 6 = w) (h7 : σ0 58 7 = 30) (h8 : σ0 58 8 = m) (hw : w ∈ wrL) (hW : vw 12 σ0 w = Wm) (hS : vw 10 σ0 30 = S) (hSI : SI (Wm 0 1) (Wm 0 3) S) (hWI : WI Wm) (hm : 0 ≤ m ∧ m < Wm 0 3) {p : List (Int × Int)} {B : zB3} (h0 : rnd σ0 σ p B) (hpb : prB (Wm 0 1) p) {e : Int} (hg : 0 ≤ e ∧ e ≤ 999 * (p.length : Int)) (hn : p.length = 0) : zC Γ m_Rounds_extend 12 0 0 (GM L) [zR 58, zI 0, zI e] σ (zP0 (GM L) (fun σ' => rnd σ0 σ' p (extF Wm S m 4 p e B))) := by
  refine zC_of (ls0 := [_, _, _, _, _, _]) zm_Rounds_extend (by decide) rfl (Nat.le_of_ble_eq_true rfl) ?_
  generalize hQ : (zP0 (GM L) (fun σ' => rnd σ0 σ' p (extF Wm S m 4 p e B))) = Q
  have w1 := hWI.1
  have bc := hSI.2.2.2.1
  refine ziload_n (k := 0) rfl rfl ?_
  refine ziconst (k := 1) rfl (by decide) ?_
  refine zicmp_lt (k := 2) rfl rfl (fun c1 => ?_) (fun c1 => ?_)
  · skip
    refine ziconst (k := 4) rfl (by decide) ?_
    refine zistore_n (k := 5) (ls' := [_, _, _, _, _, _]) rfl (Nat.le_of_ble_eq_true rfl) rfl ?_
    have lp8 : ∀ (g : Nat) (c : Nat) (σn : zv_H), ((Wm 0 1).toNat - c) < g → ((c : Int) ≤ Wm 0 1) → (rnd σ0 σn p (extL (extF Wm S m 3) Wm S m p e c B)) → zV Γ m_Rounds_extend 12 0 0 Q (GM L) (0, 0) 8 [some (zR 58), some (zI 0), some (zI e), some (zI c), none, none] [] σn := by
      intro g
      induction g with
      | zero => intro c σn hg; exact absurd hg (Nat.not_lt_zero _)
      | succ g ih8 =>
        intro c σn hg hc h0
        have f6 : σn 58 6 = w := by rw [rnd_8 h0 (by omega)]; exact h6
        have f7 : σn 58 7 = 30 := by rw [rnd_8 h0 (by omega)]; exact h7
        have f8 : σn 58 8 = m := by rw [rnd_8 h0 (by omega)]; exact h8
        have fW : vw 12 σn w = Wm := rnd_W h0 hw hW
        have fS : vw 10 σn 30 = S := rnd_S h0 hS
        have fw0 : σn w = Wm 0 := st_e0 fW
        refine ziload_n (k := 6) rfl rfl ?_
        refine zaload_n (k := 7) rfl rfl ?_
        refine zgR 6 (k := 8) rfl ob_58 fl_6_21 rfl fx_58_6 ?_
        rw [f6]
        refine zgI 1 (k := 9) rfl (wr_ob hw) fl_6_46 rfl (wr_fx_1 hw) ?_
        rw [fw0]
        refine zicmp_ge (k := 10) rfl rfl (fun c2 => ?_) (fun c2 => ?_)
        · skip
          rw [show c = (Wm 0 1).toNat by omega] at h0
          refine zreturn (k := 58) rfl rfl rfl ?_
          rw [← hQ]
          exact ⟨rfl, rfl, h0⟩
        · skip
          refine zaload_n (k := 11) rfl rfl ?_
          refine ziload_n (k := 12) rfl rfl ?_
          refine ziload_n (k := 13) rfl rfl ?_
          refine zfV1 (k := 14) rfl (c_Rounds_comesAt f6 f7 f8 hw fW fS hSI hWI hm h0.1 hpb (by omega) (by omega)) fm_Rounds_comesAt lk_6_51 rfl rfl ob_58 ⟨_, rfl, rfl⟩ (Nat.le_of_ble_eq_true rfl) (by decide) ⟨by decide, by decide⟩ ?_
          refine zistore (k := 15) (ls' := [_, _, _, _, _, _]) rfl (Nat.le_of_ble_eq_true rfl) rfl ?_
          refine ziload (k := 16) rfl rfl ?_
          refine ziconst (k := 17) rfl (by decide) ?_
          refine zicmp_eq (k := 18) rfl rfl (fun c3 => ?_) (fun c3 => ?_)
          · skip
            refine ziincB (k := 56) (ls' := [_, _, _, _, _, _]) rfl rfl (by decide) (by omega) rfl ?_
            refine zgoto (k := 57) rfl rfl ?_
            refine zforget (ls' := [_, _, _, _, _, _]) 4 rfl ?_
            first
            | exact ih8 (c + 1) _ (by omega) (by omega) (by rw [extL_1 ⟨hcm, hca⟩]; exact h0)
            | exact ih8 (c + 1) _ (by omega) (by omega) (by rw [extL_0 (fun q => by rcases h2.2 with r | r; omega; exact r.2 q.2)]; exact h0)
            | exact ih8 (c + 1) _ (by omega) (by omega) (by rw [extL_0 (fun q => q.1 (by assumption))]; exact h0)
          · skip
            have hcm : cmA Wm S m p c ≠ -1 := by assumption
            have cb := cmA_b hWI hpb hcm
            have bcc := bc c (by omega) (by omega)
            refine zaload_n (k := 19) rfl rfl ?_
            refine ziload_n (k := 20) rfl rfl ?_
            refine ziload_n (k := 21) rfl rfl ?_
            refine ziload (k := 22) rfl rfl ?_
            refine zpVI (k := 23) rfl (c_Rounds_canEnlist f6 f7 f8 hw fW fS hSI hWI hm h0.1 hpb (by omega) (by omega) ⟨by omega, by omega⟩ (by omega)) fm_Rounds_canEnlist lk_6_55 rfl rfl ob_58 ⟨_, rfl, rfl⟩ (Nat.le_of_ble_eq_true rfl) (by decide) ⟨by decide, by decide⟩ (fun z σ2 h2 => ?_)
            rw [h2.1]
            refine zif_eq (k := 24) rfl rfl (fun c4 => ?_) (fun c4 => ?_)
            · skip
              refine ziincB (k := 56) (ls' := [_, _, _, _, _, _]) rfl rfl (by decide) (by omega) rfl ?_
              refine zgoto (k := 57) rfl rfl ?_
              refine zforget (ls' := [_, _, _, _, _, _]) 4 rfl ?_
              first
              | exact ih8 (c + 1) _ (by omega) (by omega) (by rw [extL_1 ⟨hcm, hca⟩]; exact h0)
              | exact ih8 (c + 1) _ (by omega) (by omega) (by rw [extL_0 (fun q => by rcases h2.2 with r | r; omega; exact r.2 q.2)]; exact h0)
              | exact ih8 (c + 1) _ (by omega) (by omega) (by rw [extL_0 (fun q => q.1 (by assumption))]; exact h0)
            · skip
              have hca : canP Wm S m p c (cmA Wm S m p c) := by rcases h2.2 with r | r; exact r.2; omega
              refine zaload_n (k := 25) rfl rfl ?_
              refine zgF 4 (k := 26) rfl ob_58 fl_6_15 rfl fx_58_4 ?_
              refine ziload_n (k := 27) rfl rfl ?_
              refine ziload_n (k := 28) rfl rfl ?_
              refine zfS0 (k := 29) rfl (c_NT_put ar_60 (by omega)) fm_NT_put lk_6_59 rfl rfl (Nat.le_of_ble_eq_true rfl) (by decide) ⟨by decide, by decide⟩ ?_
              rw [zpt_in (by omega)]
              refine zaload_n (k := 30) rfl rfl ?_
              refine zgF 5 (k := 31) rfl ob_58 fl_6_18 rfl fx_58_5 ?_
              refine ziload_n (k := 32) rfl rfl ?_
              refine ziload (k := 33) rfl rfl ?_
              refine zfS0 (k := 34) rfl (c_NT_put ar_61 (by omega)) fm_NT_put lk_6_59 rfl rfl (Nat.le_of_ble_eq_true rfl) (by decide) ⟨by decide, by decide⟩ ?_
              rw [zpt_in (by omega)]
              rw [show zup (zup σn 60 0 c) 61 0 (cmA Wm S m p c) = zup (zup σn 60 (p.length : Int) c) 61 (p.length : Int) (cmA Wm S m p c) by rw [hn]; rfl]
              refine ziload_n (k := 35) rfl rfl ?_
              refine zaload_n (k := 36) rfl rfl ?_
              refine zgR 7 (k := 37) rfl ob_58 fl_6_25 rfl fx_58_7 ?_
              rw [zup_n (by omega), zup_n (by omega), f7]
              refine zgF 2 (k := 38) rfl ob_30 fl_6_63 rfl fx_30_2 ?_
              refine ziload_n (k := 39) rfl rfl ?_
              refine zfS1 (k := 40) rfl (c_NT_at ar_32) fm_NT_at lk_6_68 rfl rfl (Nat.le_of_ble_eq_true rfl) (by decide) ⟨by decide, by decide⟩ ?_
              rw [zat_in (by omega), zup_n (by omega), zup_n (by omega), show σn 32 = S 2 from st_e (f := 2) fS (by omega)]
              have h0 := rnd_push (c := (c : Int)) (v := cmA Wm S m p c) h0
              refine ziaddB (k := 41) rfl (by omega) ?_
              refine zistore (k := 42) (ls' := [_, _, _, _, _, _]) rfl (Nat.le_of_ble_eq_true rfl) rfl ?_
              refine zaload_n (k := 43) rfl rfl ?_
              refine ziload_n (k := 44) rfl rfl ?_
              refine ziconst (k := 45) rfl (by decide) ?_
              refine ziaddB (k := 46) rfl (by omega) ?_
              refine ziload (k := 47) rfl rfl ?_
              refine ziload (k := 48) rfl rfl ?_
              refine zpV0 (k := 49) rfl (k_cmp h0 (by show _ = ((p.length + 1 : Nat) : Int); omega) (by show p.length + 1 ≤ 4; omega)) fm_Rounds_compare lk_6_72 rfl rfl ob_58 ⟨_, rfl, rfl⟩ (Nat.le_of_ble_eq_true rfl) (by decide) ⟨by decide, by decide⟩ (fun σ3 h3 => ?_)
              clear h0
              have h0 := h3
              clear h3
              refine zaload_n (k := 50) rfl rfl ?_
              refine ziload_n (k := 51) rfl rfl ?_
              refine ziconst (k := 52) rfl (by decide) ?_
              refine ziaddB (k := 53) rfl (by omega) ?_
              refine ziload (k := 54) rfl rfl ?_
              refine zpV0 (k := 55) rfl (c_ext3 h6 h7 h8 hw hW hS hSI hWI hm h0 ⟨⟨by dsimp only; omega, by dsimp only; omega⟩, cb, hpb⟩ (by show 0 ≤ _ ∧ _ ≤ 999 * ((p.length + 1 : Nat) : Int); omega) (by show p.length + 1 = _; omega)) fm_Rounds_extend lk_6_42 rfl rfl ob_58 ⟨_, rfl, rfl⟩ (Nat.le_of_ble_eq_true rfl) (by decide) ⟨by decide, by decide⟩ (fun σ4 h4 => ?_)
              clear h0
              have h0 := rnd_pop h4
              clear h4
              refine ziincB (k := 56) (ls' := [_, _, _, _, _, _]) rfl rfl (by decide) (by omega) rfl ?_
              refine zgoto (k := 57) rfl rfl ?_
              refine zforget (ls' := [_, _, _, _, _, _]) 4 rfl ?_
              refine zforget (ls' := [_, _, _, _, _, _]) 5 rfl ?_
              first
              | exact ih8 (c + 1) _ (by omega) (by omega) (by rw [extL_1 ⟨hcm, hca⟩]; exact h0)
              | exact ih8 (c + 1) _ (by omega) (by omega) (by rw [extL_0 (fun q => by rcases h2.2 with r | r; omega; exact r.2 q.2)]; exact h0)
              | exact ih8 (c + 1) _ (by omega) (by omega) (by rw [extL_0 (fun q => q.1 (by assumption))]; exact h0)
    exact lp8 _ 0 _ (Nat.lt_succ_self _) (by omega) h0
  · exact absurd c1 (by omega)
