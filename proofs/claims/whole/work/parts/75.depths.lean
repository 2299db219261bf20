/-! all depths -/
theorem c_all {Γ : zv_M} {L : Int} {σ0 : zv_H} {T : Int → Int} {n f : Int} {lk : Bool} : ∀ (d : Nat) (o : Int), 0 ≤ o → o ≤ 7 → 7 - o ≤ d → kS Γ L σ0 T n f lk o ∧ kT Γ L σ0 T n f lk o ∧ kF Γ L σ0 T n f lk o
  | 0, o, h0, h7, hd => by
    have hS : o < 7 → kS Γ L σ0 T n f lk (o + 1) := fun q => by omega
    have hT : o < 7 → kT Γ L σ0 T n f lk (o + 1) := fun q => by omega
    have hF : o < 7 → kF Γ L σ0 T n f lk (o + 1) := fun q => by omega
    exact ⟨fun hE h hp hc => c_Reader_readSum hE h hp ⟨h0, h7⟩ hc hS hT, fun hE h hp hc => c_Reader_readTest hE h hp ⟨h0, h7⟩ hc hS hT hF, fun hE h hp hc => c_Reader_readFact hE h hp ⟨h0, h7⟩ hc hS hT hF⟩
  | d + 1, o, h0, h7, hd => by
    have ih : o < 7 → kS Γ L σ0 T n f lk (o + 1) ∧ kT Γ L σ0 T n f lk (o + 1) ∧ kF Γ L σ0 T n f lk (o + 1) := fun q => c_all d (o + 1) (by omega) (by omega) (by omega)
    exact ⟨fun hE h hp hc => c_Reader_readSum hE h hp ⟨h0, h7⟩ hc (fun q => (ih q).1) (fun q => (ih q).2.1), fun hE h hp hc => c_Reader_readTest hE h hp ⟨h0, h7⟩ hc (fun q => (ih q).1) (fun q => (ih q).2.1) (fun q => (ih q).2.2), fun hE h hp hc => c_Reader_readFact hE h hp ⟨h0, h7⟩ hc (fun q => (ih q).1) (fun q => (ih q).2.1) (fun q => (ih q).2.2)⟩
theorem k_test0 {Γ : zv_M} {L : Int} {σ0 σ : zv_H} {T : Int → Int} {n f p : Int} {lk : Bool} {cs0 : List (Int × Int)} (hE : RE σ0 T n f lk) (h : prs σ0 σ T p f cs0) (hp : 0 ≤ p ∧ p ≤ n) (hc : (cs0.length : Int) ≤ p) : zC Γ m_Reader_readTest 106 0 0 (GM L) [zR 52, zI 0] σ (zPI (GM L) (pst σ0 T n f p cs0 (OkT T lk 0 p) (BtBd 1 T lk 0 p))) := (c_all 7 0 (by omega) (by omega) (by omega)).2.1 hE h hp hc
theorem k_sum0 {Γ : zv_M} {L : Int} {σ0 σ : zv_H} {T : Int → Int} {n f p : Int} {lk : Bool} {cs0 : List (Int × Int)} (hE : RE σ0 T n f lk) (h : prs σ0 σ T p f cs0) (hp : 0 ≤ p ∧ p ≤ n) (hc : (cs0.length : Int) ≤ p) : zC Γ m_Reader_readSum 102 0 0 (GM L) [zR 52, zI 0] σ (zPI (GM L) (pst σ0 T n f p cs0 (OkS T lk 0 p) (AccBd 5 T lk 0 p))) := (c_all 7 0 (by omega) (by omega) (by omega)).1 hE h hp hc
