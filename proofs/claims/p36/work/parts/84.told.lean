/-! the second carrier beside the reference: the exit that is told -/
section TO
variable {n : Nat} {xn : Nat → Nat} {xr : Nat → Nat → Int32} {nr : Nat} {rw : Nat → Nat → Int32} {pl rs : Int32} {ex ld tw le op rd ml cz : Nat → Int32}
/-- how far it is to a place, for the reference's row -/
theorem dF (hL : zL pl rs ex ld tw le op rd ml cz) (fa fb : Nat → Int32) {g : Nat} (hg : (g : Int) < pl.toInt) : ∃ F : Nat → Nat, eD (zeo pl ex op) (zq ld) (zq le) g F ∧ (∀ p, F p = 9999 ∨ F p ≤ 9990) ∧ (∀ p : Nat, (p : Int) < pl.toInt → FX5_measure pl ex rd ld ml cz fb (nI g) p = nI (F p)) ∧ ∀ p : Nat, p < 10 → (FX1_measure pl ld le op fa (nI g) p).toInt = zph (F p) := by
  have hpl := hL.1
  obtain ⟨F, h1, h2, h3, h4, h5, h6⟩ := zmeas hL fa fb (g := nI g) (by rw [nI_toInt (by omega)]; omega)
  rw [nI_clamp (by omega)] at h4 h6
  have hE : ∀ e, zeo pl ex op e = true → e / 4 < 10 ∧ zq ld e < 10 := fun e he => by
    obtain ⟨a, b⟩ := zeE hL he
    exact ⟨by omega, a.2⟩
  refine ⟨fun p => if p < 10 then F p else 9999, ⟨fun p hp => ?_, fun e he => ?_, ?_⟩, fun p => ?_, fun p hp => ?_, fun p hp => ?_⟩
  · by_cases c : p < 10
    · have hp : F p < 9999 := by have hp : (if p < 10 then F p else 9999) < 9999 := hp; rwa [if_pos c] at hp
      rcases h4 p hp with h | ⟨e, a, b, d⟩
      · exact Or.inl h
      · refine Or.inr ⟨e, a, b, ?_⟩
        show (if zq ld e < 10 then F (zq ld e) else 9999) + zq le e ≤ if p < 10 then F p else 9999
        rw [if_pos (hE e a).2, if_pos c]
        exact d
    · have hp : (if p < 10 then F p else 9999) < 9999 := hp
      rw [if_neg c] at hp
      omega
  · show (if e / 4 < 10 then F (e / 4) else 9999) ≤ (if zq ld e < 10 then F (zq ld e) else 9999) + zq le e
    rw [if_pos (hE e he).1, if_pos (hE e he).2]
    exact h5 e he
  · show (if g < 10 then F g else 9999) = 0
    rw [if_pos (by omega)]
    exact h6
  · show (if p < 10 then F p else 9999) = 9999 ∨ (if p < 10 then F p else 9999) ≤ 9990
    by_cases c : p < 10
    · rw [if_pos c]; exact h3 p c
    · rw [if_neg c]; exact Or.inl rfl
  · show _ = nI (if p < 10 then F p else 9999)
    have h9 := h3 p (by omega)
    rw [if_pos (by omega), xeqI, nI_toInt (by omega)]
    exact h2 p hp
  · show _ = zph (if p < 10 then F p else 9999)
    rw [if_pos hp]
    exact h1 p hp
theorem dF9 {F : Nat → Nat} (h : ∀ p, F p = 9999 ∨ F p ≤ 9990) (p : Nat) : F p ≤ 9999 := by have := h p; omega
/-- the second carrier's miles are the reference's -/
theorem dfarS (hL : zL pl rs ex ld tw le op rd ml cz) (hR : rL n xn xr nr rw pl rs ex ld rd ml cz) {a b : Nat} (ha : a < n) (hb : b < n) {F : Nat → Nat} (hF : eD (zeo pl ex op) (zq ld) (zq le) b F) (h9 : ∀ p, F p ≤ 9999) : sFar rw nr n (nI a) (nI b) = nI (F a) := by
  have hn := hR.1
  obtain ⟨P, p1, p2, -⟩ := dF hL (fun _ => 0) (fun _ => 0) (g := a) (by omega)
  rw [dfar hL hR ha hb p1 (dF9 p2), esym (rL_eT hL) p1 hF (dF9 p2 b) (h9 a)]
theorem dask (hL : zL pl rs ex ld tw le op rd ml cz) (hR : rL n xn xr nr rw pl rs ex ld rd ml cz) (fa : Nat → Int32) {q g : Nat} (hq : q < n) (hg : g < n) :
    ((sBst (sIts n xr nr rw q (nI g)) (xn q) (xn q)).1 = -1 ∧ (FX5_toldExit pl ex rd ld ml cz fa (nI q) (nI g)).1 = -1) ∨
    ∃ x, x < xn q ∧ (sBst (sIts n xr nr rw q (nI g)) (xn q) (xn q)).1 = nI x ∧ (FX5_toldExit pl ex rd ld ml cz fa (nI q) (nI g)).1 = nI x ∧ ¬ rw (xr q x).toNatClampNeg 3 = 0 := by
  have hn := hR.1
  have hn10 := (rL_n hL hR).1
  obtain ⟨F, f1, f2, f3, -⟩ := dF hL (fun _ => 0) fa (g := g) (by omega)
  have hi : ∀ x, x < xn q → sIts n xr nr rw q (nI g) x = if rw (xr q x).toNatClampNeg 3 = 0 then 9999 else FX5_measure pl ex rd ld ml cz fa (nI g) (ld (4 * q + x)).toNatClampNeg + le (4 * q + x) := fun x hx => by
    obtain ⟨t1, t2, t3, t4, t5, t6⟩ := rL_to hL hR hq hx
    obtain ⟨b, b1, b2⟩ := sTo_in (rL_sX hL hR) hq hx
    unfold sIts
    by_cases c : rw (xr q x).toNatClampNeg 3 = 0
    · rw [if_pos c, if_pos c]
    · rw [if_neg c, if_neg c, ← t1, b1, nI_clamp (by omega), f3 b (by omega), dfarS hL hR b2 hg f1 (dF9 f2), t2, Int32.add_comm]
  have hA := dtold hL hR hq (fb := FX5_measure pl ex rd ld ml cz fa (nI g)) hi 5 0 (-1) 9999 rfl (Nat.zero_le _) (Or.inl ⟨rfl, rfl, fun y hy => absurd hy (by omega)⟩)
  have hB := dbest (its := sIts n xr nr rw q (nI g)) (N := xn q) (xn q) (Nat.le_refl _)
  have eT : (FX5_toldExit pl ex rd ld ml cz fa (nI q) (nI g)).1 = (LX5_toldExit_t ex rd ld ml cz (FX5_measure pl ex rd ld ml cz fa (nI g)) (nI q) 5 0 (-1) 9999).1 := rfl
  rw [eT]
  rcases hA with ⟨a1, a2⟩ | ⟨x, a1, a2, a3, a4, a5⟩
  · rcases hB with ⟨b1, b2, b3⟩ | ⟨y, b1, b2, b3, b4, b5, b6, b7⟩
    · exact Or.inl ⟨b1, a1⟩
    · have := a2 y b2; omega
  · rcases hB with ⟨b1, b2, b3⟩ | ⟨y, b1, b2, b3, b4, b5, b6, b7⟩
    · have := b3 x (by omega) a1; omega
    · have e1 := a4 y b2
      have e2 := b6 x (by omega) a1
      have exy : x = y := by
        rcases Nat.lt_trichotomy x y with h | h | h
        · have := b7 x (by omega) h; omega
        · exact h
        · have := a5 y h; omega
      subst exy
      refine Or.inr ⟨x, a1, b3, a2, fun c => ?_⟩
      have := hi x a1
      rw [if_pos c] at this
      rw [this, show (9999 : Int32).toInt = 9999 from rfl] at a3
      omega
end TO
