/-! a known way, on both sides; a trial's answer is one -/
section KN
variable {n : Nat} {xn : Nat → Nat} {xr : Nat → Nat → Int32} {nr : Nat} {rw : Nat → Nat → Int32} {pl rs : Int32} {ex ld tw le op rd ml cz : Nat → Int32} {mp : Nat → Nat → Bool} {mm : Nat → Nat → Nat → Int32} {xe sg : Nat → Int32} {g : Nat}
/-- the remembered exit at a place -/
theorem dMem (hL : zL pl rs ex ld tw le op rd ml cz) (hR : rL n xn xr nr rw pl rs ex ld rd ml cz) (hM : rM mp mm xe sg) (hV : ∀ g q, g < 10 → q < n → mp g q = true → ∃ x, mm g q 0 = nI x ∧ x < xn q) (hg : g < 10) {a : Nat} (ha : a < n) : (mp g a = false ∧ xe (10 * g + a) = -1) ∨ ∃ x, x < xn a ∧ mp g a = true ∧ mm g a 0 = nI x ∧ xe (10 * g + a) = nI x ∧ dme mm g a = 4 * a + x ∧ zE pl ex (4 * a + x) := by
  have hn := rL_n hL hR
  rcases hM g a hg (by omega) with h | ⟨h1, h2, h3, h4⟩
  · exact Or.inl h
  · obtain ⟨x, x1, x2⟩ := hV g a hg ha h1
    have x4 := hn.2.2 a ha
    exact Or.inr ⟨x, x2, h1, x1, by rw [← h3, x1], by unfold dme; rw [x1, nI_clamp (by omega)], (rL_e hL hR ha x2).1⟩
theorem dKn (hL : zL pl rs ex ld tw le op rd ml cz) (hR : rL n xn xr nr rw pl rs ex ld rd ml cz) (hM : rM mp mm xe sg) (hV : ∀ g q, g < 10 → q < n → mp g q = true → ∃ x, mm g q 0 = nI x ∧ x < xn q) (hg : g < n) : ∀ (d a : Nat), d ≤ 10 → a < n → LX5_knows_t rd ld cz xe (nI g) (d + 1) (10 - d) (nI a) = sKn rw xr mp mm g d a ∧ ((sKn rw xr mp mm g d a = 1 ∧ ∃ N, N ≤ d ∧ eR (zeo pl ex op) (zq ld) (mp g) (dme mm g) g N a) ∨ (sKn rw xr mp mm g d a = 0 ∧ ¬ ∃ N, N ≤ d ∧ eR (zeo pl ex op) (zq ld) (mp g) (dme mm g) g N a)) := by
  have hn := rL_n hL hR
  intro d
  induction d with
  | zero =>
    intro a _ ha
    have e1 : LX5_knows_t rd ld cz xe (nI g) (0 + 1) (10 - 0) (nI a) = sKn rw xr mp mm g 0 a := by
      rw [LX5_knows_t, sKn, if_pos (by decide)]
    refine ⟨e1, ?_⟩
    rw [sKn]
    by_cases c : nI a = nI g
    · rw [if_pos c]
      exact Or.inl ⟨rfl, 0, Nat.le_refl _, nI_inj (by omega) (by omega) c⟩
    · rw [if_neg c]
      refine Or.inr ⟨rfl, fun ⟨N, h1, h2⟩ => ?_⟩
      rw [show N = 0 by omega] at h2
      exact c (congrArg nI h2)
  | succ d ih =>
    intro a hd ha
    have h10 : ¬ (10 : Int32) ≤ nI (10 - (d + 1)) := nI_ge (b := 10) (by omega) (by omega)
    have ei : 10 - (d + 1) + 1 = 10 - d := by omega
    rw [LX5_knows_t, if_neg h10, ei, sKn]
    by_cases c : nI a = nI g
    · rw [if_pos c, if_pos c]
      exact ⟨rfl, Or.inl ⟨rfl, 0, Nat.zero_le _, nI_inj (by omega) (by omega) c⟩⟩
    · have hne : a ≠ g := fun h => c (congrArg nI h)
      rw [if_neg c, if_neg c, z10, nI_clamp (by omega)]
      rcases dMem hL hR hM hV (show g < 10 by omega) ha with ⟨k1, k2⟩ | ⟨x, x1, x2, x3, x4, x5, x6⟩
      · rw [if_pos k1, if_pos k2]
        refine ⟨rfl, Or.inr ⟨rfl, fun ⟨N, h1, h2⟩ => ?_⟩⟩
        cases N with
        | zero => exact hne h2
        | succ N => exact absurd (k1.symm.trans h2.2.1) (by decide)
      · obtain ⟨t1, t2, t3, t4, t5, t6⟩ := rL_to hL hR ha x1
        obtain ⟨e1, e2, e3, e4, e5⟩ := rL_e hL hR ha x1
        obtain ⟨b, b1, b2⟩ := sTo_in (rL_sX hL hR) ha x1
        have hz := (hR.2.2.2.2 _ t5).2.2.1
        rw [if_neg (show ¬ mp g a = false by rw [x2]; decide), x3, nI_clamp (by omega), x4, if_neg (zm1 (by omega)), z4, nI_clamp (by omega), t6, ← t1, b1, nI_clamp (show b < 2 ^ 31 by omega)]
        have hq : zq ld (dme mm g a) = b := by
          show (ld (dme mm g a)).toNatClampNeg = b
          rw [x5, ← t1, b1, nI_clamp (by omega)]
        by_cases k : rw (xr a x).toNatClampNeg 3 = 0
        · rw [if_pos k, if_neg (hz.mp k)]
          refine ⟨rfl, Or.inr ⟨rfl, fun ⟨N, h1, h2⟩ => ?_⟩⟩
          cases N with
          | zero => exact hne h2
          | succ N =>
            have := h2.2.2.1
            rw [x5] at this
            exact (zeo_iff.mp this).2 (t3.mp k)
        · have k2 : cz (xr a x).toNatClampNeg = 0 := Decidable.byContradiction fun h => k (hz.mpr h)
          rw [if_neg k, if_pos k2]
          obtain ⟨i1, i2⟩ := ih b (by omega) b2
          refine ⟨i1, ?_⟩
          have ho : zeo pl ex op (dme mm g a) = true := by rw [x5]; exact zeo_iff.mpr ⟨x6, fun h => k (t3.mpr h)⟩
          rcases i2 with ⟨j1, N, j2, j3⟩ | ⟨j1, j2⟩
          · exact Or.inl ⟨j1, N + 1, by omega, hne, x2, ho, by rw [x5]; exact e2, by rw [hq]; exact j3⟩
          · refine Or.inr ⟨j1, fun ⟨N, h1, h2⟩ => ?_⟩
            cases N with
            | zero => exact hne h2
            | succ N => exact j2 ⟨N, by omega, by rw [← hq]; exact h2.2.2.2.2⟩
end KN
theorem sEnds_det {n : Nat} {xn : Nat → Nat} {xr : Nat → Nat → Int32} {nr : Nat} {sh : Nat → Int32} {Z Y : sS} (hn : n ≤ 10) : ∀ (k j : Nat) (S : sS), sEnds n xn xr nr sh Z k S → sEnds n xn xr nr sh Y j S → Z = Y
  | 0, 0, _, h1, h2 => h1.1.symm.trans h2.1
  | 0, j + 1, _, h1, h2 => absurd h1.2 h2.1
  | k + 1, 0, _, h1, h2 => absurd h2.2 h1.1
  | k + 1, j + 1, S, h1, h2 => by
    obtain ⟨h6, q, g, b, S', ⟨hq, hq2⟩, ⟨hg, hg2⟩, hst, hE⟩ := h1
    obtain ⟨j', hj'⟩ := sEnds_step (v := S.1) (rw := S.2.1) (ak := S.2.2.1) (wl := S.2.2.2.1) (wy := S.2.2.2.2.1) (mp := S.2.2.2.2.2.1) (mm := S.2.2.2.2.2.2) hn h2 h6 ⟨hq, hq2⟩ ⟨hg, hg2⟩ hst
    exact sEnds_det hn k j' S' hE hj'
