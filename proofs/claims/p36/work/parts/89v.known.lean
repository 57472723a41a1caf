/-! the law's own walk by remembered exits -/
def kN (ex ld le op xe : Nat → Int32) (g : Nat) : Nat → Nat → Int32 → Int32
  | 0, a, s => if nI a = nI g then s else -1
  | d + 1, a, s => if nI a = nI g then s else if xe (10 * g + a) < 0 then -1 else if op (4 * a + (xe (10 * g + a)).toNatClampNeg) = 0 then -1 else kN ex ld le op xe g d (ld (4 * a + (xe (10 * g + a)).toNatClampNeg)).toNatClampNeg (s + le (4 * a + (xe (10 * g + a)).toNatClampNeg))
section KK
variable {n : Nat} {xn : Nat → Nat} {xr : Nat → Nat → Int32} {nr : Nat} {rw : Nat → Nat → Int32} {pl rs : Int32} {ex ld tw le op rd ml cz : Nat → Int32} {mp : Nat → Nat → Bool} {mm : Nat → Nat → Nat → Int32} {xe sg : Nat → Int32} {g : Nat}
theorem kN_eq (hL : zL pl rs ex ld tw le op rd ml cz) (hR : rL n xn xr nr rw pl rs ex ld rd ml cz) (hM : rM mp mm xe sg) (hV : ∀ g q, g < 10 → q < n → mp g q = true → ∃ x, mm g q 0 = nI x ∧ x < xn q) (hg : g < n) : ∀ (d a s : Nat), d ≤ 10 → a < n → s + 9 * d ≤ 1000 → (∃ N, N ≤ d ∧ eR (zeo pl ex op) (zq ld) (mp g) (dme mm g) g N a ∧ kN ex ld le op xe g d a (nI s) = nI (s + eRs (zq ld) (zq le) (dme mm g) N a)) ∨ ((¬ ∃ N, N ≤ d ∧ eR (zeo pl ex op) (zq ld) (mp g) (dme mm g) g N a) ∧ kN ex ld le op xe g d a (nI s) = -1) := by
  have hn := rL_n hL hR
  intro d
  induction d with
  | zero =>
    intro a s _ ha _
    rw [kN]
    by_cases c : nI a = nI g
    · rw [if_pos c]
      exact Or.inl ⟨0, Nat.le_refl _, nI_inj (by omega) (by omega) c, rfl⟩
    · rw [if_neg c]
      refine Or.inr ⟨fun ⟨N, h1, h2⟩ => ?_, rfl⟩
      rw [show N = 0 by omega] at h2
      exact c (congrArg nI h2)
  | succ d ih =>
    intro a s hd ha hs
    rw [kN]
    by_cases c : nI a = nI g
    · rw [if_pos c]
      exact Or.inl ⟨0, Nat.zero_le _, nI_inj (by omega) (by omega) c, rfl⟩
    · have hne : a ≠ g := fun h => c (congrArg nI h)
      rw [if_neg c]
      rcases dMem hL hR hM hV (show g < 10 by omega) ha with ⟨k1, k2⟩ | ⟨x, x1, x2, x3, x4, x5, x6⟩
      · rw [k2, if_pos (by decide)]
        refine Or.inr ⟨fun ⟨N, h1, h2⟩ => ?_, rfl⟩
        cases N with
        | zero => exact hne h2
        | succ N => exact absurd (k1.symm.trans h2.2.1) (by decide)
      · obtain ⟨e1, e2, e3, e4, e5⟩ := rL_e hL hR ha x1
        rw [x4, if_neg (dneg (by omega)), nI_clamp (by omega)]
        by_cases k : op (4 * a + x) = 0
        · rw [if_pos k]
          refine Or.inr ⟨fun ⟨N, h1, h2⟩ => ?_, rfl⟩
          cases N with
          | zero => exact hne h2
          | succ N =>
            have := h2.2.2.1
            rw [x5] at this
            exact (zeo_iff.mp this).2 k
        · rw [if_neg k]
          have ho : zeo pl ex op (dme mm g a) = true := by rw [x5]; exact zeo_iff.mpr ⟨x6, k⟩
          have hle := (hL.2.2.2.2.2.2.2.2.2.1 _ e1).2.2.1
          have hln : le (4 * a + x) = nI (zq le (4 * a + x)) := (znI (by omega)).symm
          have h9 : zq le (4 * a + x) ≤ 9 := by
            have := znat (x := le (4 * a + x)) (by omega)
            show (le (4 * a + x)).toNatClampNeg ≤ 9
            omega
          obtain ⟨t1, -⟩ := rL_to hL hR ha x1
          obtain ⟨b, b1, b2⟩ := sTo_in (rL_sX hL hR) ha x1
          have hb : (ld (4 * a + x)).toNatClampNeg = b := by rw [← t1, b1, nI_clamp (by omega)]
          rw [hb, hln, nI_add]
          have hq : zq ld (dme mm g a) = b := by rw [x5]; exact hb
          rcases ih b (s + zq le (4 * a + x)) (by omega) b2 (by omega) with ⟨M, m1, m2, m3⟩ | ⟨m1, m2⟩
          · refine Or.inl ⟨M + 1, by omega, ⟨hne, x2, ho, by rw [x5]; exact e2, by rw [hq]; exact m2⟩, ?_⟩
            rw [m3]
            show _ = nI (s + (zq le (dme mm g a) + eRs (zq ld) (zq le) (dme mm g) M (zq ld (dme mm g a))))
            rw [hq, x5, Nat.add_assoc]
          · refine Or.inr ⟨fun ⟨M, h1, h2⟩ => ?_, m2⟩
            cases M with
            | zero => exact hne h2
            | succ M => exact m1 ⟨M, by omega, by rw [← hq]; exact h2.2.2.2.2⟩
end KK
