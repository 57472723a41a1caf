/-! each road has an exit at both ends -/
theorem a_twin {N : Nat} {B : Int} {pl rs : Int32} {ex sh ld tw le op rd ml cz : Nat → Int32} {po co go wl gu wk db dn iv qs : Int32} {wy tr ak mx ms ur uk uy xe sg : Nat → Int32} {n : Nat} {xn : Nat → Nat} {xr : Nat → Nat → Int32} {nr : Nat} {v : Nat → Int32} {rw : Nat → Nat → Int32} {ak' : Nat → Int32} {wl' : Nat} {wy' : Nat → Nat → Int32} {mp : Nat → Nat → Bool} {mm : Nat → Nat → Nat → Int32} (h : rA N B pl rs ex sh ld tw le op rd ml cz po co go wl gu wk db dn iv qs wy tr ak mx ms ur uk uy xe sg n xn xr nr v rw ak' wl' wy' mp mm) {p x : Nat} (hp : p < n) (hx : x < xn p) : ∃ t y, ld (4 * p + x) = nI t ∧ t < n ∧ t ≠ p ∧ y < xn t ∧ ld (4 * t + y) = nI p ∧ le (4 * t + y) = le (4 * p + x) ∧ (op (4 * t + y) = 0 ↔ op (4 * p + x) = 0) ∧ (¬ go = -1 → tr (4 * t + y) = tr (4 * p + x)) := by
  obtain ⟨m1, m2, m3, m4, m5⟩ := rA_n h
  obtain ⟨hI, hR, -⟩ := h
  obtain ⟨e1, e2, e3, e4, e5⟩ := rL_e hI.1 hR hp hx
  obtain ⟨v1, ⟨v2, v2b, v2c, v2d⟩, v3, v4, v5, v6, v7⟩ := hI.1.2.2.2.2.2.2.2.2.2.1 _ e1
  obtain ⟨w1, ⟨w2, w2b, w2c, w2d⟩, w3, w4, w5, w6, w7⟩ := hI.1.2.2.2.2.2.2.2.2.2.1 _ v2
  have hr : rd (4 * p + x) = rd (tw (4 * p + x)).toNatClampNeg := (v7 _ v2).mpr (Or.inr rfl)
  have ht : (tw (tw (4 * p + x)).toNatClampNeg).toNatClampNeg = 4 * p + x := by rw [v2b, nI_clamp (by omega)]
  obtain ⟨l1, l2, l3⟩ := rL_x hR v2
  obtain ⟨k, k1, k2, k3, k4, k5, k6, k7⟩ := rL_r hI.1 hR e1
  refine ⟨(tw (4 * p + x)).toNatClampNeg / 4, (tw (4 * p + x)).toNatClampNeg % 4, v2d, l1, fun h => k7 ?_, l2, ?_, ?_, ?_, fun hgo => ?_⟩
  · rw [v2d, h, e2]
  · rw [l3, w2d, ht, e2]
  · rw [l3, ← w5, ← hr, v5]
  · rw [l3, v6, hr, w6]
  · rw [l3]
    rcases hI.2.2.2.2 with h1 | h1
    · rcases h1.2.2.2.2 with h2 | h2
      · exact absurd h2.1 hgo
      · rw [h2.2.2.1 _ v2, h2.2.2.1 _ e1, hr]
    · exact absurd h1.2.2.2.1 hgo
