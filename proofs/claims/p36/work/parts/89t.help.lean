/-! the class's best shepherd -/
section AL
variable {N : Nat} {B : Int} {pl rs : Int32} {ex sh ld tw le op rd ml cz : Nat → Int32} {po co wl gu wk db dn iv qs : Int32} {wy tr ak mx ms ur uk uy xe sg : Nat → Int32} {n : Nat} {xn : Nat → Nat} {xr : Nat → Nat → Int32} {nr : Nat} {v : Nat → Int32} {rw : Nat → Nat → Int32} {ak' : Nat → Int32} {wl' : Nat} {wy' : Nat → Nat → Int32} {mp : Nat → Nat → Bool} {mm : Nat → Nat → Nat → Int32}
theorem a_help (h : rA N B pl rs ex sh ld tw le op rd ml cz po co (-1) wl gu wk db dn iv qs wy tr ak mx ms ur uk uy xe sg n xn xr nr v rw ak' wl' wy' mp mm) (hNN : N < 1000000) (hB : 0 ≤ B ∧ B ≤ 1000000) {a g : Nat} (h4 : v 4 = nI a) (ha : a < n) (hg : g < n) (tpo tco tgo twl tgu twk tdb tdn tiv tqs : Int32) (twy ttr tak tmx tms fa : Nat → Int32) : (FX3_bestShepherd po co (-1) mx ms tpo tco tgo twl tgu twk tdb tdn tiv tqs twy ttr tak tmx tms pl ex sh ld tw le op fa (nI g)).1 = 0 ∧ ((FX3_bestShepherd po co (-1) mx ms tpo tco tgo twl tgu twk tdb tdn tiv tqs twy ttr tak tmx tms pl ex sh ld tw le op fa (nI g)).2.1 = -1 ∨ ∃ p, p < n ∧ (FX3_bestShepherd po co (-1) mx ms tpo tco tgo twl tgu twk tdb tdn tiv tqs twy ttr tak tmx tms pl ex sh ld tw le op fa (nI g)).2.1 = nI p ∧ sh p = 0 ∧ ¬ tW pl ex rd ld ml cz (upd sh p 1) po co wl wk db dn iv qs ur uk uy xe sg g = -1 ∧ (tW pl ex rd ld ml cz sh po co wl wk db dn iv qs ur uk uy xe sg g = -1 ∨ tW pl ex rd ld ml cz (upd sh p 1) po co wl wk db dn iv qs ur uk uy xe sg g < tW pl ex rd ld ml cz sh po co wl wk db dn iv qs ur uk uy xe sg g)) := by
  obtain ⟨m1, m2, m3, m4, m5⟩ := rA_n h
  obtain ⟨hI, hR, hS, hV, hN, hQ⟩ := h
  have hiv : 0 ≤ iv.toInt ∧ iv.toInt ≤ 1000000 := by have := hI.2.2.2.1; omega
  obtain ⟨k, b, tpo2, tco2, tgo2, twl2, twk2, tdb2, tdn2, tiv2, tqs2, twy2, ttr2, tak2, tmx2, tms2, tgu2, fa2, vpo2, vco2, vgo2, vln2, vwk2, vdb2, vdn2, viv2, vqs2, vtr2, vak2, vwy2, vxe2, vsg2, fb2, ot2, z1, z2, z3⟩ := zo_bestShepherd hI hNN (nI g) co wk db dn qs tpo tco tgo twl twk tdb tdn tiv tqs twy ttr tak tmx tms tgu fa 0 0 0 0 0 0 0 0 0 (fun _ => 0) (fun _ => 0) (fun _ => 0) (fun _ => 0) (fun _ => 0) (fun _ => 0) (fun _ => 0)
  have e5 : (FX5_bestShepherd pl ex rd ld ml cz sh (fun _ => 0) po co (-1) wl wk db dn iv qs ur uk uy xe sg 0 0 0 0 0 0 0 0 0 (fun _ => 0) (fun _ => 0) (fun _ => 0) (fun _ => 0) (fun _ => 0) (nI g)).1 = (FX5_helper pl ex rd ld ml cz sh (fun _ => 0) po co (-1) wl wk db dn iv qs ur uk uy xe sg (fun _ => 0) (fun _ => 0) (fun _ => 0) (fun _ => 0) (fun _ => 0) (nI g)).1 ∧ (FX5_bestShepherd pl ex rd ld ml cz sh (fun _ => 0) po co (-1) wl wk db dn iv qs ur uk uy xe sg 0 0 0 0 0 0 0 0 0 (fun _ => 0) (fun _ => 0) (fun _ => 0) (fun _ => 0) (fun _ => 0) (nI g)).2.1 = 0 := by
    unfold FX5_bestShepherd
    rw [l5p hI.1.1 (by omega)]
    exact ⟨rfl, rfl⟩
  rw [z2] at e5
  obtain ⟨e6, e7⟩ := e5
  dsimp only at e6 e7
  subst e7
  have hH := dHelp (sh := sh) (go := -1) hR.1 m4 (tl := fun p => tW pl ex rd ld ml cz (upd sh p 1) po co wl wk db dn iv qs ur uk uy xe sg g) (t0 := tW pl ex rd ld ml cz sh po co wl wk db dn iv qs ur uk uy xe sg g) (fun p hp fa vtr vak vwy vxe vsg => dTell hI.1 hR hB h4 ha hg hN hV hS hiv fa vtr vak vwy vxe vsg _ _ _ _ _ _) (fun fa vtr vak vwy vxe vsg => dTell hI.1 hR hB h4 ha hg hN hV hS hiv fa vtr vak vwy vxe vsg _ _ _ _ _ _) (fun _ => 0) (fun _ => 0) (fun _ => 0) (fun _ => 0) (fun _ => 0) (fun _ => 0)
  rw [← e6] at hH
  unfold FL_bestShepherd at z1
  generalize FX3_bestShepherd po co (-1) mx ms tpo tco tgo twl tgu twk tdb tdn tiv tqs twy ttr tak tmx tms pl ex sh ld tw le op fa (nI g) = W at z1 ⊢
  unfold yc3 at z1
  by_cases c : W.1 = 0
  · rw [if_pos c] at z1
    simp only [Prod.mk.injEq] at z1
    obtain ⟨-, -, -, -, -, -, -, -, -, -, -, -, -, -, -, -, -, w17⟩ := z1
    have w4 := z3 rfl
    rw [← w17, zot] at w4
    rw [i64inj w4]
    exact ⟨c, hH⟩
  · exfalso
    rw [if_neg c] at z1
    dsimp only at z1
    by_cases d : W.1 = 1
    · rw [if_pos d] at z1
      simp only [Prod.mk.injEq] at z1
      exact absurd z1.1 (by decide)
    · rw [if_neg d] at z1
      simp only [Prod.mk.injEq] at z1
      exact absurd z1.1 (by decide)
end AL
