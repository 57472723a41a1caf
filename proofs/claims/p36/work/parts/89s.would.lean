/-! the class's trials -/
section AK
variable {N : Nat} {B : Int} {pl rs : Int32} {ex sh ld tw le op rd ml cz : Nat → Int32} {po co wl gu wk db dn iv qs : Int32} {wy tr ak mx ms ur uk uy xe sg : Nat → Int32} {n : Nat} {xn : Nat → Nat} {xr : Nat → Nat → Int32} {nr : Nat} {v : Nat → Int32} {rw : Nat → Nat → Int32} {ak' : Nat → Int32} {wl' : Nat} {wy' : Nat → Nat → Int32} {mp : Nat → Nat → Bool} {mm : Nat → Nat → Nat → Int32}
/-- what a trial tells, from what is between the calls -/
def tW (pl : Int32) (ex rd ld ml cz sh : Nat → Int32) (po co wl wk db dn iv qs : Int32) (ur uk uy xe sg : Nat → Int32) (g : Nat) : Int32 := (FX5_walkTo pl ex rd ld ml cz sh (fun _ => 0) po co (-1) wl wk db dn iv qs ur uk uy xe sg (fun _ => 0) (fun _ => 0) (fun _ => 0) (fun _ => 0) (fun _ => 0) (nI g)).1
theorem a_would (h : rA N B pl rs ex sh ld tw le op rd ml cz po co (-1) wl gu wk db dn iv qs wy tr ak mx ms ur uk uy xe sg n xn xr nr v rw ak' wl' wy' mp mm) (hNN : N < 1000000) {g : Nat} (hg : g < n) (tpo tco tgo twl tgu twk tdb tdn tiv tqs : Int32) (twy ttr tak tmx tms fa : Nat → Int32) : (FX3_wouldWalk po co (-1) mx ms tpo tco tgo twl tgu twk tdb tdn tiv tqs twy ttr tak tmx tms pl ex sh ld tw le op fa (nI g)).1 = 0 ∧ (FX3_wouldWalk po co (-1) mx ms tpo tco tgo twl tgu twk tdb tdn tiv tqs twy ttr tak tmx tms pl ex sh ld tw le op fa (nI g)).2.1 = tW pl ex rd ld ml cz sh po co wl wk db dn iv qs ur uk uy xe sg g := by
  obtain ⟨m1, m2, m3, m4, m5⟩ := rA_n h
  obtain ⟨hI, hR, -⟩ := h
  obtain ⟨k, b, tpo2, tco2, tgo2, twl2, twk2, tdb2, tdn2, tiv2, tqs2, twy2, ttr2, tak2, tmx2, tms2, tgu2, fa2, vpo2, vco2, vgo2, vln2, vwk2, vdb2, vdn2, viv2, vqs2, vtr2, vak2, vwy2, vxe2, vsg2, fb2, ot2, z1, z2, z3⟩ := zo_wouldWalk hI hNN (nI g) co wk db dn qs tpo tco tgo twl twk tdb tdn tiv tqs twy ttr tak tmx tms tgu fa 0 0 0 0 0 0 0 0 0 (fun _ => 0) (fun _ => 0) (fun _ => 0) (fun _ => 0) (fun _ => 0) (fun _ => 0) (fun _ => 0)
  have e5 : (FX5_wouldWalk pl ex rd ld ml cz sh (fun _ => 0) po co (-1) wl wk db dn iv qs ur uk uy xe sg 0 0 0 0 0 0 0 0 0 (fun _ => 0) (fun _ => 0) (fun _ => 0) (fun _ => 0) (fun _ => 0) (nI g)).1 = tW pl ex rd ld ml cz sh po co wl wk db dn iv qs ur uk uy xe sg g ∧ (FX5_wouldWalk pl ex rd ld ml cz sh (fun _ => 0) po co (-1) wl wk db dn iv qs ur uk uy xe sg 0 0 0 0 0 0 0 0 0 (fun _ => 0) (fun _ => 0) (fun _ => 0) (fun _ => 0) (fun _ => 0) (nI g)).2.1 = 0 := by
    unfold FX5_wouldWalk
    rw [l5p hI.1.1 (by omega)]
    exact ⟨rfl, rfl⟩
  rw [z2] at e5
  obtain ⟨e6, e7⟩ := e5
  dsimp only at e6 e7
  subst e7
  unfold FL_wouldWalk at z1
  generalize FX3_wouldWalk po co (-1) mx ms tpo tco tgo twl tgu twk tdb tdn tiv tqs twy ttr tak tmx tms pl ex sh ld tw le op fa (nI g) = W at z1 ⊢
  unfold yc3 at z1
  by_cases c : W.1 = 0
  · rw [if_pos c] at z1
    simp only [Prod.mk.injEq] at z1
    obtain ⟨-, -, -, -, -, -, -, -, -, -, -, -, -, -, -, -, -, w17⟩ := z1
    have w4 := z3 rfl
    rw [← w17, zot] at w4
    exact ⟨c, (i64inj w4).trans e6⟩
  · exfalso
    rw [if_neg c] at z1
    dsimp only at z1
    by_cases d : W.1 = 1
    · rw [if_pos d] at z1
      simp only [Prod.mk.injEq] at z1
      exact absurd z1.1 (by decide)
    · rw [if_neg d] at z1
      simp only [Prod.mk.injEq] at z1
      exact absurd z1.1 (by decide)
/-- and it is what the second carrier's steps come to -/
theorem a_tells (h : rA N B pl rs ex sh ld tw le op rd ml cz po co (-1) wl gu wk db dn iv qs wy tr ak mx ms ur uk uy xe sg n xn xr nr v rw ak' wl' wy' mp mm) (hNN : N < 1000000) (hB : 0 ≤ B ∧ B ≤ 1000000) {a g : Nat} (h4 : v 4 = nI a) (ha : a < n) (hg : g < n) {F : Nat → Nat} (hF : eD (zeo pl ex op) (zq ld) (zq le) g F) {K : Prop} {M S : Nat} (hK : K → eR (zeo pl ex op) (zq ld) (mp g) (dme mm g) g M a ∧ eRs (zq ld) (zq le) (dme mm g) M a = S) :
    (a = g ∧ tW pl ex rd ld ml cz sh po co wl wk db dn iv qs ur uk uy xe sg g = 0) ∨
    (a ≠ g ∧ ∃ (k : Nat) (Z : sS), sEnds n xn xr nr sh Z k (rS0 nr v rw wy' mp mm g) ∧
      ((rXd (zeo pl ex op) (zq ld) F a g (v 9).toInt (v 10).toInt (v 11) (v 12) K S Z.1 Z.2.2.2.2.2.1 Z.2.2.2.2.2.2 ∧ tW pl ex rd ld ml cz sh po co wl wk db dn iv qs ur uk uy xe sg g = Z.1 9 - wk) ∨
       (rXv F a (v 9).toInt (v 10).toInt (v 11) (v 12) Z.1 ∧ tW pl ex rd ld ml cz sh po co wl wk db dn iv qs ur uk uy xe sg g = -1))) := by
  obtain ⟨hI, hR, hS, hV, hN, hQ⟩ := h
  have hiv := hI.2.2.2.1
  exact dWalk hI.1 hR (sh := sh) (sh2 := sh) (fun _ _ => Iff.rfl) hB h4 ha hg hN hV hF hK hS (by omega) (fun _ => 0) (fun _ => 0) (fun _ => 0) (fun _ => 0) (fun _ => 0) (fun _ => 0)
end AK
