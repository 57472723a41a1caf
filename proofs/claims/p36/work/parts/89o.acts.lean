/-! what is done, on all three sides: an errand begun, and gone on with -/
section AG
variable {N : Nat} {B : Int} {pl rs : Int32} {ex sh ld tw le op rd ml cz : Nat → Int32} {po co go wl gu wk db dn iv qs : Int32} {wy tr ak mx ms ur uk uy xe sg : Nat → Int32} {n : Nat} {xn : Nat → Nat} {xr : Nat → Nat → Int32} {nr : Nat} {v : Nat → Int32} {rw : Nat → Nat → Int32} {ak' : Nat → Int32} {wl' : Nat} {wy' : Nat → Nat → Int32} {mp : Nat → Nat → Bool} {mm : Nat → Nat → Nat → Int32}
theorem a_begin (h : rA N B pl rs ex sh ld tw le op rd ml cz po co (-1) wl gu wk db dn iv qs wy tr ak mx ms ur uk uy xe sg n xn xr nr v rw ak' wl' wy' mp mm) {a g : Nat} (ha : v 4 = nI a) (han : a < n) (hg : g < n) (fa : Nat → Int32) : ∃ x go2 wl2 dn2 tr2 ak2 fa2 ur2 uk2, dI pl ex ld le op a g x ∧ FX3_beginErrand po (-1) wl dn tr ak pl ld le op fa (nI g) = (0, tD x, go2, wl2, dn2, tr2, ak2, fa2) ∧
    ((a = g ∧ go2 = -1 ∧ rA N B pl rs ex sh ld tw le op rd ml cz po co (-1) wl2 gu wk db dn2 iv qs wy tr2 ak2 mx ms ur2 uk2 uy xe sg n xn xr nr (upd v 11 (v 11 + 1)) rw ak' wl' wy' mp mm) ∨
     (a ≠ g ∧ go2 = nI g ∧ rA N B pl rs ex sh ld tw le op rd ml cz po co (nI g) wl2 gu wk db dn2 iv qs wy tr2 ak2 mx ms ur2 uk2 uy xe sg n xn xr nr (upd v 6 (nI g)) (sOv rw nr) (fun _ => 0) 0 wy' mp mm)) := by
  obtain ⟨m1, m2, m3, m4, m5⟩ := rA_n h
  have h' := h
  obtain ⟨hI, hR, hS, hV, hN, hQ⟩ := h
  have epo : po = nI a := hS.1.1.symm.trans ha
  subst epo
  obtain ⟨k, b, go2, wl2, dn2, tr2, ak2, fa2, ur2, uk2, fb2, ot2, z1, z2, z3, z4⟩ := zo_beginErrand hI (nI g) dn fa (fun _ => 0) (fun _ => 0)
  obtain ⟨x, fa3, l1, l2, l3⟩ := l_distance hI.1 fa (p := a) (g := g) (by omega) (by omega)
  have es : (FX1_shortest pl ld le op fa (nI a) (nI g)).1 = tD x := by
    unfold FX3_distance at l1
    rw [lpc hI.1 (by omega), lpc hI.1 (by omega)] at l1
    have l1 : (0, (FX1_shortest pl ld le op fa (nI a) (nI g)).1, (FX1_shortest pl ld le op fa (nI a) (nI g)).2) = ((0 : Nat), tD x, fa3) := l1
    simp only [Prod.mk.injEq] at l1
    exact l1.2.1
  have e3 : FX3_beginErrand (nI a) (-1) wl dn tr ak pl ld le op fa (nI g) = (0, tD x, (FX0_begin (nI a) dn tr ak (nI g)).1, (FX0_begin (nI a) dn tr ak (nI g)).2.1, (FX0_begin (nI a) dn tr ak (nI g)).2.2.1, (FX0_begin (nI a) dn tr ak (nI g)).2.2.2.1, (FX0_begin (nI a) dn tr ak (nI g)).2.2.2.2, (FX1_shortest pl ld le op fa (nI a) (nI g)).2) := by
    rw [← es]
    unfold FX3_beginErrand FX3_checkIdle
    rw [lpc hI.1 (by omega), zun1 rfl]
    rfl
  unfold FL_beginErrand yc3 at z1
  rw [e3, if_pos rfl] at z1
  simp only [Prod.mk.injEq] at z1
  obtain ⟨w1, w2, w3, w4, w5, w6, w7, w8⟩ := z1
  rw [w2, w3, w4, w5, w6, w7] at e3
  have e5 : FX5_beginErrand pl ex rd ld ml cz (fun _ => 0) (nI a) (-1) wl dn ur uk (nI g) = ((FX5_milesBetween pl ex rd ld ml cz (fun _ => 0) (nI a) (nI g)).1, 0, (FX5_start (nI a) (-1) wl dn ur uk (nI g)).1, (FX5_start (nI a) (-1) wl dn ur uk (nI g)).2.1, (FX5_start (nI a) (-1) wl dn ur uk (nI g)).2.2.1, (FX5_start (nI a) (-1) wl dn ur uk (nI g)).2.2.2.1, (FX5_start (nI a) (-1) wl dn ur uk (nI g)).2.2.2.2, (FX5_milesBetween pl ex rd ld ml cz (fun _ => 0) (nI a) (nI g)).2) := by
    rcases zplc hI.1.1 (nI g) with ⟨c1, c2⟩ | ⟨j, c1, c2, c3, c4⟩
    · have := zpl (pl := pl) (q := nI g) (by rw [nI_toInt (by omega)]; omega)
      rw [c1] at this
      exact absurd this (by decide)
    · unfold FX5_beginErrand
      rw [c4]
      rfl
  rw [e5] at z2
  simp only [Prod.mk.injEq] at z2
  obtain ⟨-, -, q3, q4, q5, q6, q7, -⟩ := z2
  refine ⟨x, go2, wl2, dn2, tr2, ak2, fa2, ur2, uk2, l2, e3, ?_⟩
  by_cases hag : a = g
  · subst hag
    left
    have e6 : FX5_start (nI a) (-1) wl dn ur uk (nI a) = (-1, wl, dn + 1, ur, uk) := if_pos rfl
    rw [e6] at q3 q4 q5 q6 q7
    dsimp only at q3 q4 q5 q6 q7
    subst q3; subst q4; subst q5; subst q6; subst q7
    obtain ⟨⟨s4, s5, s6, s9, s10, s11, s12, s13⟩, hS2⟩ := hS
    exact ⟨rfl, rfl, z4, hR, ⟨⟨s4, s5, s6, s9, s10, by show v 11 + 1 = dn + 1; rw [s11], s12, s13⟩, hS2⟩, hV, hN, hQ⟩
  · right
    obtain ⟨y2, y5, b1, b2, b3⟩ := zbeg ur uk (nI g)
    have e6 : FX5_start (nI a) (-1) wl dn ur uk (nI g) = (nI g, 0, dn, y2, y5) := by
      unfold FX5_start
      rw [if_neg (fun h => hag (nI_inj (by omega) (by omega) h.symm)), b1]
      rfl
    rw [e6] at q3 q4 q5 q6 q7
    dsimp only at q3 q4 q5 q6 q7
    subst q3; subst q4; subst q5; subst q6; subst q7
    obtain ⟨d1, d2, d3, d4, -⟩ := dStart hI.1 hR ha han hg hag hN hV (fun _ => 0) (K := False) (N := 0) (S := 0) (fun h => h.elim)
    have hS2 := dStartS (g := g) m5 hS (uy2 := uy) (xe2 := xe) (sg2 := sg) b2 b3 (fun k hk => ⟨rfl, rfl⟩)
    exact ⟨hag, rfl, z4, d1, hS2, d2, d3, d4⟩
end AG
