/-! what is done, on all three sides: steps -/
section AH
variable {N : Nat} {B : Int} {pl rs : Int32} {ex sh ld tw le op rd ml cz : Nat → Int32} {po co go wl gu wk db dn iv qs : Int32} {wy tr ak mx ms ur uk uy xe sg : Nat → Int32} {n : Nat} {xn : Nat → Nat} {xr : Nat → Nat → Int32} {nr : Nat} {v v' : Nat → Int32} {rw rw' : Nat → Nat → Int32} {ak' ak2 : Nat → Int32} {wl' wl2 : Nat} {wy' wy2 : Nat → Nat → Int32} {mp mp' : Nat → Nat → Bool} {mm mm' : Nat → Nat → Nat → Int32}
/-- the reference's loop, from what is between the calls -/
def rL0 (pl : Int32) (ex rd ld ml cz sh : Nat → Int32) (po co go wl wk db dn iv qs : Int32) (ur uk uy xe sg : Nat → Int32) : rLoop := fun M => LX5_stepsOn_t pl ex rd ld ml cz sh (nI M) 10000 0 po co go wl wk db dn iv qs ur uk uy xe sg (fun _ => 0)
theorem a_rG (h : rA N B pl rs ex sh ld tw le op rd ml cz po co go wl gu wk db dn iv qs wy tr ak mx ms ur uk uy xe sg n xn xr nr v rw ak' wl' wy' mp mm) : rG n xn xr nr pl rs ex ld rd ml cz sh B (rL0 pl ex rd ld ml cz sh po co go wl wk db dn iv qs ur uk uy xe sg) 0 v rw ak' wl' wy' mp mm := by
  obtain ⟨hI, hR, hS, hV, hN, hQ⟩ := h
  exact ⟨by omega, hR, hV, hN, hQ, _, _, _, _, _, _, _, _, _, _, _, _, _, _, fun _ => 0, hS, fun M _ _ => rfl⟩
theorem a_goOn (h : rA N B pl rs ex sh ld tw le op rd ml cz po co go wl gu wk db dn iv qs wy tr ak mx ms ur uk uy xe sg n xn xr nr v rw ak' wl' wy' mp mm) (hgo : ¬ go = -1) (hNN : N < 1000000) {K i : Nat} (hK : 1 ≤ K ∧ K ≤ 100) (hi : i ≤ K) (hE : (rG n xn xr nr pl rs ex ld rd ml cz sh B (rL0 pl ex rd ld ml cz sh po co go wl wk db dn iv qs ur uk uy xe sg) i v' rw' ak2 wl2 wy2 mp' mm' ∧ (K ≤ i ∨ v' 6 < 0)) ∨ (i < K ∧ rE n xn xr nr pl rs ex ld rd ml cz B (rL0 pl ex rd ld ml cz sh po co go wl wk db dn iv qs ur uk uy xe sg) i v' rw' ak2 wl2 wy2 mp' mm')) (fa : Nat → Int32) :
    ∃ (po3 co3 go3 wl3 wk3 db3 dn3 iv3 qs3 : Int32) (wy3 tr3 ak3 mx3 ms3 fa3 ur3 uk3 uy3 xe3 sg3 : Nat → Int32), FX3_goOn po co go wl gu wk db dn iv qs wy tr ak mx ms pl ex sh ld tw le op fa (nI K) = (0, nI i, po3, co3, go3, wl3, wk3, db3, dn3, iv3, qs3, wy3, tr3, ak3, mx3, ms3, fa3) ∧ rA (N + 1) (B + 400) pl rs ex sh ld tw le op rd ml cz po3 co3 go3 wl3 gu wk3 db3 dn3 iv3 qs3 wy3 tr3 ak3 mx3 ms3 ur3 uk3 uy3 xe3 sg3 n xn xr nr v' rw' ak2 wl2 wy2 mp' mm' := by
  obtain ⟨m1, m2, m3, m4, m5⟩ := rA_n h
  obtain ⟨hI, hR, hS, hV, hN, hQ⟩ := h
  -- what the reference's loop comes to
  obtain ⟨hi41, hR2, hV2, hN2, hQ2, po2, co2, go2, ln2, wk2, db2, dn2, iv2, qs2, ur2, uk2, uy2, xe2, sg2, fb2, hS2, hL0⟩ : i ≤ 41 ∧ rL n xn xr nr rw' pl rs ex ld rd ml cz ∧ sVd n xn v' wl2 wy2 mp' mm' ∧ rN (B + 400) 0 v' ∧ rQ n nr 0 v' rw' wl2 ∧ ∃ (po2 co2 go2 ln2 wk2 db2 dn2 iv2 qs2 : Int32) (ur2 uk2 uy2 xe2 sg2 fb2 : Nat → Int32), rS nr v' rw' ak2 wl2 wy2 mp' mm' po2 co2 go2 ln2 wk2 db2 dn2 iv2 qs2 ur2 uk2 uy2 xe2 sg2 ∧ rL0 pl ex rd ld ml cz sh po co go wl wk db dn iv qs ur uk uy xe sg K = (i, po2, co2, go2, ln2, wk2, db2, dn2, iv2, qs2, ur2, uk2, uy2, xe2, sg2, fb2) := by
    rcases hE with ⟨hG, hend⟩ | ⟨hlt, e1, e2, e3, ⟨n1, n2, n3, n4⟩, ⟨a, a1, a2, a3⟩, po2, co2, go2, ln2, wk2, db2, dn2, iv2, qs2, ur2, uk2, uy2, xe2, sg2, fb2, e4, e5⟩
    · have hG' := hG
      obtain ⟨g1, g2, g3, ⟨n1, n2, n3, n4⟩, ⟨a, a1, a2, a3⟩, -⟩ := hG'
      obtain ⟨po2, co2, go2, ln2, wk2, db2, dn2, iv2, qs2, ur2, uk2, uy2, xe2, sg2, fb2, f1, f2⟩ := rG_end m4 hG hi (by omega) hend
      refine ⟨g1, g2, g3, ⟨n1, n2, n3, by omega⟩, ⟨a, a1, a2, ?_⟩, po2, co2, go2, ln2, wk2, db2, dn2, iv2, qs2, ur2, uk2, uy2, xe2, sg2, fb2, f1, f2⟩
      rcases a3 with h | ⟨b, b1, b2, b3, b4, b5⟩
      · exact Or.inl h
      · exact Or.inr ⟨b, b1, b2, b3, by omega, b5⟩
    · refine ⟨e1, e2, e3, ⟨n1, n2, n3, by omega⟩, ⟨a, a1, a2, ?_⟩, po2, co2, go2, ln2, wk2, db2, dn2, iv2, qs2, ur2, uk2, uy2, xe2, sg2, fb2, e4, e5 K hlt (by omega)⟩
      rcases a3 with h | ⟨b, b1, b2, b3, b4, b5⟩
      · exact Or.inl h
      · exact Or.inr ⟨b, b1, b2, b3, by omega, b5⟩
  obtain ⟨k, b, po3, co3, go3, wl3, wk3, db3, dn3, iv3, qs3, wy3, tr3, ak3, mx3, ms3, fa3, ur3, uk3, uy3, xe3, sg3, fb3, pq3, ot3, z1, z2, z3, z4⟩ := zo_goOn hI hNN (nI K) co wk db dn qs fa (fun _ => 0) (fun _ => 0)
  have e5 : FX5_goOn pl ex rd ld ml cz sh (fun _ => 0) po co go wl wk db dn iv qs ur uk uy xe sg (nI K) = (nI i, 0, po2, co2, go2, ln2, wk2, db2, dn2, iv2, qs2, ur2, uk2, uy2, xe2, sg2, fb2) := by
    unfold FX5_goOn FX5_stepsOn
    rw [zin1 (by rw [nI_toInt (by omega), show (100 : Int32).toInt = 100 from rfl, show (1 : Int32).toInt = 1 from rfl]; omega)]
    unfold xbind xbind2
    dsimp only
    have hL0 : LX5_stepsOn_t pl ex rd ld ml cz sh (nI K) 10000 0 po co go wl wk db dn iv qs ur uk uy xe sg (fun _ => 0) = _ := hL0
    rw [if_neg (by decide), if_neg hgo, hL0]
  rw [e5] at z2
  simp only [Prod.mk.injEq] at z2
  obtain ⟨q1, q2, q3, q4, q5, q6, q7, q8, q9, q10, q11, q12, q13, q14, q15, q16, q17⟩ := z2
  have hW : (FX3_goOn po co go wl gu wk db dn iv qs wy tr ak mx ms pl ex sh ld tw le op fa (nI K)).1 = 0 := by
    unfold FX3_goOn FX3_checkUnderway
    rw [lcr (by rw [nI_toInt (by omega), show (100 : Int32).toInt = 100 from rfl]; omega), zun2 hgo]
    rfl
  unfold FL_goOn at z1
  generalize FX3_goOn po co go wl gu wk db dn iv qs wy tr ak mx ms pl ex sh ld tw le op fa (nI K) = W at hW z1 ⊢
  obtain ⟨w0, w1, x1, x2, x3, x4, x5, x6, x7, x8, x9, x10, x11, x12, x13, x14, x15⟩ := W
  have hW : w0 = 0 := hW
  subst hW
  unfold yc3 at z1
  rw [if_pos rfl] at z1
  simp only [Prod.mk.injEq] at z1
  obtain ⟨p0, p1, p2, p3, p4, p5, p6, p7, p8, p9, p10, p11, p12, p13, p14, p15, p16⟩ := z1
  have w4 := z3 p0.symm
  rw [← p16, zot, ← q1] at w4
  have hpq := (zI_C z4 (by omega)).1
  refine ⟨po3, co3, go3, wl3, wk3, db3, dn3, iv3, qs3, wy3, tr3, ak3, mx3, ms3, fa3, ur3, uk3, uy3, xe3, sg3, ?_, ?_⟩
  · rw [i64inj w4, p1, p2, p3, p4, p5, p6, p7, p8, p9, p10, p11, p12, p13, p14, p15]
  · rw [hpq] at z4
    have q3 := q3.trans hpq
    refine ⟨z4, hR2, ?_, hV2, hN2, hQ2⟩
    rw [← q3, ← q4, ← q5, ← q6, ← q7, ← q8, ← q9, ← q10, ← q11, ← q12, ← q13, ← q14, ← q15, ← q16]
    exact hS2
end AH
