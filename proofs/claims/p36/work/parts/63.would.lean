/-! what would be: wouldWalk, bestShepherd -/
set_option maxHeartbeats 4000000 in
set_option maxRecDepth 100000 in
theorem zo_wouldWalk {N : Nat} {pl rs po pq go wl gu iv : Int32} {ex sh ld tw le op rd ml cz wy tr ak mx ms ur uk uy xe sg : Nat → Int32} (hI : zI N pl rs ex sh ld tw le op rd ml cz po pq go wl gu iv wy tr ak mx ms ur uk uy xe sg) (hN : N < 1000000) (g co wk db dn qs : Int32) (tpo tco tgo twl twk tdb tdn tiv tqs : Int32) (twy ttr tak tmx tms : Nat → Int32) (tgu : Int32) (fa : Nat → Int32) (vpo vco vgo vln vwk vdb vdn viv vqs : Int32) (vtr vak vwy vxe vsg fb : Nat → Int32) (ot : Nat → Int64) : ∃ (k b : Int32) (tpo2 tco2 tgo2 twl2 twk2 tdb2 tdn2 tiv2 tqs2 : Int32) (twy2 ttr2 tak2 tmx2 tms2 : Nat → Int32) (tgu2 : Int32) (fa2 : Nat → Int32) (vpo2 vco2 vgo2 vln2 vwk2 vdb2 vdn2 viv2 vqs2 : Int32) (vtr2 vak2 vwy2 vxe2 vsg2 fb2 : Nat → Int32) (ot2 : Nat → Int64), FL_wouldWalk po co go mx ms tpo tco tgo twl tgu twk tdb tdn tiv tqs twy ttr tak tmx tms pl ex sh ld tw le op fa g ot = (k, tpo2, tco2, tgo2, twl2, twk2, tdb2, tdn2, tiv2, tqs2, twy2, ttr2, tak2, tmx2, tms2, tgu2, fa2, ot2) ∧ FX5_wouldWalk pl ex rd ld ml cz sh fb pq co go wl wk db dn iv qs ur uk uy xe sg vpo vco vgo vln vwk vdb vdn viv vqs vtr vak vwy vxe vsg g = (b, k, vpo2, vco2, vgo2, vln2, vwk2, vdb2, vdn2, viv2, vqs2, vtr2, vak2, vwy2, vxe2, vsg2, fb2) ∧ (k = 0 → ot2 0 = b.toInt64) := by
  rcases zplc hI.1.1 g with ⟨h1, h2⟩ | ⟨j, h1, h2, h3, h4⟩
  · refine ⟨1, 0, tpo, tco, tgo, twl, twk, tdb, tdn, tiv, tqs, twy, ttr, tak, tmx, tms, tgu, fa, vpo, vco, vgo, vln, vwk, vdb, vdn, viv, vqs, vtr, vak, vwy, vxe, vsg, fb, ot, ?_, ?_, fun h => absurd h (by decide)⟩
    · unfold FL_wouldWalk FX3_wouldWalk
      rw [zcp0 h1]; rfl
    · unfold FX5_wouldWalk
      rw [h2]; rfl
  · have hpl := hI.1.1
    have hC := zI_C hI (by omega)
    by_cases c : go = -1
    · have hw : wl = 0 := by
        rcases hC.2.2.2.2 with h | h
        · exact h.2.1
        · exact absurd c (zgm h.1)
      have hji : (nI j).toInt = j := nI_toInt (by omega)
      have hC2 := hC.2
      have hp := hC.1
      subst c
      subst hw
      subst hp
      obtain ⟨w1, w2⟩ := zwalk hI.1 (gu := -1) (sh := sh) (sh2 := sh) (fun p hp => ⟨fun h => ⟨h, zm1 (by omega)⟩, fun h => h.1⟩) (co := co) (wk := wk) (db := db) (dn := dn) (qs := qs) hC2 ⟨hI.2.2.2.1.1, by have := hI.2.2.2.1.2; omega⟩ (g := g) (by rw [h1, hji]; omega) tdb tdn tqs twy ttr tak tmx tms fa vtr vak vwy vxe vsg fb
      unfold FL_wouldWalk FX3_wouldWalk FX5_wouldWalk
      rw [zcp1 h3, (zci0 rfl).1, h4]
      clear h1 h2 h3 h4 hji hC hC2 hpl hI w2
      generalize FX3_trialMiles pq co mx ms tdb tdn tqs twy ttr tak tmx tms pl ex sh ld tw le op fa g (-1) = z at w1 ⊢
      generalize FX5_walkTo pl ex rd ld ml cz sh fb pq co (-1) 0 wk db dn iv qs ur uk uy xe sg vtr vak vwy vxe vsg g = y at w1 ⊢
      obtain ⟨z0, z1, z2, z3, z4, z5, z6, z7, z8, z9, z10, z11, z12, z13, z14, z15, z16⟩ := z
      obtain ⟨y0, y1, y2, y3, y4, y5, y6, y7, y8, y9, y10, y11, y12, y13, y14, y15⟩ := y
      dsimp only at w1
      subst w1
      exact ⟨0, z0, z1, z2, z3, z4, z5, z6, z7, z8, z9, z10, z11, z12, z13, z14, z15, z16, y1, y2, y3, y4, y5, y6, y7, y8, y9, y10, y11, y12, y13, y14, y15, vp_updL ot (0 : Int32).toNatClampNeg z0.toInt64, rfl, rfl, fun _ => zot⟩
    · refine ⟨2, 0, tpo, tco, tgo, twl, twk, tdb, tdn, tiv, tqs, twy, ttr, tak, tmx, tms, tgu, fa, vpo, vco, vgo, vln, vwk, vdb, vdn, viv, vqs, vtr, vak, vwy, vxe, vsg, fb, ot, ?_, ?_, fun h => absurd h (by decide)⟩
      · unfold FL_wouldWalk FX3_wouldWalk
        rw [zcp1 h3, (zci1 c).1]; rfl
      · unfold FX5_wouldWalk
        rw [h4]
        exact if_neg c
set_option maxHeartbeats 4000000 in
set_option maxRecDepth 100000 in
theorem zo_bestShepherd {N : Nat} {pl rs po pq go wl gu iv : Int32} {ex sh ld tw le op rd ml cz wy tr ak mx ms ur uk uy xe sg : Nat → Int32} (hI : zI N pl rs ex sh ld tw le op rd ml cz po pq go wl gu iv wy tr ak mx ms ur uk uy xe sg) (hN : N < 1000000) (g co wk db dn qs : Int32) (tpo tco tgo twl twk tdb tdn tiv tqs : Int32) (twy ttr tak tmx tms : Nat → Int32) (tgu : Int32) (fa : Nat → Int32) (vpo vco vgo vln vwk vdb vdn viv vqs : Int32) (vtr vak vwy vxe vsg fb : Nat → Int32) (ot : Nat → Int64) : ∃ (k b : Int32) (tpo2 tco2 tgo2 twl2 twk2 tdb2 tdn2 tiv2 tqs2 : Int32) (twy2 ttr2 tak2 tmx2 tms2 : Nat → Int32) (tgu2 : Int32) (fa2 : Nat → Int32) (vpo2 vco2 vgo2 vln2 vwk2 vdb2 vdn2 viv2 vqs2 : Int32) (vtr2 vak2 vwy2 vxe2 vsg2 fb2 : Nat → Int32) (ot2 : Nat → Int64), FL_bestShepherd po co go mx ms tpo tco tgo twl tgu twk tdb tdn tiv tqs twy ttr tak tmx tms pl ex sh ld tw le op fa g ot = (k, tpo2, tco2, tgo2, twl2, twk2, tdb2, tdn2, tiv2, tqs2, twy2, ttr2, tak2, tmx2, tms2, tgu2, fa2, ot2) ∧ FX5_bestShepherd pl ex rd ld ml cz sh fb pq co go wl wk db dn iv qs ur uk uy xe sg vpo vco vgo vln vwk vdb vdn viv vqs vtr vak vwy vxe vsg g = (b, k, vpo2, vco2, vgo2, vln2, vwk2, vdb2, vdn2, viv2, vqs2, vtr2, vak2, vwy2, vxe2, vsg2, fb2, sh) ∧ (k = 0 → ot2 0 = b.toInt64) := by
  rcases zplc hI.1.1 g with ⟨h1, h2⟩ | ⟨j, h1, h2, h3, h4⟩
  · refine ⟨1, 0, tpo, tco, tgo, twl, twk, tdb, tdn, tiv, tqs, twy, ttr, tak, tmx, tms, tgu, fa, vpo, vco, vgo, vln, vwk, vdb, vdn, viv, vqs, vtr, vak, vwy, vxe, vsg, fb, ot, ?_, ?_, fun h => absurd h (by decide)⟩
    · unfold FL_bestShepherd FX3_bestShepherd
      rw [zcp0 h1]; rfl
    · unfold FX5_bestShepherd
      rw [h2]; rfl
  · have hpl := hI.1.1
    have hC := zI_C hI (by omega)
    by_cases c : go = -1
    · have hw : wl = 0 := by
        rcases hC.2.2.2.2 with h | h
        · exact h.2.1
        · exact absurd c (zgm h.1)
      have hji : (nI j).toInt = j := nI_toInt (by omega)
      have hC2 := hC.2
      have hp := hC.1
      subst c
      subst hw
      subst hp
      have hiv : 0 ≤ iv.toInt ∧ iv.toInt < 1000000 := ⟨hI.2.2.2.1.1, by have := hI.2.2.2.1.2; omega⟩
      have hg : 0 ≤ g.toInt ∧ g.toInt < pl.toInt := by rw [h1, hji]; omega
      obtain ⟨w1, w2⟩ := zwalk hI.1 (gu := -1) (sh := sh) (sh2 := sh) (fun p hp => ⟨fun h => ⟨h, zm1 (by omega)⟩, fun h => h.1⟩) (co := co) (wk := wk) (db := db) (dn := dn) (qs := qs) hC2 hiv hg tdb tdn tqs twy ttr tak tmx tms fa vtr vak vwy vxe vsg fb
      have zh := fun (fw bs lst : Int32) => zhelp hI.1 (sh := sh) (co := co) (wk := wk) (db := db) (dn := dn) (qs := qs) hC2 hiv hg 11 0 fw bs lst
      have hp0 : ((0 : Nat) : Int) ≤ pl.toInt := by omega
      unfold FL_bestShepherd FX3_bestShepherd FX5_bestShepherd FX5_helper
      rw [zcp1 h3, (zci0 rfl).1, h4]
      clear h1 h2 h3 h4 hji hC hC2 hpl hI hiv hg
      generalize FX3_trialMiles pq co mx ms tdb tdn tqs twy ttr tak tmx tms pl ex sh ld tw le op fa g (-1) = z at w1 w2 ⊢
      generalize FX5_walkTo pl ex rd ld ml cz sh fb pq co (-1) 0 wk db dn iv qs ur uk uy xe sg vtr vak vwy vxe vsg g = y at w1 ⊢
      obtain ⟨z0, z1, z2, z3, z4, z5, z6, z7, z8, z9, z10, z11, z12, z13, z14, z15, z16⟩ := z
      obtain ⟨y0, y1, y2, y3, y4, y5, y6, y7, y8, y9, y10, y11, y12, y13, y14, y15⟩ := y
      dsimp only at w1 w2
      subst w1
      unfold xbind2 xbind
      try dsimp only
      by_cases ce : z0 = -1
      · rw [if_pos ce]
        obtain ⟨q1, q2⟩ := zh z0 (-1) 9999 z1 z2 z3 z4 z5 z6 z7 z8 z9 z10 z11 z12 z13 z14 z15 z16 y1 y2 y3 y4 y5 y6 y7 y8 y9 y10 y11 y12 y13 y14 y15 rfl hp0 (Or.inl ⟨ce, rfl⟩)
        clear zh w2 ce
        generalize LX3_bestShepherd_a pq co mx ms pl ex sh ld tw le op g 11 0 z0 (-1) z1 z2 z3 z4 z5 z6 z7 z8 z9 z10 z11 z12 z13 z14 z15 z16 = Z at q1 ⊢
        generalize LX5_helper_t pl ex rd ld ml cz pq co (-1) 0 wk db dn iv qs ur uk uy xe sg g 11 0 (-1) 9999 y1 y2 y3 y4 y5 y6 y7 y8 y9 y10 y11 y12 y13 y14 y15 sh = Y at q1 q2 ⊢
        obtain ⟨c0, c1, z1, z2, z3, z4, z5, z6, z7, z8, z9, z10, z11, z12, z13, z14, z15, z16⟩ := Z
        obtain ⟨d0, d1, y1, y2, y3, y4, y5, y6, y7, y8, y9, y10, y11, y12, y13, y14, y15, y16⟩ := Y
        dsimp only at q1 q2
        subst q1
        subst q2
        exact ⟨0, c1, z1, z2, z3, z4, z5, z6, z7, z8, z9, z10, z11, z12, z13, z14, z15, z16, y1, y2, y3, y4, y5, y6, y7, y8, y9, y10, y11, y12, y13, y14, y15, vp_updL ot (0 : Int32).toNatClampNeg c1.toInt64, rfl, rfl, fun _ => zot⟩
      · rw [if_neg ce]
        obtain ⟨q1, q2⟩ := zh z0 (-1) z0 z1 z2 z3 z4 z5 z6 z7 z8 z9 z10 z11 z12 z13 z14 z15 z16 y1 y2 y3 y4 y5 y6 y7 y8 y9 y10 y11 y12 y13 y14 y15 rfl hp0 (Or.inr ⟨rfl, (w2.resolve_left ce).1⟩)
        clear zh w2 ce
        generalize LX3_bestShepherd_a pq co mx ms pl ex sh ld tw le op g 11 0 z0 (-1) z1 z2 z3 z4 z5 z6 z7 z8 z9 z10 z11 z12 z13 z14 z15 z16 = Z at q1 ⊢
        generalize LX5_helper_t pl ex rd ld ml cz pq co (-1) 0 wk db dn iv qs ur uk uy xe sg g 11 0 (-1) z0 y1 y2 y3 y4 y5 y6 y7 y8 y9 y10 y11 y12 y13 y14 y15 sh = Y at q1 q2 ⊢
        obtain ⟨c0, c1, z1, z2, z3, z4, z5, z6, z7, z8, z9, z10, z11, z12, z13, z14, z15, z16⟩ := Z
        obtain ⟨d0, d1, y1, y2, y3, y4, y5, y6, y7, y8, y9, y10, y11, y12, y13, y14, y15, y16⟩ := Y
        dsimp only at q1 q2
        subst q1
        subst q2
        exact ⟨0, c1, z1, z2, z3, z4, z5, z6, z7, z8, z9, z10, z11, z12, z13, z14, z15, z16, y1, y2, y3, y4, y5, y6, y7, y8, y9, y10, y11, y12, y13, y14, y15, vp_updL ot (0 : Int32).toNatClampNeg c1.toInt64, rfl, rfl, fun _ => zot⟩
    · refine ⟨2, 0, tpo, tco, tgo, twl, twk, tdb, tdn, tiv, tqs, twy, ttr, tak, tmx, tms, tgu, fa, vpo, vco, vgo, vln, vwk, vdb, vdn, viv, vqs, vtr, vak, vwy, vxe, vsg, fb, ot, ?_, ?_, fun h => absurd h (by decide)⟩
      · unfold FL_bestShepherd FX3_bestShepherd
        rw [zcp1 h3, (zci1 c).1]; rfl
      · unfold FX5_bestShepherd
        rw [h4]
        exact if_neg c
