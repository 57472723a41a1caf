theorem zj33 {j : Nat} (h : j < 33) : j = 0 ∨ j = 1 ∨ j = 2 ∨ j = 3 ∨ j = 4 ∨ j = 5 ∨ j = 6 ∨ j = 7 ∨ j = 8 ∨ j = 9 ∨ j = 10 ∨ j = 11 ∨ j = 12 ∨ j = 13 ∨ j = 14 ∨ j = 15 ∨ j = 16 ∨ j = 17 ∨ j = 18 ∨ j = 19 ∨ j = 20 ∨ j = 21 ∨ j = 22 ∨ j = 23 ∨ j = 24 ∨ j = 25 ∨ j = 26 ∨ j = 27 ∨ j = 28 ∨ j = 29 ∨ j = 30 ∨ j = 31 ∨ j = 32 := by omega
set_option maxHeartbeats 40000000 in
set_option maxRecDepth 100000 in
theorem lwc_head {p : Program} {l : Launch} {e : Env} {s : State} {m : MethodId} {args : Array Value} {below : List Frame} {meth : Method} {c : Code} {Q : State → Prop} {G : xG} {A : Nat → Prop} (hst : l.stackTraces = false) (hc : xC p s m args meth c cL_law 9 RL wsL_law (some .boolean) G A) {b L : Nat} {xs : Nat → Int32} (hX : va_X b L xs s s.heap) (hbl : b < s.heap.size) (hbA : ¬ A b) (hL : L ≤ 2048) {aX aL aC aT aEx aSh aLd aTw aLe aOp aFa aM aWy aTr aAk aMx aMs aN bWy bTr bAk aNx aNs aR rEx rRd rTo rMi rCl rSh rFa aS aH sTr sAk sWy sXe sSg vTr vAk vWy vXe vSg aB : Nat} {i : Nat} (hi : i ≤ L) {d0 : Drawn} (hd0 : s.drawn.sameBut d0 lw_cs) (ih : i + 4 ≤ L → ∀ d, s.drawn.sameBut d lw_cs → zGo p l e (s.setDrawn d) m args below meth c Q G A b aX aL aC aT aEx aSh aLd aTw aLe aOp aFa aM aWy aTr aAk aMx aMs aN bWy bTr bAk aNx aNs aR rEx rRd rTo rMi rCl rSh rFa aS aH sTr sAk sWy sXe sSg vTr vAk vWy vXe vSg aB (i + 4) 23) (hend : ∀ (H : Heap) (locs : List Loc) (ls : Array Slot), va_S A s.heap H locs → W p l e room_1 (s.setDrawn d0) m args below meth c H locs (100 + 4 * i) (3000 + 50 * i) Q (F0 m 1689 ls [])) : zGo p l e (s.setDrawn d0) m args below meth c Q G A b aX aL aC aT aEx aSh aLd aTw aLe aOp aFa aM aWy aTr aAk aMx aMs aN bWy bTr bAk aNx aNs aR rEx rRd rTo rMi rCl rSh rFa aS aH sTr sAk sWy sXe sSg vTr vAk vWy vXe vSg aB i 23 := by
  intro th pl rs po pq co go wl gu wk db dn iv qs tpo tco tgo twl tgu twk tdb tdn tiv tqs vpo vco vgo vln vwk vdb vdn viv vqs ex sh ld tw le op fa rd ml cz fb wy tr ak mx ms ur uk uy xe sg twy ttr tak tmx tms vtr vak vwy vxe vsg ot hI H locs ls hw hl
  have hcd := xCd hc d0
  have hXd := xXd (d := d0) hX
  obtain ⟨hx, hb, -⟩ := id hc
  refine lv_iload hx hb dL_law_23 (lv_at hl 0 rfl) ?_
  refine lv_aload_n hx hb dL_law_25 rfl (lv_at hl 4 rfl) ?_
  refine va_slen hx hb hXd hbl hbA hw.2.2 dL_law_26 ?_
  refine lv_iconst (v := 4) hx hb dL_law_27 (by decide) ?_
  refine lv_isub hx hb dL_law_28 ?_
  have hsub : (Int32.ofNat L - 4).toInt = (L : Int) - 4 := by
    show (nI L - 4).toInt = _
    rw [Int32.toInt_sub, nI_toInt (by omega), show (4 : Int32).toInt = 4 from rfl, Int.bmod_eq_of_le (by omega) (by omega)]
  refine lv_icmp_gt (tgt := 1689) hx hb dL_law_29 (by decide) (fun _ => hend H locs ls hw.2.2) (fun c => ?_)
  rw [xltI, hsub, nI_toInt (by omega)] at c
  have hi4 : i + 4 ≤ L := by omega
  have ih := ih hi4
  refine lv_aload_n hx hb dL_law_32 rfl (lv_at hl 4 rfl) ?_
  refine lv_iload hx hb dL_law_33 (lv_at hl 0 rfl) ?_
  refine va_sld hx hb hXd hbl hbA hw.2.2 (xinI (by omega) (by omega)) dL_law_35 ?_
  refine lv_bipush (v := 63) hx hb dL_law_36 (by decide) ?_
  refine lv_iand hx hb dL_law_38 ?_
  obtain ⟨j, hj, ej⟩ := pk_andE (xs (nI i).toNatClampNeg) (m := 63) 6 (by decide)
  rw [ej]
  by_cases hj33 : j < 33
  · rcases zj33 hj33 with rfl | rfl | rfl | rfl | rfl | rfl | rfl | rfl | rfl | rfl | rfl | rfl | rfl | rfl | rfl | rfl | rfl | rfl | rfl | rfl | rfl | rfl | rfl | rfl | rfl | rfl | rfl | rfl | rfl | rfl | rfl | rfl | rfl
    · refine lv_tableIn (off := 145) (tgt := 184) hx hb dL_law_39 (by decide +kernel) (by decide +kernel) (by decide +kernel) (by decide) ?_
      exact lwc_0 hst hcd hXd hbl hbA hL hi4 (ih d0 hd0) th pl rs po pq co go wl gu wk db dn iv qs tpo tco tgo twl tgu twk tdb tdn tiv tqs vpo vco vgo vln vwk vdb vdn viv vqs ex sh ld tw le op fa rd ml cz fb wy tr ak mx ms ur uk uy xe sg twy ttr tak tmx tms vtr vak vwy vxe vsg ot hI H locs ls hw hl
    · refine lv_tableIn (off := 189) (tgt := 228) hx hb dL_law_39 (by decide +kernel) (by decide +kernel) (by decide +kernel) (by decide) ?_
      exact lwc_1 hst hcd hXd hbl hbA hL hi4 (ih d0 hd0) th pl rs po pq co go wl gu wk db dn iv qs tpo tco tgo twl tgu twk tdb tdn tiv tqs vpo vco vgo vln vwk vdb vdn viv vqs ex sh ld tw le op fa rd ml cz fb wy tr ak mx ms ur uk uy xe sg twy ttr tak tmx tms vtr vak vwy vxe vsg ot hI H locs ls hw hl
    · refine lv_tableIn (off := 269) (tgt := 308) hx hb dL_law_39 (by decide +kernel) (by decide +kernel) (by decide +kernel) (by decide) ?_
      exact lwc_2 hst hcd hXd hbl hbA hL hi4 (ih d0 hd0) th pl rs po pq co go wl gu wk db dn iv qs tpo tco tgo twl tgu twk tdb tdn tiv tqs vpo vco vgo vln vwk vdb vdn viv vqs ex sh ld tw le op fa rd ml cz fb wy tr ak mx ms ur uk uy xe sg twy ttr tak tmx tms vtr vak vwy vxe vsg ot hI H locs ls hw hl
    · refine lv_tableIn (off := 344) (tgt := 383) hx hb dL_law_39 (by decide +kernel) (by decide +kernel) (by decide +kernel) (by decide) ?_
      exact lwc_3 hst hcd hXd hbl hbA hL hi4 (ih d0 hd0) th pl rs po pq co go wl gu wk db dn iv qs tpo tco tgo twl tgu twk tdb tdn tiv tqs vpo vco vgo vln vwk vdb vdn viv vqs ex sh ld tw le op fa rd ml cz fb wy tr ak mx ms ur uk uy xe sg twy ttr tak tmx tms vtr vak vwy vxe vsg ot hI H locs ls hw hl
    · refine lv_tableIn (off := 407) (tgt := 446) hx hb dL_law_39 (by decide +kernel) (by decide +kernel) (by decide +kernel) (by decide) ?_
      exact lwc_4 hst hcd hXd hbl hbA hL hi4 (ih d0 hd0) th pl rs po pq co go wl gu wk db dn iv qs tpo tco tgo twl tgu twk tdb tdn tiv tqs vpo vco vgo vln vwk vdb vdn viv vqs ex sh ld tw le op fa rd ml cz fb wy tr ak mx ms ur uk uy xe sg twy ttr tak tmx tms vtr vak vwy vxe vsg ot hI H locs ls hw hl
    · refine lv_tableIn (off := 463) (tgt := 502) hx hb dL_law_39 (by decide +kernel) (by decide +kernel) (by decide +kernel) (by decide) ?_
      exact lwc_5 hst hcd hXd hbl hbA hL hi4 (ih d0 hd0) th pl rs po pq co go wl gu wk db dn iv qs tpo tco tgo twl tgu twk tdb tdn tiv tqs vpo vco vgo vln vwk vdb vdn viv vqs ex sh ld tw le op fa rd ml cz fb wy tr ak mx ms ur uk uy xe sg twy ttr tak tmx tms vtr vak vwy vxe vsg ot hI H locs ls hw hl
    · refine lv_tableIn (off := 519) (tgt := 558) hx hb dL_law_39 (by decide +kernel) (by decide +kernel) (by decide +kernel) (by decide) ?_
      exact lwc_6 hst hcd hXd hbl hbA hL hi4 (ih d0 hd0) th pl rs po pq co go wl gu wk db dn iv qs tpo tco tgo twl tgu twk tdb tdn tiv tqs vpo vco vgo vln vwk vdb vdn viv vqs ex sh ld tw le op fa rd ml cz fb wy tr ak mx ms ur uk uy xe sg twy ttr tak tmx tms vtr vak vwy vxe vsg ot hI H locs ls hw hl
    · refine lv_tableIn (off := 575) (tgt := 614) hx hb dL_law_39 (by decide +kernel) (by decide +kernel) (by decide +kernel) (by decide) ?_
      exact lwc_7 hst hcd hXd hbl hbA hL hi4 (ih d0 hd0) th pl rs po pq co go wl gu wk db dn iv qs tpo tco tgo twl tgu twk tdb tdn tiv tqs vpo vco vgo vln vwk vdb vdn viv vqs ex sh ld tw le op fa rd ml cz fb wy tr ak mx ms ur uk uy xe sg twy ttr tak tmx tms vtr vak vwy vxe vsg ot hI H locs ls hw hl
    · refine lv_tableIn (off := 619) (tgt := 658) hx hb dL_law_39 (by decide +kernel) (by decide +kernel) (by decide +kernel) (by decide) ?_
      exact lwc_8 hst hcd hXd hbl hbA hL hi4 (ih d0 hd0) th pl rs po pq co go wl gu wk db dn iv qs tpo tco tgo twl tgu twk tdb tdn tiv tqs vpo vco vgo vln vwk vdb vdn viv vqs ex sh ld tw le op fa rd ml cz fb wy tr ak mx ms ur uk uy xe sg twy ttr tak tmx tms vtr vak vwy vxe vsg ot hI H locs ls hw hl
    · refine lv_tableIn (off := 675) (tgt := 714) hx hb dL_law_39 (by decide +kernel) (by decide +kernel) (by decide +kernel) (by decide) ?_
      exact lwc_9 hst hcd hXd hbl hbA hL hi4 (ih d0 hd0) th pl rs po pq co go wl gu wk db dn iv qs tpo tco tgo twl tgu twk tdb tdn tiv tqs vpo vco vgo vln vwk vdb vdn viv vqs ex sh ld tw le op fa rd ml cz fb wy tr ak mx ms ur uk uy xe sg twy ttr tak tmx tms vtr vak vwy vxe vsg ot hI H locs ls hw hl
    · refine lv_tableIn (off := 688) (tgt := 727) hx hb dL_law_39 (by decide +kernel) (by decide +kernel) (by decide +kernel) (by decide) ?_
      exact lwc_10 hst hcd hXd hbl hbA hL hi4 (ih d0 hd0) th pl rs po pq co go wl gu wk db dn iv qs tpo tco tgo twl tgu twk tdb tdn tiv tqs vpo vco vgo vln vwk vdb vdn viv vqs ex sh ld tw le op fa rd ml cz fb wy tr ak mx ms ur uk uy xe sg twy ttr tak tmx tms vtr vak vwy vxe vsg ot hI H locs ls hw hl
    · refine lv_tableIn (off := 744) (tgt := 783) hx hb dL_law_39 (by decide +kernel) (by decide +kernel) (by decide +kernel) (by decide) ?_
      exact lwc_11 hst hcd hXd hbl hbA hL hi4 (ih d0 hd0) th pl rs po pq co go wl gu wk db dn iv qs tpo tco tgo twl tgu twk tdb tdn tiv tqs vpo vco vgo vln vwk vdb vdn viv vqs ex sh ld tw le op fa rd ml cz fb wy tr ak mx ms ur uk uy xe sg twy ttr tak tmx tms vtr vak vwy vxe vsg ot hI H locs ls hw hl
    · refine lv_tableIn (off := 812) (tgt := 851) hx hb dL_law_39 (by decide +kernel) (by decide +kernel) (by decide +kernel) (by decide) ?_
      exact lwc_12 hst hcd hXd hbl hbA hL hi4 (ih d0 hd0) th pl rs po pq co go wl gu wk db dn iv qs tpo tco tgo twl tgu twk tdb tdn tiv tqs vpo vco vgo vln vwk vdb vdn viv vqs ex sh ld tw le op fa rd ml cz fb wy tr ak mx ms ur uk uy xe sg twy ttr tak tmx tms vtr vak vwy vxe vsg ot hI H locs ls hw hl
    · refine lv_tableIn (off := 880) (tgt := 919) hx hb dL_law_39 (by decide +kernel) (by decide +kernel) (by decide +kernel) (by decide) ?_
      exact lwc_13 hst hcd hXd hbl hbA hL hi4 (ih d0 hd0) th pl rs po pq co go wl gu wk db dn iv qs tpo tco tgo twl tgu twk tdb tdn tiv tqs vpo vco vgo vln vwk vdb vdn viv vqs ex sh ld tw le op fa rd ml cz fb wy tr ak mx ms ur uk uy xe sg twy ttr tak tmx tms vtr vak vwy vxe vsg ot hI H locs ls hw hl
    · refine lv_tableIn (off := 955) (tgt := 994) hx hb dL_law_39 (by decide +kernel) (by decide +kernel) (by decide +kernel) (by decide) ?_
      exact lwc_14 hst hcd hXd hbl hbA hL hi4 (ih d0 hd0) th pl rs po pq co go wl gu wk db dn iv qs tpo tco tgo twl tgu twk tdb tdn tiv tqs vpo vco vgo vln vwk vdb vdn viv vqs ex sh ld tw le op fa rd ml cz fb wy tr ak mx ms ur uk uy xe sg twy ttr tak tmx tms vtr vak vwy vxe vsg ot hI H locs ls hw hl
    · refine lv_tableIn (off := 1018) (tgt := 1057) hx hb dL_law_39 (by decide +kernel) (by decide +kernel) (by decide +kernel) (by decide) ?_
      exact lwc_15 hst hcd hXd hbl hbA hL hi4 (ih d0 hd0) th pl rs po pq co go wl gu wk db dn iv qs tpo tco tgo twl tgu twk tdb tdn tiv tqs vpo vco vgo vln vwk vdb vdn viv vqs ex sh ld tw le op fa rd ml cz fb wy tr ak mx ms ur uk uy xe sg twy ttr tak tmx tms vtr vak vwy vxe vsg ot hI H locs ls hw hl
    · refine lv_tableIn (off := 1086) (tgt := 1125) hx hb dL_law_39 (by decide +kernel) (by decide +kernel) (by decide +kernel) (by decide) ?_
      exact lwc_16 hst hcd hXd hbl hbA hL hi4 (ih d0 hd0) th pl rs po pq co go wl gu wk db dn iv qs tpo tco tgo twl tgu twk tdb tdn tiv tqs vpo vco vgo vln vwk vdb vdn viv vqs ex sh ld tw le op fa rd ml cz fb wy tr ak mx ms ur uk uy xe sg twy ttr tak tmx tms vtr vak vwy vxe vsg ot hI H locs ls hw hl
    · refine lv_tableIn (off := 1099) (tgt := 1138) hx hb dL_law_39 (by decide +kernel) (by decide +kernel) (by decide +kernel) (by decide) ?_
      exact lwc_17 hst hcd hXd hbl hbA hL hi4 (ih d0 hd0) th pl rs po pq co go wl gu wk db dn iv qs tpo tco tgo twl tgu twk tdb tdn tiv tqs vpo vco vgo vln vwk vdb vdn viv vqs ex sh ld tw le op fa rd ml cz fb wy tr ak mx ms ur uk uy xe sg twy ttr tak tmx tms vtr vak vwy vxe vsg ot hI H locs ls hw hl
    · refine lv_tableIn (off := 1112) (tgt := 1151) hx hb dL_law_39 (by decide +kernel) (by decide +kernel) (by decide +kernel) (by decide) ?_
      exact lwc_18 hst hcd hXd hbl hbA hL hi4 (ih d0 hd0) th pl rs po pq co go wl gu wk db dn iv qs tpo tco tgo twl tgu twk tdb tdn tiv tqs vpo vco vgo vln vwk vdb vdn viv vqs ex sh ld tw le op fa rd ml cz fb wy tr ak mx ms ur uk uy xe sg twy ttr tak tmx tms vtr vak vwy vxe vsg ot hI H locs ls hw hl
    · refine lv_tableIn (off := 1125) (tgt := 1164) hx hb dL_law_39 (by decide +kernel) (by decide +kernel) (by decide +kernel) (by decide) ?_
      exact lwc_19 hst hcd hXd hbl hbA hL hi4 (ih d0 hd0) th pl rs po pq co go wl gu wk db dn iv qs tpo tco tgo twl tgu twk tdb tdn tiv tqs vpo vco vgo vln vwk vdb vdn viv vqs ex sh ld tw le op fa rd ml cz fb wy tr ak mx ms ur uk uy xe sg twy ttr tak tmx tms vtr vak vwy vxe vsg ot hI H locs ls hw hl
    · refine lv_tableIn (off := 1138) (tgt := 1177) hx hb dL_law_39 (by decide +kernel) (by decide +kernel) (by decide +kernel) (by decide) ?_
      exact lwc_20 hst hcd hXd hbl hbA hL hi4 (ih d0 hd0) th pl rs po pq co go wl gu wk db dn iv qs tpo tco tgo twl tgu twk tdb tdn tiv tqs vpo vco vgo vln vwk vdb vdn viv vqs ex sh ld tw le op fa rd ml cz fb wy tr ak mx ms ur uk uy xe sg twy ttr tak tmx tms vtr vak vwy vxe vsg ot hI H locs ls hw hl
    · refine lv_tableIn (off := 1213) (tgt := 1252) hx hb dL_law_39 (by decide +kernel) (by decide +kernel) (by decide +kernel) (by decide) ?_
      exact lwc_21 hst hcd hXd hbl hbA hL hi4 (ih d0 hd0) th pl rs po pq co go wl gu wk db dn iv qs tpo tco tgo twl tgu twk tdb tdn tiv tqs vpo vco vgo vln vwk vdb vdn viv vqs ex sh ld tw le op fa rd ml cz fb wy tr ak mx ms ur uk uy xe sg twy ttr tak tmx tms vtr vak vwy vxe vsg ot hI H locs ls hw hl
    · refine lv_tableIn (off := 1281) (tgt := 1320) hx hb dL_law_39 (by decide +kernel) (by decide +kernel) (by decide +kernel) (by decide) ?_
      exact lwc_22 hst hcd hXd hbl hbA hL hi4 (ih d0 hd0) th pl rs po pq co go wl gu wk db dn iv qs tpo tco tgo twl tgu twk tdb tdn tiv tqs vpo vco vgo vln vwk vdb vdn viv vqs ex sh ld tw le op fa rd ml cz fb wy tr ak mx ms ur uk uy xe sg twy ttr tak tmx tms vtr vak vwy vxe vsg ot hI H locs ls hw hl
    · refine lv_tableIn (off := 1349) (tgt := 1388) hx hb dL_law_39 (by decide +kernel) (by decide +kernel) (by decide +kernel) (by decide) ?_
      exact lwc_23 hst hcd hXd hbl hbA hL hi4 (ih d0 hd0) th pl rs po pq co go wl gu wk db dn iv qs tpo tco tgo twl tgu twk tdb tdn tiv tqs vpo vco vgo vln vwk vdb vdn viv vqs ex sh ld tw le op fa rd ml cz fb wy tr ak mx ms ur uk uy xe sg twy ttr tak tmx tms vtr vak vwy vxe vsg ot hI H locs ls hw hl
    · refine lv_tableIn (off := 1412) (tgt := 1451) hx hb dL_law_39 (by decide +kernel) (by decide +kernel) (by decide +kernel) (by decide) ?_
      exact lwc_24 hst hcd hXd hbl hbA hL hi4 (ih d0 hd0) th pl rs po pq co go wl gu wk db dn iv qs tpo tco tgo twl tgu twk tdb tdn tiv tqs vpo vco vgo vln vwk vdb vdn viv vqs ex sh ld tw le op fa rd ml cz fb wy tr ak mx ms ur uk uy xe sg twy ttr tak tmx tms vtr vak vwy vxe vsg ot hI H locs ls hw hl
    · refine lv_tableIn (off := 1425) (tgt := 1464) hx hb dL_law_39 (by decide +kernel) (by decide +kernel) (by decide +kernel) (by decide) ?_
      exact lwc_25 hst hcd hXd hbl hbA hL hi4 (ih d0 hd0) th pl rs po pq co go wl gu wk db dn iv qs tpo tco tgo twl tgu twk tdb tdn tiv tqs vpo vco vgo vln vwk vdb vdn viv vqs ex sh ld tw le op fa rd ml cz fb wy tr ak mx ms ur uk uy xe sg twy ttr tak tmx tms vtr vak vwy vxe vsg ot hI H locs ls hw hl
    · refine lv_tableIn (off := 1438) (tgt := 1477) hx hb dL_law_39 (by decide +kernel) (by decide +kernel) (by decide +kernel) (by decide) ?_
      exact lwc_26 hst hcd hXd hbl hbA hL hi4 (ih d0 hd0) th pl rs po pq co go wl gu wk db dn iv qs tpo tco tgo twl tgu twk tdb tdn tiv tqs vpo vco vgo vln vwk vdb vdn viv vqs ex sh ld tw le op fa rd ml cz fb wy tr ak mx ms ur uk uy xe sg twy ttr tak tmx tms vtr vak vwy vxe vsg ot hI H locs ls hw hl
    · refine lv_tableIn (off := 1451) (tgt := 1490) hx hb dL_law_39 (by decide +kernel) (by decide +kernel) (by decide +kernel) (by decide) ?_
      exact lwc_27 hst hcd hXd hbl hbA hL hi4 (ih d0 hd0) th pl rs po pq co go wl gu wk db dn iv qs tpo tco tgo twl tgu twk tdb tdn tiv tqs vpo vco vgo vln vwk vdb vdn viv vqs ex sh ld tw le op fa rd ml cz fb wy tr ak mx ms ur uk uy xe sg twy ttr tak tmx tms vtr vak vwy vxe vsg ot hI H locs ls hw hl
    · refine lv_tableIn (off := 1464) (tgt := 1503) hx hb dL_law_39 (by decide +kernel) (by decide +kernel) (by decide +kernel) (by decide) ?_
      exact lwc_28 hst hcd hXd hbl hbA hL hi4 (ih d0 hd0) th pl rs po pq co go wl gu wk db dn iv qs tpo tco tgo twl tgu twk tdb tdn tiv tqs vpo vco vgo vln vwk vdb vdn viv vqs ex sh ld tw le op fa rd ml cz fb wy tr ak mx ms ur uk uy xe sg twy ttr tak tmx tms vtr vak vwy vxe vsg ot hI H locs ls hw hl
    · refine lv_tableIn (off := 1477) (tgt := 1516) hx hb dL_law_39 (by decide +kernel) (by decide +kernel) (by decide +kernel) (by decide) ?_
      exact lwc_29 hst hcd hXd hbl hbA hL hi4 (ih d0 hd0) th pl rs po pq co go wl gu wk db dn iv qs tpo tco tgo twl tgu twk tdb tdn tiv tqs vpo vco vgo vln vwk vdb vdn viv vqs ex sh ld tw le op fa rd ml cz fb wy tr ak mx ms ur uk uy xe sg twy ttr tak tmx tms vtr vak vwy vxe vsg ot hI H locs ls hw hl
    · refine lv_tableIn (off := 1533) (tgt := 1572) hx hb dL_law_39 (by decide +kernel) (by decide +kernel) (by decide +kernel) (by decide) ?_
      exact lwc_30 hst hcd hXd hbl hbA hL hi4 (ih d0 hd0) th pl rs po pq co go wl gu wk db dn iv qs tpo tco tgo twl tgu twk tdb tdn tiv tqs vpo vco vgo vln vwk vdb vdn viv vqs ex sh ld tw le op fa rd ml cz fb wy tr ak mx ms ur uk uy xe sg twy ttr tak tmx tms vtr vak vwy vxe vsg ot hI H locs ls hw hl
    · refine lv_tableIn (off := 1589) (tgt := 1628) hx hb dL_law_39 (by decide +kernel) (by decide +kernel) (by decide +kernel) (by decide) ?_
      exact lwc_31 hst hc hX hbl hbA hL hi4 hd0 ih th pl rs po pq co go wl gu wk db dn iv qs tpo tco tgo twl tgu twk tdb tdn tiv tqs vpo vco vgo vln vwk vdb vdn viv vqs ex sh ld tw le op fa rd ml cz fb wy tr ak mx ms ur uk uy xe sg twy ttr tak tmx tms vtr vak vwy vxe vsg ot hI H locs ls hw hl
    · refine lv_tableIn (off := 1630) (tgt := 1669) hx hb dL_law_39 (by decide +kernel) (by decide +kernel) (by decide +kernel) (by decide) ?_
      exact lwc_32 hst hcd hXd hbl hbA hL hi4 (ih d0 hd0) th pl rs po pq co go wl gu wk db dn iv qs tpo tco tgo twl tgu twk tdb tdn tiv tqs vpo vco vgo vln vwk vdb vdn viv vqs ex sh ld tw le op fa rd ml cz fb wy tr ak mx ms ur uk uy xe sg twy ttr tak tmx tms vtr vak vwy vxe vsg ot hI H locs ls hw hl
  · refine lv_tableOut (tgt := 1683) hx hb dL_law_39 (Or.inr (by rw [nI_toInt (by omega)]; omega)) (by decide) ?_
    refine lv_iinc (v := nI (i + 4)) (lv' := [(4, .int (nI (i + 4))), (3, .ref aB), (2, .ref aR), (1, .ref aX), (0, .ref b)]) hx hb dL_law_1683 hl (k := 0) rfl (nI_add i 4) (by decide) rfl (fun ls hl => ?_)
    refine lv_goto (tgt := 23) hx hb dL_law_1686 (by decide) ?_
    refine W.widen (k := 100 + 4 * (i + 4)) (n := 3000 + 50 * (i + 4)) (by show 100 + 4 * i ≤ _; omega) (by show 3000 + 50 * i ≤ _; omega) ?_
    exact ih d0 hd0 th pl rs po pq co go wl gu wk db dn iv qs tpo tco tgo twl tgu twk tdb tdn tiv tqs vpo vco vgo vln vwk vdb vdn viv vqs ex sh ld tw le op fa rd ml cz fb wy tr ak mx ms ur uk uy xe sg twy ttr tak tmx tms vtr vak vwy vxe vsg ot (zI_up hI (by omega)) H locs ls hw (lv_sub hl [0, 1, 2, 3, 4] rfl)
/-- the loop, to its end -/
theorem lw_loop {p : Program} {l : Launch} {e : Env} {s : State} {m : MethodId} {args : Array Value} {below : List Frame} {meth : Method} {c : Code} {Q : State → Prop} {G : xG} {A : Nat → Prop} (hst : l.stackTraces = false) (hc : xC p s m args meth c cL_law 9 RL wsL_law (some .boolean) G A) {b L : Nat} {xs : Nat → Int32} (hX : va_X b L xs s s.heap) (hbl : b < s.heap.size) (hbA : ¬ A b) (hL : L ≤ 2048) {aX aL aC aT aEx aSh aLd aTw aLe aOp aFa aM aWy aTr aAk aMx aMs aN bWy bTr bAk aNx aNs aR rEx rRd rTo rMi rCl rSh rFa aS aH sTr sAk sWy sXe sSg vTr vAk vWy vXe vSg aB : Nat} (hend : ∀ d0, s.drawn.sameBut d0 lw_cs → ∀ i, i ≤ L → ∀ (H : Heap) (locs : List Loc) (ls : Array Slot), va_S A s.heap H locs → W p l e room_1 (s.setDrawn d0) m args below meth c H locs (100 + 4 * i) (3000 + 50 * i) Q (F0 m 1689 ls [])) : ∀ (n i : Nat), i ≤ L → L < i + 4 * n → ∀ d0, s.drawn.sameBut d0 lw_cs → zGo p l e (s.setDrawn d0) m args below meth c Q G A b aX aL aC aT aEx aSh aLd aTw aLe aOp aFa aM aWy aTr aAk aMx aMs aN bWy bTr bAk aNx aNs aR rEx rRd rTo rMi rCl rSh rFa aS aH sTr sAk sWy sXe sSg vTr vAk vWy vXe vSg aB i 23
  | 0, i, h1, h2, _, _ => absurd h2 (by omega)
  | n + 1, i, h1, h2, d0, hd0 => lwc_head hst hc hX hbl hbA hL h1 hd0 (fun h d hd => lw_loop hst hc hX hbl hbA hL hend n (i + 4) h (by omega) d hd) (hend d0 hd0 i h1)
