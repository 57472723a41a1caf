def FX3_checkPlace (pl : Int32) (q : Int32) : Nat × Unit :=
  xbind (FX1_isPlace pl q) (fun r2 => if r2 = 0 then ((1, ())) else ((0, ())))
set_option maxHeartbeats 40000000 in
set_option maxRecDepth 100000 in
theorem metX3_checkPlace (l : Launch) (G : xG) (hst : l.stackTraces = false) (sz : Nat) (aX : Nat) (aL : Nat) (aC : Nat) (aT : Nat) (aEx : Nat) (aSh : Nat) (aLd : Nat) (aTw : Nat) (aLe : Nat) (aOp : Nat) (aFa : Nat) (pl : Int32) (q : Int32) : xMX l yX3_checkPlace wsX3_checkPlace ⟨6, 1, 6, 82⟩ G [.ref aX, .int q] [xO aX 3 [.ref aL, .ref aC, .ref aT], xO aL 1 [.int pl, .ref aEx, .ref aSh, .ref aLd, .ref aTw, .ref aLe, .ref aOp, .ref aFa]] sz (xQv G [xO aX 3 [.ref aL, .ref aC, .ref aT], xO aL 1 [.int pl, .ref aEx, .ref aSh, .ref aLd, .ref aTw, .ref aLe, .ref aOp, .ref aFa]] sz (fun (_ : Unit) => (FX3_checkPlace pl q).1 = 0) (fun u : Unit => [xO aX 3 [.ref aL, .ref aC, .ref aT], xO aL 1 [.int pl, .ref aEx, .ref aSh, .ref aLd, .ref aTw, .ref aLe, .ref aOp, .ref aFa]])) (fun E => (FX3_checkPlace pl q).1 = xcode E ∧ xcode E ≠ 0) := by
  refine xofX (own := RX3) (cc := cX3_checkPlace) (maxL := 2) (ret := none) rfl (by decide) rfl (Nat.le_of_ble_eq_true rfl) ?_
  intro pg en s mi below meth cd hc hex hw ls hl
  obtain ⟨hx, hb, -, hown, hts, -⟩ := id hc
  have hl : lv_has ls 2 [(0, .ref aX), (1, .int q)] := hl
  refine lv_aload_n hx hb dX3_checkPlace_0 rfl (lv_at hl 0 rfl) ?_
  refine xget (C := RX3) (T := TX3) (N := 3) hc hw inX3_checkPlace_X3 0 rfl rfl 0 (by decide) lkX3_checkPlace_f12 rfl rfl dX3_checkPlace_1 ?_
  refine lv_iload_n hx hb dX3_checkPlace_4 rfl (lv_at hl 1 rfl) ?_
  refine xcall_i (isC := [1]) hc hw (xrunV (n := 1) (As := [.int q]) (rest := []) hc hw [1] (metX1_isPlace l G _ aL aEx aSh aLd aTw aLe aOp aFa pl q) gX3_checkPlace_X1_isPlace rfl (by decide +kernel) ⟨Nat.le_of_ble_eq_true rfl, Nat.le_of_ble_eq_true rfl⟩ 1 rfl rfl rfl rfl rfl rfl hl.1 (Nat.le_of_ble_eq_true rfl) dX3_checkPlace_5 ⟨Nat.le_of_ble_eq_true rfl, Nat.le_of_ble_eq_true rfl⟩) rfl [0] [0, 1] (fun u1 => [xO aX 3 [.ref aL, .ref aC, .ref aT], xO aL 1 [.int pl, .ref aEx, .ref aSh, .ref aLd, .ref aTw, .ref aLe, .ref aOp, .ref aFa]]) (fun _ => rfl) rfl rfl rfl rfl (fun r2 u1 H locs hp3 hw => ?_)
  refine lv_if_ne (tgt := 21) hx hb dX3_checkPlace_8 (by decide) (fun c_5 => ?_) (fun c_5 => ?_)
  · exact vx_ret (xret_v () hc hw (xe1 (xb hp3 (if_neg c_5))) ⟨Nat.le_of_ble_eq_true rfl, Nat.le_of_ble_eq_true rfl⟩ dX3_checkPlace_21)
  · exact xthrow hc hex hst hw xcode_IO (congrArg Prod.fst (show FX3_checkPlace pl q = _ from (xb hp3 (if_pos c_5)))) (by decide +kernel) lkX3_checkPlace_c208 lkX3_checkPlace_ie1 3 rfl (fun w h => List.mem_cons_of_mem _ (List.mem_append_right _ h)) xnon_IO xgood_IO dX3_checkPlace_11 dX3_checkPlace_14 dX3_checkPlace_15 dX3_checkPlace_17 dX3_checkPlace_20 hl.1 (Nat.le_of_ble_eq_true rfl) (Nat.le_of_ble_eq_true rfl) ⟨Nat.le_of_ble_eq_true rfl, Nat.le_of_ble_eq_true rfl⟩ ⟨Nat.le_of_ble_eq_true rfl, Nat.le_of_ble_eq_true rfl⟩
def FX3_checkPlaceok (pl : Int32) (q : Int32) : Unit :=
  xbind (FX1_isPlace pl q) (fun r2 => ())
set_option maxHeartbeats 40000000 in
set_option maxRecDepth 100000 in
theorem metX3_checkPlaceok (l : Launch) (G : xG) (sz : Nat) (aX : Nat) (aL : Nat) (aC : Nat) (aT : Nat) (aEx : Nat) (aSh : Nat) (aLd : Nat) (aTw : Nat) (aLe : Nat) (aOp : Nat) (aFa : Nat) (pl : Int32) (q : Int32) (hok : ¬ FX1_isPlace pl q = 0) : xM l yX3_checkPlace wsX3_checkPlace ⟨1, 0, 0, 21⟩ G [.ref aX, .int q] [xO aX 3 [.ref aL, .ref aC, .ref aT], xO aL 1 [.int pl, .ref aEx, .ref aSh, .ref aLd, .ref aTw, .ref aLe, .ref aOp, .ref aFa]] sz (xQv G [xO aX 3 [.ref aL, .ref aC, .ref aT], xO aL 1 [.int pl, .ref aEx, .ref aSh, .ref aLd, .ref aTw, .ref aLe, .ref aOp, .ref aFa]] sz (fun (_ : Unit) => True) (fun u : Unit => [xO aX 3 [.ref aL, .ref aC, .ref aT], xO aL 1 [.int pl, .ref aEx, .ref aSh, .ref aLd, .ref aTw, .ref aLe, .ref aOp, .ref aFa]])) := by
  refine xof (own := RX3) (cc := cX3_checkPlace) (maxL := 2) (ret := none) rfl (by decide) rfl (Nat.le_of_ble_eq_true rfl) ?_
  intro pg en s mi below meth cd hc hnm hw ls hl
  obtain ⟨hx, hb, -, hown, hts, -⟩ := id hc
  have hl : lv_has ls 2 [(0, .ref aX), (1, .int q)] := hl
  refine lv_aload_n hx hb dX3_checkPlace_0 rfl (lv_at hl 0 rfl) ?_
  refine xget (C := RX3) (T := TX3) (N := 3) hc hw inX3_checkPlace_X3 0 rfl rfl 0 (by decide) lkX3_checkPlace_f12 rfl rfl dX3_checkPlace_1 ?_
  refine lv_iload_n hx hb dX3_checkPlace_4 rfl (lv_at hl 1 rfl) ?_
  refine xcall_i (isC := [1]) hc hw (xrunV (n := 1) (As := [.int q]) (rest := []) hc hw [1] (metX1_isPlace l G _ aL aEx aSh aLd aTw aLe aOp aFa pl q) gX3_checkPlace_X1_isPlace rfl (by decide +kernel) ⟨Nat.le_of_ble_eq_true rfl, Nat.le_of_ble_eq_true rfl⟩ 1 rfl rfl rfl rfl rfl rfl hl.1 (Nat.le_of_ble_eq_true rfl) dX3_checkPlace_5 ⟨Nat.le_of_ble_eq_true rfl, Nat.le_of_ble_eq_true rfl⟩) rfl [0] [0, 1] (fun u1 => [xO aX 3 [.ref aL, .ref aC, .ref aT], xO aL 1 [.int pl, .ref aEx, .ref aSh, .ref aLd, .ref aTw, .ref aLe, .ref aOp, .ref aFa]]) (fun _ => rfl) rfl rfl rfl rfl (fun r2 u1 H locs hp3 hw => ?_)
  refine lv_if_ne (tgt := 21) hx hb dX3_checkPlace_8 (by decide) (fun _ => ?_) (fun h => absurd h ((by rw [hp3]; exact hok)))
  exact xret_v () hc hw (trivial) ⟨Nat.le_of_ble_eq_true rfl, Nat.le_of_ble_eq_true rfl⟩ dX3_checkPlace_21
def FX3_checkedEnd (pl : Int32) (ex : Nat → Int32) (q : Int32) (x : Int32) : Nat × Int32 :=
  xbind (FX1_endAt pl ex q x) (fun r2 => if r2 = (-1) then ((1, 0)) else ((0, r2)))
set_option maxHeartbeats 40000000 in
set_option maxRecDepth 100000 in
theorem metX3_checkedEnd (l : Launch) (G : xG) (hst : l.stackTraces = false) (sz : Nat) (aX : Nat) (aL : Nat) (aC : Nat) (aT : Nat) (aEx : Nat) (aSh : Nat) (aLd : Nat) (aTw : Nat) (aLe : Nat) (aOp : Nat) (aFa : Nat) (pl : Int32) (ex : Nat → Int32) (q : Int32) (x : Int32) (hpl : 0 ≤ pl.toInt ∧ pl.toInt ≤ 10) : xMX l yX3_checkedEnd wsX3_checkedEnd ⟨6, 1, 6, 82⟩ G [.ref aX, .int q, .int x] [xO aX 3 [.ref aL, .ref aC, .ref aT], xO aL 1 [.int pl, .ref aEx, .ref aSh, .ref aLd, .ref aTw, .ref aLe, .ref aOp, .ref aFa], xAI G aEx 10 ex] sz (xQi G [xO aX 3 [.ref aL, .ref aC, .ref aT], xO aL 1 [.int pl, .ref aEx, .ref aSh, .ref aLd, .ref aTw, .ref aLe, .ref aOp, .ref aFa], xAI G aEx 10 ex] sz (fun (r : Int32) (_ : Unit) => (FX3_checkedEnd pl ex q x).1 = 0 ∧ r = (FX3_checkedEnd pl ex q x).2) (fun u : Unit => [xO aX 3 [.ref aL, .ref aC, .ref aT], xO aL 1 [.int pl, .ref aEx, .ref aSh, .ref aLd, .ref aTw, .ref aLe, .ref aOp, .ref aFa], xAI G aEx 10 ex])) (fun E => (FX3_checkedEnd pl ex q x).1 = xcode E ∧ xcode E ≠ 0) := by
  refine xofX (own := RX3) (cc := cX3_checkedEnd) (maxL := 4) (ret := (some .int)) rfl (by decide) rfl (Nat.le_of_ble_eq_true rfl) ?_
  intro pg en s mi below meth cd hc hex hw ls hl
  obtain ⟨hx, hb, -, hown, hts, -⟩ := id hc
  have hl : lv_has ls 4 [(0, .ref aX), (1, .int q), (2, .int x)] := hl
  refine lv_aload_n hx hb dX3_checkedEnd_0 rfl (lv_at hl 0 rfl) ?_
  refine xget (C := RX3) (T := TX3) (N := 3) hc hw inX3_checkedEnd_X3 0 rfl rfl 0 (by decide) lkX3_checkedEnd_f12 rfl rfl dX3_checkedEnd_1 ?_
  refine lv_iload_n hx hb dX3_checkedEnd_4 rfl (lv_at hl 1 rfl) ?_
  refine lv_iload_n hx hb dX3_checkedEnd_5 rfl (lv_at hl 2 rfl) ?_
  refine xcall_i (isC := [1, 2]) hc hw (xrunV (n := 2) (As := [.int q, .int x]) (rest := []) hc hw [1, 2] (metX1_endAt l G _ aL aEx aSh aLd aTw aLe aOp aFa pl ex q x hpl) gX3_checkedEnd_X1_endAt rfl (by decide +kernel) ⟨Nat.le_of_ble_eq_true rfl, Nat.le_of_ble_eq_true rfl⟩ 1 rfl rfl rfl rfl rfl rfl hl.1 (Nat.le_of_ble_eq_true rfl) dX3_checkedEnd_6 ⟨Nat.le_of_ble_eq_true rfl, Nat.le_of_ble_eq_true rfl⟩) rfl [0] [0, 1, 2] (fun u1 => [xO aX 3 [.ref aL, .ref aC, .ref aT], xO aL 1 [.int pl, .ref aEx, .ref aSh, .ref aLd, .ref aTw, .ref aLe, .ref aOp, .ref aFa], xAI G aEx 10 ex]) (fun _ => rfl) rfl rfl rfl rfl (fun r2 u1 H locs hp3 hw => ?_)
  refine lv_istore_n (lv' := [(3, .int r2), (0, .ref aX), (1, .int q), (2, .int x)]) hx hb dX3_checkedEnd_9 rfl hl (by decide) rfl (fun ls hl => ?_)
  refine lv_iload_n hx hb dX3_checkedEnd_10 rfl (lv_at hl 0 rfl) ?_
  refine lv_iconst (v := (-1)) hx hb dX3_checkedEnd_11 (by decide) ?_
  refine lv_icmp_ne (tgt := 25) hx hb dX3_checkedEnd_12 (by decide) (fun c_5 => ?_) (fun c_5 => ?_)
  · refine lv_iload_n hx hb dX3_checkedEnd_25 rfl (lv_at hl 0 rfl) ?_
    exact vx_ret (xret_i () hc hw (xe2r (xb hp3 (if_neg c_5))) ⟨Nat.le_of_ble_eq_true rfl, Nat.le_of_ble_eq_true rfl⟩ dX3_checkedEnd_26)
  · exact xthrow hc hex hst hw xcode_IO (congrArg Prod.fst (show FX3_checkedEnd pl ex q x = _ from (xb hp3 (if_pos c_5)))) (by decide +kernel) lkX3_checkedEnd_c208 lkX3_checkedEnd_ie1 4 rfl (fun w h => List.mem_cons_of_mem _ (List.mem_append_right _ h)) xnon_IO xgood_IO dX3_checkedEnd_15 dX3_checkedEnd_18 dX3_checkedEnd_19 dX3_checkedEnd_21 dX3_checkedEnd_24 hl.1 (Nat.le_of_ble_eq_true rfl) (Nat.le_of_ble_eq_true rfl) ⟨Nat.le_of_ble_eq_true rfl, Nat.le_of_ble_eq_true rfl⟩ ⟨Nat.le_of_ble_eq_true rfl, Nat.le_of_ble_eq_true rfl⟩
def FX3_checkedEndok (pl : Int32) (ex : Nat → Int32) (q : Int32) (x : Int32) : Int32 :=
  xbind (FX1_endAt pl ex q x) (fun r2 => r2)
set_option maxHeartbeats 40000000 in
set_option maxRecDepth 100000 in
theorem metX3_checkedEndok (l : Launch) (G : xG) (sz : Nat) (aX : Nat) (aL : Nat) (aC : Nat) (aT : Nat) (aEx : Nat) (aSh : Nat) (aLd : Nat) (aTw : Nat) (aLe : Nat) (aOp : Nat) (aFa : Nat) (pl : Int32) (ex : Nat → Int32) (q : Int32) (x : Int32) (hpl : 0 ≤ pl.toInt ∧ pl.toInt ≤ 10) (hok : ¬ FX1_endAt pl ex q x = (-1)) : xM l yX3_checkedEnd wsX3_checkedEnd ⟨2, 0, 0, 44⟩ G [.ref aX, .int q, .int x] [xO aX 3 [.ref aL, .ref aC, .ref aT], xO aL 1 [.int pl, .ref aEx, .ref aSh, .ref aLd, .ref aTw, .ref aLe, .ref aOp, .ref aFa], xAI G aEx 10 ex] sz (xQi G [xO aX 3 [.ref aL, .ref aC, .ref aT], xO aL 1 [.int pl, .ref aEx, .ref aSh, .ref aLd, .ref aTw, .ref aLe, .ref aOp, .ref aFa], xAI G aEx 10 ex] sz (fun (r : Int32) (_ : Unit) => r = FX3_checkedEndok pl ex q x) (fun u : Unit => [xO aX 3 [.ref aL, .ref aC, .ref aT], xO aL 1 [.int pl, .ref aEx, .ref aSh, .ref aLd, .ref aTw, .ref aLe, .ref aOp, .ref aFa], xAI G aEx 10 ex])) := by
  refine xof (own := RX3) (cc := cX3_checkedEnd) (maxL := 4) (ret := (some .int)) rfl (by decide) rfl (Nat.le_of_ble_eq_true rfl) ?_
  intro pg en s mi below meth cd hc hnm hw ls hl
  obtain ⟨hx, hb, -, hown, hts, -⟩ := id hc
  have hl : lv_has ls 4 [(0, .ref aX), (1, .int q), (2, .int x)] := hl
  refine lv_aload_n hx hb dX3_checkedEnd_0 rfl (lv_at hl 0 rfl) ?_
  refine xget (C := RX3) (T := TX3) (N := 3) hc hw inX3_checkedEnd_X3 0 rfl rfl 0 (by decide) lkX3_checkedEnd_f12 rfl rfl dX3_checkedEnd_1 ?_
  refine lv_iload_n hx hb dX3_checkedEnd_4 rfl (lv_at hl 1 rfl) ?_
  refine lv_iload_n hx hb dX3_checkedEnd_5 rfl (lv_at hl 2 rfl) ?_
  refine xcall_i (isC := [1, 2]) hc hw (xrunV (n := 2) (As := [.int q, .int x]) (rest := []) hc hw [1, 2] (metX1_endAt l G _ aL aEx aSh aLd aTw aLe aOp aFa pl ex q x hpl) gX3_checkedEnd_X1_endAt rfl (by decide +kernel) ⟨Nat.le_of_ble_eq_true rfl, Nat.le_of_ble_eq_true rfl⟩ 1 rfl rfl rfl rfl rfl rfl hl.1 (Nat.le_of_ble_eq_true rfl) dX3_checkedEnd_6 ⟨Nat.le_of_ble_eq_true rfl, Nat.le_of_ble_eq_true rfl⟩) rfl [0] [0, 1, 2] (fun u1 => [xO aX 3 [.ref aL, .ref aC, .ref aT], xO aL 1 [.int pl, .ref aEx, .ref aSh, .ref aLd, .ref aTw, .ref aLe, .ref aOp, .ref aFa], xAI G aEx 10 ex]) (fun _ => rfl) rfl rfl rfl rfl (fun r2 u1 H locs hp3 hw => ?_)
  refine lv_istore_n (lv' := [(3, .int r2), (0, .ref aX), (1, .int q), (2, .int x)]) hx hb dX3_checkedEnd_9 rfl hl (by decide) rfl (fun ls hl => ?_)
  refine lv_iload_n hx hb dX3_checkedEnd_10 rfl (lv_at hl 0 rfl) ?_
  refine lv_iconst (v := (-1)) hx hb dX3_checkedEnd_11 (by decide) ?_
  refine lv_icmp_ne (tgt := 25) hx hb dX3_checkedEnd_12 (by decide) (fun _ => ?_) (fun h => absurd h ((by rw [hp3]; exact hok)))
  refine lv_iload_n hx hb dX3_checkedEnd_25 rfl (lv_at hl 0 rfl) ?_
  exact xret_i () hc hw (Eq.symm (xb hp3 rfl)) ⟨Nat.le_of_ble_eq_true rfl, Nat.le_of_ble_eq_true rfl⟩ dX3_checkedEnd_26
def FX3_checkRange (q : Int32) (x : Int32) : Nat × Unit :=
  if q < 1 then ((2, ())) else (if q ≤ x then ((0, ())) else ((2, ())))
set_option maxHeartbeats 40000000 in
set_option maxRecDepth 100000 in
theorem metX3_checkRange (l : Launch) (G : xG) (hst : l.stackTraces = false) (sz : Nat) (aX : Nat) (q : Int32) (x : Int32) : xMX l yX3_checkRange wsX3_checkRange ⟨6, 1, 6, 82⟩ G [.ref aX, .int q, .int x] [] sz (xQv G [] sz (fun (_ : Unit) => (FX3_checkRange q x).1 = 0) (fun u : Unit => [])) (fun E => (FX3_checkRange q x).1 = xcode E ∧ xcode E ≠ 0) := by
  refine xofX (own := RX3) (cc := cX3_checkRange) (maxL := 3) (ret := none) rfl (by decide) rfl (Nat.le_of_ble_eq_true rfl) ?_
  intro pg en s mi below meth cd hc hex hw ls hl
  obtain ⟨hx, hb, -, hown, hts, -⟩ := id hc
  have hl : lv_has ls 3 [(0, .ref aX), (1, .int q), (2, .int x)] := hl
  refine lv_iload_n hx hb dX3_checkRange_0 rfl (lv_at hl 1 rfl) ?_
  refine lv_iconst (v := 1) hx hb dX3_checkRange_1 (by decide) ?_
  refine lv_icmp_lt (tgt := 10) hx hb dX3_checkRange_2 (by decide) (fun c_1 => ?_) (fun c_1 => ?_)
  · exact xthrow hc hex hst hw xcode_IA (congrArg Prod.fst (show FX3_checkRange q x = _ from (if_pos c_1))) (by decide +kernel) lkX3_checkRange_c43 lkX3_checkRange_ie2 5 rfl (fun w h => List.mem_cons_of_mem _ (List.mem_append_right _ h)) xnon_IA xgood_IA dX3_checkRange_10 dX3_checkRange_13 dX3_checkRange_14 dX3_checkRange_16 dX3_checkRange_19 hl.1 (Nat.le_of_ble_eq_true rfl) (Nat.le_of_ble_eq_true rfl) ⟨Nat.le_of_ble_eq_true rfl, Nat.le_of_ble_eq_true rfl⟩ ⟨Nat.le_of_ble_eq_true rfl, Nat.le_of_ble_eq_true rfl⟩
  · refine lv_iload_n hx hb dX3_checkRange_5 rfl (lv_at hl 1 rfl) ?_
    refine lv_iload_n hx hb dX3_checkRange_6 rfl (lv_at hl 2 rfl) ?_
    refine lv_icmp_le (tgt := 20) hx hb dX3_checkRange_7 (by decide) (fun c_2 => ?_) (fun c_2 => ?_)
    · exact vx_ret (xret_v () hc hw (xe1 (Eq.trans (if_neg c_1) (if_pos c_2))) ⟨Nat.le_of_ble_eq_true rfl, Nat.le_of_ble_eq_true rfl⟩ dX3_checkRange_20)
    · exact xthrow hc hex hst hw xcode_IA (congrArg Prod.fst (show FX3_checkRange q x = _ from (Eq.trans (if_neg c_1) (if_neg c_2)))) (by decide +kernel) lkX3_checkRange_c43 lkX3_checkRange_ie2 5 rfl (fun w h => List.mem_cons_of_mem _ (List.mem_append_right _ h)) xnon_IA xgood_IA dX3_checkRange_10 dX3_checkRange_13 dX3_checkRange_14 dX3_checkRange_16 dX3_checkRange_19 hl.1 (Nat.le_of_ble_eq_true rfl) (Nat.le_of_ble_eq_true rfl) ⟨Nat.le_of_ble_eq_true rfl, Nat.le_of_ble_eq_true rfl⟩ ⟨Nat.le_of_ble_eq_true rfl, Nat.le_of_ble_eq_true rfl⟩
def FX3_checkIdle (go : Int32) : Nat × Unit :=
  xbind (FX0_isUnderway go) (fun r2 => if r2 = 0 then ((0, ())) else ((3, ())))
set_option maxHeartbeats 40000000 in
set_option maxRecDepth 100000 in
theorem metX3_checkIdle (l : Launch) (G : xG) (hst : l.stackTraces = false) (sz : Nat) (aX : Nat) (aL : Nat) (aC : Nat) (aT : Nat) (aM : Nat) (aWy : Nat) (aTr : Nat) (aAk : Nat) (po : Int32) (co : Int32) (go : Int32) (wl : Int32) (gu : Int32) (wk : Int32) (db : Int32) (dn : Int32) (iv : Int32) (qs : Int32) : xMX l yX3_checkIdle wsX3_checkIdle ⟨6, 1, 6, 82⟩ G [.ref aX] [xO aX 3 [.ref aL, .ref aC, .ref aT], xO aC 0 [.ref aL, .ref aM, .int po, .int co, .int go, .ref aWy, .int wl, .ref aTr, .ref aAk, .int gu, .int wk, .int db, .int dn, .int iv, .int qs]] sz (xQv G [xO aX 3 [.ref aL, .ref aC, .ref aT], xO aC 0 [.ref aL, .ref aM, .int po, .int co, .int go, .ref aWy, .int wl, .ref aTr, .ref aAk, .int gu, .int wk, .int db, .int dn, .int iv, .int qs]] sz (fun (_ : Unit) => (FX3_checkIdle go).1 = 0) (fun u : Unit => [xO aX 3 [.ref aL, .ref aC, .ref aT], xO aC 0 [.ref aL, .ref aM, .int po, .int co, .int go, .ref aWy, .int wl, .ref aTr, .ref aAk, .int gu, .int wk, .int db, .int dn, .int iv, .int qs]])) (fun E => (FX3_checkIdle go).1 = xcode E ∧ xcode E ≠ 0) := by
  refine xofX (own := RX3) (cc := cX3_checkIdle) (maxL := 1) (ret := none) rfl (by decide) rfl (Nat.le_of_ble_eq_true rfl) ?_
  intro pg en s mi below meth cd hc hex hw ls hl
  obtain ⟨hx, hb, -, hown, hts, -⟩ := id hc
  have hl : lv_has ls 1 [(0, .ref aX)] := hl
  refine lv_aload_n hx hb dX3_checkIdle_0 rfl (lv_at hl 0 rfl) ?_
  refine xget (C := RX3) (T := TX3) (N := 3) hc hw inX3_checkIdle_X3 0 rfl rfl 1 (by decide) lkX3_checkIdle_f21 rfl rfl dX3_checkIdle_1 ?_
  refine xcall_i (isC := [1]) hc hw (xrunV (n := 0) (As := []) (rest := []) hc hw [1] (metX0_isUnderway l G _ aC aL aM aWy aTr aAk po co go wl gu wk db dn iv qs) gX3_checkIdle_X0_isUnderway rfl (by decide +kernel) ⟨Nat.le_of_ble_eq_true rfl, Nat.le_of_ble_eq_true rfl⟩ 1 rfl rfl rfl rfl rfl rfl hl.1 (Nat.le_of_ble_eq_true rfl) dX3_checkIdle_4 ⟨Nat.le_of_ble_eq_true rfl, Nat.le_of_ble_eq_true rfl⟩) rfl [0] [0, 1] (fun u1 => [xO aX 3 [.ref aL, .ref aC, .ref aT], xO aC 0 [.ref aL, .ref aM, .int po, .int co, .int go, .ref aWy, .int wl, .ref aTr, .ref aAk, .int gu, .int wk, .int db, .int dn, .int iv, .int qs]]) (fun _ => rfl) rfl rfl rfl rfl (fun r2 u1 H locs hp3 hw => ?_)
  refine lv_if_eq (tgt := 20) hx hb dX3_checkIdle_7 (by decide) (fun c_5 => ?_) (fun c_5 => ?_)
  · exact vx_ret (xret_v () hc hw (xe1 (xb hp3 (if_pos c_5))) ⟨Nat.le_of_ble_eq_true rfl, Nat.le_of_ble_eq_true rfl⟩ dX3_checkIdle_20)
  · exact xthrow hc hex hst hw xcode_IS (congrArg Prod.fst (show FX3_checkIdle go = _ from (xb hp3 (if_neg c_5)))) (by decide +kernel) lkX3_checkIdle_c32 lkX3_checkIdle_ie3 6 rfl (fun w h => List.mem_cons_of_mem _ (List.mem_append_right _ h)) xnon_IS xgood_IS dX3_checkIdle_10 dX3_checkIdle_13 dX3_checkIdle_14 dX3_checkIdle_16 dX3_checkIdle_19 hl.1 (Nat.le_of_ble_eq_true rfl) (Nat.le_of_ble_eq_true rfl) ⟨Nat.le_of_ble_eq_true rfl, Nat.le_of_ble_eq_true rfl⟩ ⟨Nat.le_of_ble_eq_true rfl, Nat.le_of_ble_eq_true rfl⟩
def FX3_checkUnderway (go : Int32) : Nat × Unit :=
  xbind (FX0_isUnderway go) (fun r2 => if r2 = 0 then ((3, ())) else ((0, ())))
set_option maxHeartbeats 40000000 in
set_option maxRecDepth 100000 in
theorem metX3_checkUnderway (l : Launch) (G : xG) (hst : l.stackTraces = false) (sz : Nat) (aX : Nat) (aL : Nat) (aC : Nat) (aT : Nat) (aM : Nat) (aWy : Nat) (aTr : Nat) (aAk : Nat) (po : Int32) (co : Int32) (go : Int32) (wl : Int32) (gu : Int32) (wk : Int32) (db : Int32) (dn : Int32) (iv : Int32) (qs : Int32) : xMX l yX3_checkUnderway wsX3_checkUnderway ⟨6, 1, 6, 82⟩ G [.ref aX] [xO aX 3 [.ref aL, .ref aC, .ref aT], xO aC 0 [.ref aL, .ref aM, .int po, .int co, .int go, .ref aWy, .int wl, .ref aTr, .ref aAk, .int gu, .int wk, .int db, .int dn, .int iv, .int qs]] sz (xQv G [xO aX 3 [.ref aL, .ref aC, .ref aT], xO aC 0 [.ref aL, .ref aM, .int po, .int co, .int go, .ref aWy, .int wl, .ref aTr, .ref aAk, .int gu, .int wk, .int db, .int dn, .int iv, .int qs]] sz (fun (_ : Unit) => (FX3_checkUnderway go).1 = 0) (fun u : Unit => [xO aX 3 [.ref aL, .ref aC, .ref aT], xO aC 0 [.ref aL, .ref aM, .int po, .int co, .int go, .ref aWy, .int wl, .ref aTr, .ref aAk, .int gu, .int wk, .int db, .int dn, .int iv, .int qs]])) (fun E => (FX3_checkUnderway go).1 = xcode E ∧ xcode E ≠ 0) := by
  refine xofX (own := RX3) (cc := cX3_checkUnderway) (maxL := 1) (ret := none) rfl (by decide) rfl (Nat.le_of_ble_eq_true rfl) ?_
  intro pg en s mi below meth cd hc hex hw ls hl
  obtain ⟨hx, hb, -, hown, hts, -⟩ := id hc
  have hl : lv_has ls 1 [(0, .ref aX)] := hl
  refine lv_aload_n hx hb dX3_checkUnderway_0 rfl (lv_at hl 0 rfl) ?_
  refine xget (C := RX3) (T := TX3) (N := 3) hc hw inX3_checkUnderway_X3 0 rfl rfl 1 (by decide) lkX3_checkUnderway_f21 rfl rfl dX3_checkUnderway_1 ?_
  refine xcall_i (isC := [1]) hc hw (xrunV (n := 0) (As := []) (rest := []) hc hw [1] (metX0_isUnderway l G _ aC aL aM aWy aTr aAk po co go wl gu wk db dn iv qs) gX3_checkUnderway_X0_isUnderway rfl (by decide +kernel) ⟨Nat.le_of_ble_eq_true rfl, Nat.le_of_ble_eq_true rfl⟩ 1 rfl rfl rfl rfl rfl rfl hl.1 (Nat.le_of_ble_eq_true rfl) dX3_checkUnderway_4 ⟨Nat.le_of_ble_eq_true rfl, Nat.le_of_ble_eq_true rfl⟩) rfl [0] [0, 1] (fun u1 => [xO aX 3 [.ref aL, .ref aC, .ref aT], xO aC 0 [.ref aL, .ref aM, .int po, .int co, .int go, .ref aWy, .int wl, .ref aTr, .ref aAk, .int gu, .int wk, .int db, .int dn, .int iv, .int qs]]) (fun _ => rfl) rfl rfl rfl rfl (fun r2 u1 H locs hp3 hw => ?_)
  refine lv_if_ne (tgt := 20) hx hb dX3_checkUnderway_7 (by decide) (fun c_5 => ?_) (fun c_5 => ?_)
  · exact vx_ret (xret_v () hc hw (xe1 (xb hp3 (if_neg c_5))) ⟨Nat.le_of_ble_eq_true rfl, Nat.le_of_ble_eq_true rfl⟩ dX3_checkUnderway_20)
  · exact xthrow hc hex hst hw xcode_IS (congrArg Prod.fst (show FX3_checkUnderway go = _ from (xb hp3 (if_pos c_5)))) (by decide +kernel) lkX3_checkUnderway_c32 lkX3_checkUnderway_ie3 7 rfl (fun w h => List.mem_cons_of_mem _ (List.mem_append_right _ h)) xnon_IS xgood_IS dX3_checkUnderway_10 dX3_checkUnderway_13 dX3_checkUnderway_14 dX3_checkUnderway_16 dX3_checkUnderway_19 hl.1 (Nat.le_of_ble_eq_true rfl) (Nat.le_of_ble_eq_true rfl) ⟨Nat.le_of_ble_eq_true rfl, Nat.le_of_ble_eq_true rfl⟩ ⟨Nat.le_of_ble_eq_true rfl, Nat.le_of_ble_eq_true rfl⟩
theorem pX3_checkPlace {pl q : Int32} (h : (FX3_checkPlace pl q).1 = 0) : ¬ FX1_isPlace pl q = 0 := by
  unfold FX3_checkPlace at h
  dsimp only [xbind, xbind2, xbt1, xbt2, xbt3] at h
  split at h
  · exact absurd h (by decide)
  · assumption
theorem pX3_checkPlace10 {pl q : Int32} (hpl : 0 ≤ pl.toInt ∧ pl.toInt ≤ 10) (h : (FX3_checkPlace pl q).1 = 0) : 0 ≤ q.toInt ∧ q.toInt < 10 := pX1_isPlace10 hpl rfl (pX3_checkPlace h)
theorem xz01 {x : Int32} (h : x = 0 ∨ x = 1) : narrow .boolean (.int x) = .int x := by
  rcases h with rfl | rfl <;> rfl
theorem FX1_opensAt_01 {op : Nat → Int32} {e : Int32} {r : Int32} (h : r = FX1_opensAt op e) : narrow .boolean (.int r) = .int r := by
  subst h
  refine xz01 ?_
  unfold FX1_opensAt
  dsimp only [xbind, xbind2]
  split
  · exact Or.inl rfl
  · split
    · exact Or.inl rfl
    · exact Or.inr rfl
theorem LX0_findsByMemory_01 (mx ms : Nat → Int32) (pl : Int32) (ex ld op : Nat → Int32) (g : Int32) : ∀ (n k : Nat) (q : Int32), LX0_findsByMemory_t mx ms pl ex ld op g n k q = 0 ∨ LX0_findsByMemory_t mx ms pl ex ld op g n k q = 1
  | 0, _, _ => Or.inl rfl
  | n + 1, k, q => by
    unfold LX0_findsByMemory_t
    dsimp only [xbind, xbind2]
    repeat' split
    all_goals first | exact Or.inl rfl | exact Or.inr rfl | exact LX0_findsByMemory_01 mx ms pl ex ld op g n (k + 1) _
theorem FX0_findsByMemory_01 {po : Int32} {mx : Nat → Int32} {ms : Nat → Int32} {pl : Int32} {ex : Nat → Int32} {ld : Nat → Int32} {op : Nat → Int32} {g : Int32} {r : Int32} (h : r = FX0_findsByMemory po mx ms pl ex ld op g) : narrow .boolean (.int r) = .int r := by
  subst h
  exact xz01 (LX0_findsByMemory_01 mx ms pl ex ld op g 11 0 po)
def FX3_places (pl : Int32) : Int32 :=
  pl
set_option maxHeartbeats 40000000 in
set_option maxRecDepth 100000 in
theorem metX3_places (l : Launch) (G : xG) (sz : Nat) (aX : Nat) (aL : Nat) (aC : Nat) (aT : Nat) (aEx : Nat) (aSh : Nat) (aLd : Nat) (aTw : Nat) (aLe : Nat) (aOp : Nat) (aFa : Nat) (pl : Int32) : xM l yX3_places wsX3_places ⟨0, 0, 0, 0⟩ G [.ref aX] [xO aX 3 [.ref aL, .ref aC, .ref aT], xO aL 1 [.int pl, .ref aEx, .ref aSh, .ref aLd, .ref aTw, .ref aLe, .ref aOp, .ref aFa]] sz (xQi G [xO aX 3 [.ref aL, .ref aC, .ref aT], xO aL 1 [.int pl, .ref aEx, .ref aSh, .ref aLd, .ref aTw, .ref aLe, .ref aOp, .ref aFa]] sz (fun (r : Int32) (_ : Unit) => r = FX3_places pl) (fun u : Unit => [xO aX 3 [.ref aL, .ref aC, .ref aT], xO aL 1 [.int pl, .ref aEx, .ref aSh, .ref aLd, .ref aTw, .ref aLe, .ref aOp, .ref aFa]])) := by
  refine xof (own := RX3) (cc := cX3_places) (maxL := 1) (ret := (some .int)) rfl (by decide) rfl (Nat.le_of_ble_eq_true rfl) ?_
  intro pg en s mi below meth cd hc hnm hw ls hl
  obtain ⟨hx, hb, -, hown, hts, -⟩ := id hc
  have hl : lv_has ls 1 [(0, .ref aX)] := hl
  refine lv_aload_n hx hb dX3_places_0 rfl (lv_at hl 0 rfl) ?_
  refine xget (C := RX3) (T := TX3) (N := 3) hc hw inX3_places_X3 0 rfl rfl 0 (by decide) lkX3_places_f12 rfl rfl dX3_places_1 ?_
  refine xgetN (C := RX1) (T := TX1) (N := 8) hc hw inX3_places_X1 1 rfl rfl 0 (by decide) nkX3_28 rfl rfl dX3_places_4 ?_
  exact xret_i () hc hw (Eq.symm rfl) ⟨Nat.le_of_ble_eq_true rfl, Nat.le_of_ble_eq_true rfl⟩ dX3_places_7
def FX3_coins (co : Int32) : Int32 :=
  co
set_option maxHeartbeats 40000000 in
set_option maxRecDepth 100000 in
theorem metX3_coins (l : Launch) (G : xG) (sz : Nat) (aX : Nat) (aL : Nat) (aC : Nat) (aT : Nat) (aM : Nat) (aWy : Nat) (aTr : Nat) (aAk : Nat) (po : Int32) (co : Int32) (go : Int32) (wl : Int32) (gu : Int32) (wk : Int32) (db : Int32) (dn : Int32) (iv : Int32) (qs : Int32) : xM l yX3_coins wsX3_coins ⟨0, 0, 0, 0⟩ G [.ref aX] [xO aX 3 [.ref aL, .ref aC, .ref aT], xO aC 0 [.ref aL, .ref aM, .int po, .int co, .int go, .ref aWy, .int wl, .ref aTr, .ref aAk, .int gu, .int wk, .int db, .int dn, .int iv, .int qs]] sz (xQi G [xO aX 3 [.ref aL, .ref aC, .ref aT], xO aC 0 [.ref aL, .ref aM, .int po, .int co, .int go, .ref aWy, .int wl, .ref aTr, .ref aAk, .int gu, .int wk, .int db, .int dn, .int iv, .int qs]] sz (fun (r : Int32) (_ : Unit) => r = FX3_coins co) (fun u : Unit => [xO aX 3 [.ref aL, .ref aC, .ref aT], xO aC 0 [.ref aL, .ref aM, .int po, .int co, .int go, .ref aWy, .int wl, .ref aTr, .ref aAk, .int gu, .int wk, .int db, .int dn, .int iv, .int qs]])) := by
  refine xof (own := RX3) (cc := cX3_coins) (maxL := 1) (ret := (some .int)) rfl (by decide) rfl (Nat.le_of_ble_eq_true rfl) ?_
  intro pg en s mi below meth cd hc hnm hw ls hl
  obtain ⟨hx, hb, -, hown, hts, -⟩ := id hc
  have hl : lv_has ls 1 [(0, .ref aX)] := hl
  refine lv_aload_n hx hb dX3_coins_0 rfl (lv_at hl 0 rfl) ?_
  refine xget (C := RX3) (T := TX3) (N := 3) hc hw inX3_coins_X3 0 rfl rfl 1 (by decide) lkX3_coins_f21 rfl rfl dX3_coins_1 ?_
  refine xgetN (C := RX0) (T := TX0) (N := 15) hc hw inX3_coins_X0 1 rfl rfl 3 (by decide) nkX3_73 rfl rfl dX3_coins_4 ?_
  exact xret_i () hc hw (Eq.symm rfl) ⟨Nat.le_of_ble_eq_true rfl, Nat.le_of_ble_eq_true rfl⟩ dX3_coins_7
def FX3_goal (go : Int32) : Int32 :=
  go
set_option maxHeartbeats 40000000 in
set_option maxRecDepth 100000 in
theorem metX3_goal (l : Launch) (G : xG) (sz : Nat) (aX : Nat) (aL : Nat) (aC : Nat) (aT : Nat) (aM : Nat) (aWy : Nat) (aTr : Nat) (aAk : Nat) (po : Int32) (co : Int32) (go : Int32) (wl : Int32) (gu : Int32) (wk : Int32) (db : Int32) (dn : Int32) (iv : Int32) (qs : Int32) : xM l yX3_goal wsX3_goal ⟨0, 0, 0, 0⟩ G [.ref aX] [xO aX 3 [.ref aL, .ref aC, .ref aT], xO aC 0 [.ref aL, .ref aM, .int po, .int co, .int go, .ref aWy, .int wl, .ref aTr, .ref aAk, .int gu, .int wk, .int db, .int dn, .int iv, .int qs]] sz (xQi G [xO aX 3 [.ref aL, .ref aC, .ref aT], xO aC 0 [.ref aL, .ref aM, .int po, .int co, .int go, .ref aWy, .int wl, .ref aTr, .ref aAk, .int gu, .int wk, .int db, .int dn, .int iv, .int qs]] sz (fun (r : Int32) (_ : Unit) => r = FX3_goal go) (fun u : Unit => [xO aX 3 [.ref aL, .ref aC, .ref aT], xO aC 0 [.ref aL, .ref aM, .int po, .int co, .int go, .ref aWy, .int wl, .ref aTr, .ref aAk, .int gu, .int wk, .int db, .int dn, .int iv, .int qs]])) := by
  refine xof (own := RX3) (cc := cX3_goal) (maxL := 1) (ret := (some .int)) rfl (by decide) rfl (Nat.le_of_ble_eq_true rfl) ?_
  intro pg en s mi below meth cd hc hnm hw ls hl
  obtain ⟨hx, hb, -, hown, hts, -⟩ := id hc
  have hl : lv_has ls 1 [(0, .ref aX)] := hl
  refine lv_aload_n hx hb dX3_goal_0 rfl (lv_at hl 0 rfl) ?_
  refine xget (C := RX3) (T := TX3) (N := 3) hc hw inX3_goal_X3 0 rfl rfl 1 (by decide) lkX3_goal_f21 rfl rfl dX3_goal_1 ?_
  refine xgetN (C := RX0) (T := TX0) (N := 15) hc hw inX3_goal_X0 1 rfl rfl 4 (by decide) nkX3_132 rfl rfl dX3_goal_4 ?_
  exact xret_i () hc hw (Eq.symm rfl) ⟨Nat.le_of_ble_eq_true rfl, Nat.le_of_ble_eq_true rfl⟩ dX3_goal_7
def FX3_wayLength (wl : Int32) : Int32 :=
  wl
set_option maxHeartbeats 40000000 in
set_option maxRecDepth 100000 in
theorem metX3_wayLength (l : Launch) (G : xG) (sz : Nat) (aX : Nat) (aL : Nat) (aC : Nat) (aT : Nat) (aM : Nat) (aWy : Nat) (aTr : Nat) (aAk : Nat) (po : Int32) (co : Int32) (go : Int32) (wl : Int32) (gu : Int32) (wk : Int32) (db : Int32) (dn : Int32) (iv : Int32) (qs : Int32) : xM l yX3_wayLength wsX3_wayLength ⟨0, 0, 0, 0⟩ G [.ref aX] [xO aX 3 [.ref aL, .ref aC, .ref aT], xO aC 0 [.ref aL, .ref aM, .int po, .int co, .int go, .ref aWy, .int wl, .ref aTr, .ref aAk, .int gu, .int wk, .int db, .int dn, .int iv, .int qs]] sz (xQi G [xO aX 3 [.ref aL, .ref aC, .ref aT], xO aC 0 [.ref aL, .ref aM, .int po, .int co, .int go, .ref aWy, .int wl, .ref aTr, .ref aAk, .int gu, .int wk, .int db, .int dn, .int iv, .int qs]] sz (fun (r : Int32) (_ : Unit) => r = FX3_wayLength wl) (fun u : Unit => [xO aX 3 [.ref aL, .ref aC, .ref aT], xO aC 0 [.ref aL, .ref aM, .int po, .int co, .int go, .ref aWy, .int wl, .ref aTr, .ref aAk, .int gu, .int wk, .int db, .int dn, .int iv, .int qs]])) := by
  refine xof (own := RX3) (cc := cX3_wayLength) (maxL := 1) (ret := (some .int)) rfl (by decide) rfl (Nat.le_of_ble_eq_true rfl) ?_
  intro pg en s mi below meth cd hc hnm hw ls hl
  obtain ⟨hx, hb, -, hown, hts, -⟩ := id hc
  have hl : lv_has ls 1 [(0, .ref aX)] := hl
  refine lv_aload_n hx hb dX3_wayLength_0 rfl (lv_at hl 0 rfl) ?_
  refine xget (C := RX3) (T := TX3) (N := 3) hc hw inX3_wayLength_X3 0 rfl rfl 1 (by decide) lkX3_wayLength_f21 rfl rfl dX3_wayLength_1 ?_
  refine xgetN (C := RX0) (T := TX0) (N := 15) hc hw inX3_wayLength_X0 1 rfl rfl 6 (by decide) nkX3_103 rfl rfl dX3_wayLength_4 ?_
  exact xret_i () hc hw (Eq.symm rfl) ⟨Nat.le_of_ble_eq_true rfl, Nat.le_of_ble_eq_true rfl⟩ dX3_wayLength_7
def FX3_milesWalked (wk : Int32) : Int32 :=
  wk
set_option maxHeartbeats 40000000 in
set_option maxRecDepth 100000 in
theorem metX3_milesWalked (l : Launch) (G : xG) (sz : Nat) (aX : Nat) (aL : Nat) (aC : Nat) (aT : Nat) (aM : Nat) (aWy : Nat) (aTr : Nat) (aAk : Nat) (po : Int32) (co : Int32) (go : Int32) (wl : Int32) (gu : Int32) (wk : Int32) (db : Int32) (dn : Int32) (iv : Int32) (qs : Int32) : xM l yX3_milesWalked wsX3_milesWalked ⟨0, 0, 0, 0⟩ G [.ref aX] [xO aX 3 [.ref aL, .ref aC, .ref aT], xO aC 0 [.ref aL, .ref aM, .int po, .int co, .int go, .ref aWy, .int wl, .ref aTr, .ref aAk, .int gu, .int wk, .int db, .int dn, .int iv, .int qs]] sz (xQi G [xO aX 3 [.ref aL, .ref aC, .ref aT], xO aC 0 [.ref aL, .ref aM, .int po, .int co, .int go, .ref aWy, .int wl, .ref aTr, .ref aAk, .int gu, .int wk, .int db, .int dn, .int iv, .int qs]] sz (fun (r : Int32) (_ : Unit) => r = FX3_milesWalked wk) (fun u : Unit => [xO aX 3 [.ref aL, .ref aC, .ref aT], xO aC 0 [.ref aL, .ref aM, .int po, .int co, .int go, .ref aWy, .int wl, .ref aTr, .ref aAk, .int gu, .int wk, .int db, .int dn, .int iv, .int qs]])) := by
  refine xof (own := RX3) (cc := cX3_milesWalked) (maxL := 1) (ret := (some .int)) rfl (by decide) rfl (Nat.le_of_ble_eq_true rfl) ?_
  intro pg en s mi below meth cd hc hnm hw ls hl
  obtain ⟨hx, hb, -, hown, hts, -⟩ := id hc
  have hl : lv_has ls 1 [(0, .ref aX)] := hl
  refine lv_aload_n hx hb dX3_milesWalked_0 rfl (lv_at hl 0 rfl) ?_
  refine xget (C := RX3) (T := TX3) (N := 3) hc hw inX3_milesWalked_X3 0 rfl rfl 1 (by decide) lkX3_milesWalked_f21 rfl rfl dX3_milesWalked_1 ?_
  refine xgetN (C := RX0) (T := TX0) (N := 15) hc hw inX3_milesWalked_X0 1 rfl rfl 10 (by decide) nkX3_147 rfl rfl dX3_milesWalked_4 ?_
  exact xret_i () hc hw (Eq.symm rfl) ⟨Nat.le_of_ble_eq_true rfl, Nat.le_of_ble_eq_true rfl⟩ dX3_milesWalked_7
def FX3_milesDoubled (db : Int32) : Int32 :=
  db
set_option maxHeartbeats 40000000 in
set_option maxRecDepth 100000 in
theorem metX3_milesDoubled (l : Launch) (G : xG) (sz : Nat) (aX : Nat) (aL : Nat) (aC : Nat) (aT : Nat) (aM : Nat) (aWy : Nat) (aTr : Nat) (aAk : Nat) (po : Int32) (co : Int32) (go : Int32) (wl : Int32) (gu : Int32) (wk : Int32) (db : Int32) (dn : Int32) (iv : Int32) (qs : Int32) : xM l yX3_milesDoubled wsX3_milesDoubled ⟨0, 0, 0, 0⟩ G [.ref aX] [xO aX 3 [.ref aL, .ref aC, .ref aT], xO aC 0 [.ref aL, .ref aM, .int po, .int co, .int go, .ref aWy, .int wl, .ref aTr, .ref aAk, .int gu, .int wk, .int db, .int dn, .int iv, .int qs]] sz (xQi G [xO aX 3 [.ref aL, .ref aC, .ref aT], xO aC 0 [.ref aL, .ref aM, .int po, .int co, .int go, .ref aWy, .int wl, .ref aTr, .ref aAk, .int gu, .int wk, .int db, .int dn, .int iv, .int qs]] sz (fun (r : Int32) (_ : Unit) => r = FX3_milesDoubled db) (fun u : Unit => [xO aX 3 [.ref aL, .ref aC, .ref aT], xO aC 0 [.ref aL, .ref aM, .int po, .int co, .int go, .ref aWy, .int wl, .ref aTr, .ref aAk, .int gu, .int wk, .int db, .int dn, .int iv, .int qs]])) := by
  refine xof (own := RX3) (cc := cX3_milesDoubled) (maxL := 1) (ret := (some .int)) rfl (by decide) rfl (Nat.le_of_ble_eq_true rfl) ?_
  intro pg en s mi below meth cd hc hnm hw ls hl
  obtain ⟨hx, hb, -, hown, hts, -⟩ := id hc
  have hl : lv_has ls 1 [(0, .ref aX)] := hl
  refine lv_aload_n hx hb dX3_milesDoubled_0 rfl (lv_at hl 0 rfl) ?_
  refine xget (C := RX3) (T := TX3) (N := 3) hc hw inX3_milesDoubled_X3 0 rfl rfl 1 (by decide) lkX3_milesDoubled_f21 rfl rfl dX3_milesDoubled_1 ?_
  refine xgetN (C := RX0) (T := TX0) (N := 15) hc hw inX3_milesDoubled_X0 1 rfl rfl 11 (by decide) nkX3_150 rfl rfl dX3_milesDoubled_4 ?_
  exact xret_i () hc hw (Eq.symm rfl) ⟨Nat.le_of_ble_eq_true rfl, Nat.le_of_ble_eq_true rfl⟩ dX3_milesDoubled_7
def FX3_errandsDone (dn : Int32) : Int32 :=
  dn
set_option maxHeartbeats 40000000 in
set_option maxRecDepth 100000 in
theorem metX3_errandsDone (l : Launch) (G : xG) (sz : Nat) (aX : Nat) (aL : Nat) (aC : Nat) (aT : Nat) (aM : Nat) (aWy : Nat) (aTr : Nat) (aAk : Nat) (po : Int32) (co : Int32) (go : Int32) (wl : Int32) (gu : Int32) (wk : Int32) (db : Int32) (dn : Int32) (iv : Int32) (qs : Int32) : xM l yX3_errandsDone wsX3_errandsDone ⟨0, 0, 0, 0⟩ G [.ref aX] [xO aX 3 [.ref aL, .ref aC, .ref aT], xO aC 0 [.ref aL, .ref aM, .int po, .int co, .int go, .ref aWy, .int wl, .ref aTr, .ref aAk, .int gu, .int wk, .int db, .int dn, .int iv, .int qs]] sz (xQi G [xO aX 3 [.ref aL, .ref aC, .ref aT], xO aC 0 [.ref aL, .ref aM, .int po, .int co, .int go, .ref aWy, .int wl, .ref aTr, .ref aAk, .int gu, .int wk, .int db, .int dn, .int iv, .int qs]] sz (fun (r : Int32) (_ : Unit) => r = FX3_errandsDone dn) (fun u : Unit => [xO aX 3 [.ref aL, .ref aC, .ref aT], xO aC 0 [.ref aL, .ref aM, .int po, .int co, .int go, .ref aWy, .int wl, .ref aTr, .ref aAk, .int gu, .int wk, .int db, .int dn, .int iv, .int qs]])) := by
  refine xof (own := RX3) (cc := cX3_errandsDone) (maxL := 1) (ret := (some .int)) rfl (by decide) rfl (Nat.le_of_ble_eq_true rfl) ?_
  intro pg en s mi below meth cd hc hnm hw ls hl
  obtain ⟨hx, hb, -, hown, hts, -⟩ := id hc
  have hl : lv_has ls 1 [(0, .ref aX)] := hl
  refine lv_aload_n hx hb dX3_errandsDone_0 rfl (lv_at hl 0 rfl) ?_
  refine xget (C := RX3) (T := TX3) (N := 3) hc hw inX3_errandsDone_X3 0 rfl rfl 1 (by decide) lkX3_errandsDone_f21 rfl rfl dX3_errandsDone_1 ?_
  refine xgetN (C := RX0) (T := TX0) (N := 15) hc hw inX3_errandsDone_X0 1 rfl rfl 12 (by decide) nkX3_153 rfl rfl dX3_errandsDone_4 ?_
  exact xret_i () hc hw (Eq.symm rfl) ⟨Nat.le_of_ble_eq_true rfl, Nat.le_of_ble_eq_true rfl⟩ dX3_errandsDone_7
def FX3_errandsInVain (iv : Int32) : Int32 :=
  iv
set_option maxHeartbeats 40000000 in
set_option maxRecDepth 100000 in
theorem metX3_errandsInVain (l : Launch) (G : xG) (sz : Nat) (aX : Nat) (aL : Nat) (aC : Nat) (aT : Nat) (aM : Nat) (aWy : Nat) (aTr : Nat) (aAk : Nat) (po : Int32) (co : Int32) (go : Int32) (wl : Int32) (gu : Int32) (wk : Int32) (db : Int32) (dn : Int32) (iv : Int32) (qs : Int32) : xM l yX3_errandsInVain wsX3_errandsInVain ⟨0, 0, 0, 0⟩ G [.ref aX] [xO aX 3 [.ref aL, .ref aC, .ref aT], xO aC 0 [.ref aL, .ref aM, .int po, .int co, .int go, .ref aWy, .int wl, .ref aTr, .ref aAk, .int gu, .int wk, .int db, .int dn, .int iv, .int qs]] sz (xQi G [xO aX 3 [.ref aL, .ref aC, .ref aT], xO aC 0 [.ref aL, .ref aM, .int po, .int co, .int go, .ref aWy, .int wl, .ref aTr, .ref aAk, .int gu, .int wk, .int db, .int dn, .int iv, .int qs]] sz (fun (r : Int32) (_ : Unit) => r = FX3_errandsInVain iv) (fun u : Unit => [xO aX 3 [.ref aL, .ref aC, .ref aT], xO aC 0 [.ref aL, .ref aM, .int po, .int co, .int go, .ref aWy, .int wl, .ref aTr, .ref aAk, .int gu, .int wk, .int db, .int dn, .int iv, .int qs]])) := by
  refine xof (own := RX3) (cc := cX3_errandsInVain) (maxL := 1) (ret := (some .int)) rfl (by decide) rfl (Nat.le_of_ble_eq_true rfl) ?_
  intro pg en s mi below meth cd hc hnm hw ls hl
  obtain ⟨hx, hb, -, hown, hts, -⟩ := id hc
  have hl : lv_has ls 1 [(0, .ref aX)] := hl
  refine lv_aload_n hx hb dX3_errandsInVain_0 rfl (lv_at hl 0 rfl) ?_
  refine xget (C := RX3) (T := TX3) (N := 3) hc hw inX3_errandsInVain_X3 0 rfl rfl 1 (by decide) lkX3_errandsInVain_f21 rfl rfl dX3_errandsInVain_1 ?_
  refine xgetN (C := RX0) (T := TX0) (N := 15) hc hw inX3_errandsInVain_X0 1 rfl rfl 13 (by decide) nkX3_156 rfl rfl dX3_errandsInVain_4 ?_
  exact xret_i () hc hw (Eq.symm rfl) ⟨Nat.le_of_ble_eq_true rfl, Nat.le_of_ble_eq_true rfl⟩ dX3_errandsInVain_7
def FX3_asked (qs : Int32) : Int32 :=
  qs
set_option maxHeartbeats 40000000 in
set_option maxRecDepth 100000 in
theorem metX3_asked (l : Launch) (G : xG) (sz : Nat) (aX : Nat) (aL : Nat) (aC : Nat) (aT : Nat) (aM : Nat) (aWy : Nat) (aTr : Nat) (aAk : Nat) (po : Int32) (co : Int32) (go : Int32) (wl : Int32) (gu : Int32) (wk : Int32) (db : Int32) (dn : Int32) (iv : Int32) (qs : Int32) : xM l yX3_asked wsX3_asked ⟨0, 0, 0, 0⟩ G [.ref aX] [xO aX 3 [.ref aL, .ref aC, .ref aT], xO aC 0 [.ref aL, .ref aM, .int po, .int co, .int go, .ref aWy, .int wl, .ref aTr, .ref aAk, .int gu, .int wk, .int db, .int dn, .int iv, .int qs]] sz (xQi G [xO aX 3 [.ref aL, .ref aC, .ref aT], xO aC 0 [.ref aL, .ref aM, .int po, .int co, .int go, .ref aWy, .int wl, .ref aTr, .ref aAk, .int gu, .int wk, .int db, .int dn, .int iv, .int qs]] sz (fun (r : Int32) (_ : Unit) => r = FX3_asked qs) (fun u : Unit => [xO aX 3 [.ref aL, .ref aC, .ref aT], xO aC 0 [.ref aL, .ref aM, .int po, .int co, .int go, .ref aWy, .int wl, .ref aTr, .ref aAk, .int gu, .int wk, .int db, .int dn, .int iv, .int qs]])) := by
  refine xof (own := RX3) (cc := cX3_asked) (maxL := 1) (ret := (some .int)) rfl (by decide) rfl (Nat.le_of_ble_eq_true rfl) ?_
  intro pg en s mi below meth cd hc hnm hw ls hl
  obtain ⟨hx, hb, -, hown, hts, -⟩ := id hc
  have hl : lv_has ls 1 [(0, .ref aX)] := hl
  refine lv_aload_n hx hb dX3_asked_0 rfl (lv_at hl 0 rfl) ?_
  refine xget (C := RX3) (T := TX3) (N := 3) hc hw inX3_asked_X3 0 rfl rfl 1 (by decide) lkX3_asked_f21 rfl rfl dX3_asked_1 ?_
  refine xgetN (C := RX0) (T := TX0) (N := 15) hc hw inX3_asked_X0 1 rfl rfl 14 (by decide) nkX3_159 rfl rfl dX3_asked_4 ?_
  exact xret_i () hc hw (Eq.symm rfl) ⟨Nat.le_of_ble_eq_true rfl, Nat.le_of_ble_eq_true rfl⟩ dX3_asked_7
def FX3_whereIs (po : Int32) (pl : Int32) : Int32 :=
  if pl = 0 then ((-1)) else (po)
set_option maxHeartbeats 40000000 in
set_option maxRecDepth 100000 in
theorem metX3_whereIs (l : Launch) (G : xG) (sz : Nat) (aX : Nat) (aL : Nat) (aC : Nat) (aT : Nat) (aM : Nat) (aWy : Nat) (aTr : Nat) (aAk : Nat) (aEx : Nat) (aSh : Nat) (aLd : Nat) (aTw : Nat) (aLe : Nat) (aOp : Nat) (aFa : Nat) (po : Int32) (co : Int32) (go : Int32) (wl : Int32) (gu : Int32) (wk : Int32) (db : Int32) (dn : Int32) (iv : Int32) (qs : Int32) (pl : Int32) : xM l yX3_whereIs wsX3_whereIs ⟨0, 0, 0, 0⟩ G [.ref aX] [xO aX 3 [.ref aL, .ref aC, .ref aT], xO aC 0 [.ref aL, .ref aM, .int po, .int co, .int go, .ref aWy, .int wl, .ref aTr, .ref aAk, .int gu, .int wk, .int db, .int dn, .int iv, .int qs], xO aL 1 [.int pl, .ref aEx, .ref aSh, .ref aLd, .ref aTw, .ref aLe, .ref aOp, .ref aFa]] sz (xQi G [xO aX 3 [.ref aL, .ref aC, .ref aT], xO aC 0 [.ref aL, .ref aM, .int po, .int co, .int go, .ref aWy, .int wl, .ref aTr, .ref aAk, .int gu, .int wk, .int db, .int dn, .int iv, .int qs], xO aL 1 [.int pl, .ref aEx, .ref aSh, .ref aLd, .ref aTw, .ref aLe, .ref aOp, .ref aFa]] sz (fun (r : Int32) (_ : Unit) => r = FX3_whereIs po pl) (fun u : Unit => [xO aX 3 [.ref aL, .ref aC, .ref aT], xO aC 0 [.ref aL, .ref aM, .int po, .int co, .int go, .ref aWy, .int wl, .ref aTr, .ref aAk, .int gu, .int wk, .int db, .int dn, .int iv, .int qs], xO aL 1 [.int pl, .ref aEx, .ref aSh, .ref aLd, .ref aTw, .ref aLe, .ref aOp, .ref aFa]])) := by
  refine xof (own := RX3) (cc := cX3_whereIs) (maxL := 1) (ret := (some .int)) rfl (by decide) rfl (Nat.le_of_ble_eq_true rfl) ?_
  intro pg en s mi below meth cd hc hnm hw ls hl
  obtain ⟨hx, hb, -, hown, hts, -⟩ := id hc
  have hl : lv_has ls 1 [(0, .ref aX)] := hl
  refine lv_aload_n hx hb dX3_whereIs_0 rfl (lv_at hl 0 rfl) ?_
  refine xget (C := RX3) (T := TX3) (N := 3) hc hw inX3_whereIs_X3 0 rfl rfl 0 (by decide) lkX3_whereIs_f12 rfl rfl dX3_whereIs_1 ?_
  refine xgetN (C := RX1) (T := TX1) (N := 8) hc hw inX3_whereIs_X1 2 rfl rfl 0 (by decide) nkX3_28 rfl rfl dX3_whereIs_4 ?_
  refine lv_if_ne (tgt := 14) hx hb dX3_whereIs_7 (by decide) (fun c_1 => ?_) (fun c_1 => ?_)
  · refine lv_aload_n hx hb dX3_whereIs_14 rfl (lv_at hl 0 rfl) ?_
    refine xget (C := RX3) (T := TX3) (N := 3) hc hw inX3_whereIs_X3 0 rfl rfl 1 (by decide) lkX3_whereIs_f21 rfl rfl dX3_whereIs_15 ?_
    refine xgetN (C := RX0) (T := TX0) (N := 15) hc hw inX3_whereIs_X0 1 rfl rfl 2 (by decide) nkX3_84 rfl rfl dX3_whereIs_18 ?_
    exact xret_i () hc hw (Eq.symm (if_neg c_1)) ⟨Nat.le_of_ble_eq_true rfl, Nat.le_of_ble_eq_true rfl⟩ dX3_whereIs_21
  · refine lv_iconst (v := (-1)) hx hb dX3_whereIs_10 (by decide) ?_
    refine lv_goto (tgt := 21) hx hb dX3_whereIs_11 (by decide) ?_
    exact xret_i () hc hw (Eq.symm (if_pos c_1)) ⟨Nat.le_of_ble_eq_true rfl, Nat.le_of_ble_eq_true rfl⟩ dX3_whereIs_21
def FX3_exitsOf (pl : Int32) (ex : Nat → Int32) (q : Int32) : Nat × Int32 :=
  xbt1 (FX3_checkPlace pl q) 0 ((0, ex q.toNatClampNeg))
set_option maxHeartbeats 40000000 in
set_option maxRecDepth 100000 in
theorem metX3_exitsOf (l : Launch) (G : xG) (hst : l.stackTraces = false) (sz : Nat) (aX : Nat) (aL : Nat) (aC : Nat) (aT : Nat) (aEx : Nat) (aSh : Nat) (aLd : Nat) (aTw : Nat) (aLe : Nat) (aOp : Nat) (aFa : Nat) (pl : Int32) (ex : Nat → Int32) (q : Int32) (hpl : 0 ≤ pl.toInt ∧ pl.toInt ≤ 10) : xMX l yX3_exitsOf wsX3_exitsOf ⟨7, 1, 6, 103⟩ G [.ref aX, .int q] [xO aX 3 [.ref aL, .ref aC, .ref aT], xO aL 1 [.int pl, .ref aEx, .ref aSh, .ref aLd, .ref aTw, .ref aLe, .ref aOp, .ref aFa], xAI G aEx 10 ex] sz (xQi G [xO aX 3 [.ref aL, .ref aC, .ref aT], xO aL 1 [.int pl, .ref aEx, .ref aSh, .ref aLd, .ref aTw, .ref aLe, .ref aOp, .ref aFa], xAI G aEx 10 ex] sz (fun (r : Int32) (_ : Unit) => (FX3_exitsOf pl ex q).1 = 0 ∧ r = (FX3_exitsOf pl ex q).2) (fun u : Unit => [xO aX 3 [.ref aL, .ref aC, .ref aT], xO aL 1 [.int pl, .ref aEx, .ref aSh, .ref aLd, .ref aTw, .ref aLe, .ref aOp, .ref aFa], xAI G aEx 10 ex])) (fun E => (FX3_exitsOf pl ex q).1 = xcode E ∧ xcode E ≠ 0) := by
  refine xofX (own := RX3) (cc := cX3_exitsOf) (maxL := 2) (ret := (some .int)) rfl (by decide) rfl (Nat.le_of_ble_eq_true rfl) ?_
  intro pg en s mi below meth cd hc hex hw ls hl
  obtain ⟨hx, hb, -, hown, hts, -⟩ := id hc
  have hl : lv_has ls 2 [(0, .ref aX), (1, .int q)] := hl
  refine lv_aload_n hx hb dX3_exitsOf_0 rfl (lv_at hl 0 rfl) ?_
  refine lv_iload_n hx hb dX3_exitsOf_1 rfl (lv_at hl 1 rfl) ?_
  refine xcallX_v (isC := [0, 1]) hc hw (xrunVX (n := 1) (As := [.int q]) (rest := []) hc hw [0, 1] (metX3_checkPlace l G hst _ aX aL aC aT aEx aSh aLd aTw aLe aOp aFa pl q) gX3_exitsOf_X3_checkPlace rfl (by decide +kernel) ⟨Nat.le_of_ble_eq_true rfl, Nat.le_of_ble_eq_true rfl⟩ 0 rfl rfl rfl rfl rfl rfl hl.1 (Nat.le_of_ble_eq_true rfl) dX3_exitsOf_2 ⟨Nat.le_of_ble_eq_true rfl, Nat.le_of_ble_eq_true rfl⟩) rfl [2] [1, 2, 0] [1, 2, 0] (fun u1 => [xO aX 3 [.ref aL, .ref aC, .ref aT], xO aL 1 [.int pl, .ref aEx, .ref aSh, .ref aLd, .ref aTw, .ref aLe, .ref aOp, .ref aFa], xAI G aEx 10 ex]) (fun _ => rfl) rfl rfl rfl rfl rfl rfl (fun E ce q9 H locs hpx hw h9 hv9 hc9 => xout hc hex hw ⟨Eq.trans (congrArg Prod.fst (show FX3_exitsOf pl ex q = _ from (xt1x hpx))) hpx.1, hpx.2⟩ h9 hv9 hc9 ⟨Nat.le_of_ble_eq_true rfl, Nat.le_of_ble_eq_true rfl⟩) (fun u1 H locs hp3 hw => ?_)
  refine lv_aload_n hx hb dX3_exitsOf_5 rfl (lv_at hl 0 rfl) ?_
  refine xget (C := RX3) (T := TX3) (N := 3) hc hw inX3_exitsOf_X3 0 rfl rfl 0 (by decide) lkX3_exitsOf_f12 rfl rfl dX3_exitsOf_6 ?_
  refine xgetN (C := RX1) (T := TX1) (N := 8) hc hw inX3_exitsOf_X1 1 rfl rfl 1 (by decide) nkX3_119 rfl rfl dX3_exitsOf_9 ?_
  refine lv_iload_n hx hb dX3_exitsOf_12 rfl (lv_at hl 1 rfl) ?_
  refine xiald hc hw 2 rfl (xin (pX3_checkPlace10 hpl hp3)) dX3_exitsOf_13 ?_
  exact vx_ret (xret_i () hc hw (xe2r (xt1 hp3 rfl)) ⟨Nat.le_of_ble_eq_true rfl, Nat.le_of_ble_eq_true rfl⟩ dX3_exitsOf_14)
def FX3_hasShepherd (pl : Int32) (sh : Nat → Int32) (q : Int32) : Nat × Int32 :=
  xbt1 (FX3_checkPlace pl q) 0 ((0, sh q.toNatClampNeg))
set_option maxHeartbeats 40000000 in
set_option maxRecDepth 100000 in
theorem metX3_hasShepherd (l : Launch) (G : xG) (hst : l.stackTraces = false) (sz : Nat) (aX : Nat) (aL : Nat) (aC : Nat) (aT : Nat) (aEx : Nat) (aSh : Nat) (aLd : Nat) (aTw : Nat) (aLe : Nat) (aOp : Nat) (aFa : Nat) (pl : Int32) (sh : Nat → Int32) (q : Int32) (hpl : 0 ≤ pl.toInt ∧ pl.toInt ≤ 10) (hsh : ∀ k, k < 10 → sh k = 0 ∨ sh k = 1) : xMX l yX3_hasShepherd wsX3_hasShepherd ⟨7, 1, 6, 103⟩ G [.ref aX, .int q] [xO aX 3 [.ref aL, .ref aC, .ref aT], xO aL 1 [.int pl, .ref aEx, .ref aSh, .ref aLd, .ref aTw, .ref aLe, .ref aOp, .ref aFa], xAZ G aSh 10 sh] sz (xQi G [xO aX 3 [.ref aL, .ref aC, .ref aT], xO aL 1 [.int pl, .ref aEx, .ref aSh, .ref aLd, .ref aTw, .ref aLe, .ref aOp, .ref aFa], xAZ G aSh 10 sh] sz (fun (r : Int32) (_ : Unit) => (FX3_hasShepherd pl sh q).1 = 0 ∧ r = (FX3_hasShepherd pl sh q).2) (fun u : Unit => [xO aX 3 [.ref aL, .ref aC, .ref aT], xO aL 1 [.int pl, .ref aEx, .ref aSh, .ref aLd, .ref aTw, .ref aLe, .ref aOp, .ref aFa], xAZ G aSh 10 sh])) (fun E => (FX3_hasShepherd pl sh q).1 = xcode E ∧ xcode E ≠ 0) := by
  refine xofX (own := RX3) (cc := cX3_hasShepherd) (maxL := 2) (ret := (some .boolean)) rfl (by decide) rfl (Nat.le_of_ble_eq_true rfl) ?_
  intro pg en s mi below meth cd hc hex hw ls hl
  obtain ⟨hx, hb, -, hown, hts, -⟩ := id hc
  have hl : lv_has ls 2 [(0, .ref aX), (1, .int q)] := hl
  refine lv_aload_n hx hb dX3_hasShepherd_0 rfl (lv_at hl 0 rfl) ?_
  refine lv_iload_n hx hb dX3_hasShepherd_1 rfl (lv_at hl 1 rfl) ?_
  refine xcallX_v (isC := [0, 1]) hc hw (xrunVX (n := 1) (As := [.int q]) (rest := []) hc hw [0, 1] (metX3_checkPlace l G hst _ aX aL aC aT aEx aSh aLd aTw aLe aOp aFa pl q) gX3_hasShepherd_X3_checkPlace rfl (by decide +kernel) ⟨Nat.le_of_ble_eq_true rfl, Nat.le_of_ble_eq_true rfl⟩ 0 rfl rfl rfl rfl rfl rfl hl.1 (Nat.le_of_ble_eq_true rfl) dX3_hasShepherd_2 ⟨Nat.le_of_ble_eq_true rfl, Nat.le_of_ble_eq_true rfl⟩) rfl [2] [1, 2, 0] [1, 2, 0] (fun u1 => [xO aX 3 [.ref aL, .ref aC, .ref aT], xO aL 1 [.int pl, .ref aEx, .ref aSh, .ref aLd, .ref aTw, .ref aLe, .ref aOp, .ref aFa], xAZ G aSh 10 sh]) (fun _ => rfl) rfl rfl rfl rfl rfl rfl (fun E ce q9 H locs hpx hw h9 hv9 hc9 => xout hc hex hw ⟨Eq.trans (congrArg Prod.fst (show FX3_hasShepherd pl sh q = _ from (xt1x hpx))) hpx.1, hpx.2⟩ h9 hv9 hc9 ⟨Nat.le_of_ble_eq_true rfl, Nat.le_of_ble_eq_true rfl⟩) (fun u1 H locs hp3 hw => ?_)
  refine lv_aload_n hx hb dX3_hasShepherd_5 rfl (lv_at hl 0 rfl) ?_
  refine xget (C := RX3) (T := TX3) (N := 3) hc hw inX3_hasShepherd_X3 0 rfl rfl 0 (by decide) lkX3_hasShepherd_f12 rfl rfl dX3_hasShepherd_6 ?_
  refine xgetN (C := RX1) (T := TX1) (N := 8) hc hw inX3_hasShepherd_X1 1 rfl rfl 2 (by decide) nkX3_69 rfl rfl dX3_hasShepherd_9 ?_
  refine lv_iload_n hx hb dX3_hasShepherd_12 rfl (lv_at hl 1 rfl) ?_
  refine xzald hc hw 2 rfl (xin (pX3_checkPlace10 hpl hp3)) dX3_hasShepherd_13 ?_
  exact vx_ret (xret_z () hc hw (by exact xz01 (hsh _ (xcl (pX3_checkPlace10 hpl hp3)))) (xe2r (xt1 hp3 rfl)) ⟨Nat.le_of_ble_eq_true rfl, Nat.le_of_ble_eq_true rfl⟩ dX3_hasShepherd_14)
def FX3_leadsTo (pl : Int32) (ex : Nat → Int32) (ld : Nat → Int32) (q : Int32) (x : Int32) : Nat × Int32 :=
  xbt2 (FX3_checkedEnd pl ex q x) 0 (fun r2 => xbind (FX1_beyond ld r2) (fun r6 => (0, r6)))
set_option maxHeartbeats 40000000 in
set_option maxRecDepth 100000 in
theorem metX3_leadsTo (l : Launch) (G : xG) (hst : l.stackTraces = false) (sz : Nat) (aX : Nat) (aL : Nat) (aC : Nat) (aT : Nat) (aEx : Nat) (aSh : Nat) (aLd : Nat) (aTw : Nat) (aLe : Nat) (aOp : Nat) (aFa : Nat) (pl : Int32) (ex : Nat → Int32) (ld : Nat → Int32) (q : Int32) (x : Int32) (hpl : 0 ≤ pl.toInt ∧ pl.toInt ≤ 10) : xMX l yX3_leadsTo wsX3_leadsTo ⟨7, 1, 6, 105⟩ G [.ref aX, .int q, .int x] [xO aX 3 [.ref aL, .ref aC, .ref aT], xO aL 1 [.int pl, .ref aEx, .ref aSh, .ref aLd, .ref aTw, .ref aLe, .ref aOp, .ref aFa], xAI G aEx 10 ex, xAI G aLd 40 ld] sz (xQi G [xO aX 3 [.ref aL, .ref aC, .ref aT], xO aL 1 [.int pl, .ref aEx, .ref aSh, .ref aLd, .ref aTw, .ref aLe, .ref aOp, .ref aFa], xAI G aEx 10 ex, xAI G aLd 40 ld] sz (fun (r : Int32) (_ : Unit) => (FX3_leadsTo pl ex ld q x).1 = 0 ∧ r = (FX3_leadsTo pl ex ld q x).2) (fun u : Unit => [xO aX 3 [.ref aL, .ref aC, .ref aT], xO aL 1 [.int pl, .ref aEx, .ref aSh, .ref aLd, .ref aTw, .ref aLe, .ref aOp, .ref aFa], xAI G aEx 10 ex, xAI G aLd 40 ld])) (fun E => (FX3_leadsTo pl ex ld q x).1 = xcode E ∧ xcode E ≠ 0) := by
  refine xofX (own := RX3) (cc := cX3_leadsTo) (maxL := 3) (ret := (some .int)) rfl (by decide) rfl (Nat.le_of_ble_eq_true rfl) ?_
  intro pg en s mi below meth cd hc hex hw ls hl
  obtain ⟨hx, hb, -, hown, hts, -⟩ := id hc
  have hl : lv_has ls 3 [(0, .ref aX), (1, .int q), (2, .int x)] := hl
  refine lv_aload_n hx hb dX3_leadsTo_0 rfl (lv_at hl 0 rfl) ?_
  refine xget (C := RX3) (T := TX3) (N := 3) hc hw inX3_leadsTo_X3 0 rfl rfl 0 (by decide) lkX3_leadsTo_f12 rfl rfl dX3_leadsTo_1 ?_
  refine lv_aload_n hx hb dX3_leadsTo_4 rfl (lv_at hl 0 rfl) ?_
  refine lv_iload_n hx hb dX3_leadsTo_5 rfl (lv_at hl 1 rfl) ?_
  refine lv_iload_n hx hb dX3_leadsTo_6 rfl (lv_at hl 2 rfl) ?_
  refine xcallX_i (isC := [0, 1, 2]) hc hw (xrunVX (n := 2) (As := [.int q, .int x]) (rest := [.ref aL]) hc hw [0, 1, 2] (metX3_checkedEnd l G hst _ aX aL aC aT aEx aSh aLd aTw aLe aOp aFa pl ex q x hpl) gX3_leadsTo_X3_checkedEnd rfl (by decide +kernel) ⟨Nat.le_of_ble_eq_true rfl, Nat.le_of_ble_eq_true rfl⟩ 0 rfl rfl rfl rfl rfl rfl hl.1 (Nat.le_of_ble_eq_true rfl) dX3_leadsTo_7 ⟨Nat.le_of_ble_eq_true rfl, Nat.le_of_ble_eq_true rfl⟩) rfl [3] [1, 2, 3, 0] [1, 2, 3, 0] (fun u1 => [xO aX 3 [.ref aL, .ref aC, .ref aT], xO aL 1 [.int pl, .ref aEx, .ref aSh, .ref aLd, .ref aTw, .ref aLe, .ref aOp, .ref aFa], xAI G aEx 10 ex, xAI G aLd 40 ld]) (fun _ => rfl) rfl rfl rfl rfl rfl rfl (fun E ce q9 H locs hpx hw h9 hv9 hc9 => xout hc hex hw ⟨Eq.trans (congrArg Prod.fst (show FX3_leadsTo pl ex ld q x = _ from (xt2x hpx))) hpx.1, hpx.2⟩ h9 hv9 hc9 ⟨Nat.le_of_ble_eq_true rfl, Nat.le_of_ble_eq_true rfl⟩) (fun r2 u1 H locs hp3 hw => ?_)
  refine xcall_i (isC := [1, 3]) hc hw (xrunV (n := 1) (As := [.int r2]) (rest := []) hc hw [1, 3] (metX1_beyond l G _ aL aEx aSh aLd aTw aLe aOp aFa pl ld r2) gX3_leadsTo_X1_beyond rfl (by decide +kernel) ⟨Nat.le_of_ble_eq_true rfl, Nat.le_of_ble_eq_true rfl⟩ 1 rfl rfl rfl rfl rfl rfl hl.1 (Nat.le_of_ble_eq_true rfl) dX3_leadsTo_10 ⟨Nat.le_of_ble_eq_true rfl, Nat.le_of_ble_eq_true rfl⟩) rfl [0, 2] [0, 2, 1, 3] (fun u5 => [xO aX 3 [.ref aL, .ref aC, .ref aT], xO aL 1 [.int pl, .ref aEx, .ref aSh, .ref aLd, .ref aTw, .ref aLe, .ref aOp, .ref aFa], xAI G aEx 10 ex, xAI G aLd 40 ld]) (fun _ => rfl) rfl rfl rfl rfl (fun r6 u5 H locs hp7 hw => ?_)
  exact vx_ret (xret_i () hc hw (xe2r (xt2 hp3 (xb hp7 rfl))) ⟨Nat.le_of_ble_eq_true rfl, Nat.le_of_ble_eq_true rfl⟩ dX3_leadsTo_13)
def FX3_milesOf (pl : Int32) (ex : Nat → Int32) (le : Nat → Int32) (q : Int32) (x : Int32) : Nat × Int32 :=
  xbt2 (FX3_checkedEnd pl ex q x) 0 (fun r2 => xbind (FX1_milesAt le r2) (fun r6 => (0, r6)))
set_option maxHeartbeats 40000000 in
set_option maxRecDepth 100000 in
theorem metX3_milesOf (l : Launch) (G : xG) (hst : l.stackTraces = false) (sz : Nat) (aX : Nat) (aL : Nat) (aC : Nat) (aT : Nat) (aEx : Nat) (aSh : Nat) (aLd : Nat) (aTw : Nat) (aLe : Nat) (aOp : Nat) (aFa : Nat) (pl : Int32) (ex : Nat → Int32) (le : Nat → Int32) (q : Int32) (x : Int32) (hpl : 0 ≤ pl.toInt ∧ pl.toInt ≤ 10) : xMX l yX3_milesOf wsX3_milesOf ⟨7, 1, 6, 105⟩ G [.ref aX, .int q, .int x] [xO aX 3 [.ref aL, .ref aC, .ref aT], xO aL 1 [.int pl, .ref aEx, .ref aSh, .ref aLd, .ref aTw, .ref aLe, .ref aOp, .ref aFa], xAI G aEx 10 ex, xAI G aLe 40 le] sz (xQi G [xO aX 3 [.ref aL, .ref aC, .ref aT], xO aL 1 [.int pl, .ref aEx, .ref aSh, .ref aLd, .ref aTw, .ref aLe, .ref aOp, .ref aFa], xAI G aEx 10 ex, xAI G aLe 40 le] sz (fun (r : Int32) (_ : Unit) => (FX3_milesOf pl ex le q x).1 = 0 ∧ r = (FX3_milesOf pl ex le q x).2) (fun u : Unit => [xO aX 3 [.ref aL, .ref aC, .ref aT], xO aL 1 [.int pl, .ref aEx, .ref aSh, .ref aLd, .ref aTw, .ref aLe, .ref aOp, .ref aFa], xAI G aEx 10 ex, xAI G aLe 40 le])) (fun E => (FX3_milesOf pl ex le q x).1 = xcode E ∧ xcode E ≠ 0) := by
  refine xofX (own := RX3) (cc := cX3_milesOf) (maxL := 3) (ret := (some .int)) rfl (by decide) rfl (Nat.le_of_ble_eq_true rfl) ?_
  intro pg en s mi below meth cd hc hex hw ls hl
  obtain ⟨hx, hb, -, hown, hts, -⟩ := id hc
  have hl : lv_has ls 3 [(0, .ref aX), (1, .int q), (2, .int x)] := hl
  refine lv_aload_n hx hb dX3_milesOf_0 rfl (lv_at hl 0 rfl) ?_
  refine xget (C := RX3) (T := TX3) (N := 3) hc hw inX3_milesOf_X3 0 rfl rfl 0 (by decide) lkX3_milesOf_f12 rfl rfl dX3_milesOf_1 ?_
  refine lv_aload_n hx hb dX3_milesOf_4 rfl (lv_at hl 0 rfl) ?_
  refine lv_iload_n hx hb dX3_milesOf_5 rfl (lv_at hl 1 rfl) ?_
  refine lv_iload_n hx hb dX3_milesOf_6 rfl (lv_at hl 2 rfl) ?_
  refine xcallX_i (isC := [0, 1, 2]) hc hw (xrunVX (n := 2) (As := [.int q, .int x]) (rest := [.ref aL]) hc hw [0, 1, 2] (metX3_checkedEnd l G hst _ aX aL aC aT aEx aSh aLd aTw aLe aOp aFa pl ex q x hpl) gX3_milesOf_X3_checkedEnd rfl (by decide +kernel) ⟨Nat.le_of_ble_eq_true rfl, Nat.le_of_ble_eq_true rfl⟩ 0 rfl rfl rfl rfl rfl rfl hl.1 (Nat.le_of_ble_eq_true rfl) dX3_milesOf_7 ⟨Nat.le_of_ble_eq_true rfl, Nat.le_of_ble_eq_true rfl⟩) rfl [3] [1, 2, 3, 0] [1, 2, 3, 0] (fun u1 => [xO aX 3 [.ref aL, .ref aC, .ref aT], xO aL 1 [.int pl, .ref aEx, .ref aSh, .ref aLd, .ref aTw, .ref aLe, .ref aOp, .ref aFa], xAI G aEx 10 ex, xAI G aLe 40 le]) (fun _ => rfl) rfl rfl rfl rfl rfl rfl (fun E ce q9 H locs hpx hw h9 hv9 hc9 => xout hc hex hw ⟨Eq.trans (congrArg Prod.fst (show FX3_milesOf pl ex le q x = _ from (xt2x hpx))) hpx.1, hpx.2⟩ h9 hv9 hc9 ⟨Nat.le_of_ble_eq_true rfl, Nat.le_of_ble_eq_true rfl⟩) (fun r2 u1 H locs hp3 hw => ?_)
  refine xcall_i (isC := [1, 3]) hc hw (xrunV (n := 1) (As := [.int r2]) (rest := []) hc hw [1, 3] (metX1_milesAt l G _ aL aEx aSh aLd aTw aLe aOp aFa pl le r2) gX3_milesOf_X1_milesAt rfl (by decide +kernel) ⟨Nat.le_of_ble_eq_true rfl, Nat.le_of_ble_eq_true rfl⟩ 1 rfl rfl rfl rfl rfl rfl hl.1 (Nat.le_of_ble_eq_true rfl) dX3_milesOf_10 ⟨Nat.le_of_ble_eq_true rfl, Nat.le_of_ble_eq_true rfl⟩) rfl [0, 2] [0, 2, 1, 3] (fun u5 => [xO aX 3 [.ref aL, .ref aC, .ref aT], xO aL 1 [.int pl, .ref aEx, .ref aSh, .ref aLd, .ref aTw, .ref aLe, .ref aOp, .ref aFa], xAI G aEx 10 ex, xAI G aLe 40 le]) (fun _ => rfl) rfl rfl rfl rfl (fun r6 u5 H locs hp7 hw => ?_)
  exact vx_ret (xret_i () hc hw (xe2r (xt2 hp3 (xb hp7 rfl))) ⟨Nat.le_of_ble_eq_true rfl, Nat.le_of_ble_eq_true rfl⟩ dX3_milesOf_13)
def FX3_isOpen (pl : Int32) (ex : Nat → Int32) (op : Nat → Int32) (q : Int32) (x : Int32) : Nat × Int32 :=
  xbt2 (FX3_checkedEnd pl ex q x) 0 (fun r2 => xbind (FX1_opensAt op r2) (fun r6 => (0, r6)))
set_option maxHeartbeats 40000000 in
set_option maxRecDepth 100000 in
theorem metX3_isOpen (l : Launch) (G : xG) (hst : l.stackTraces = false) (sz : Nat) (aX : Nat) (aL : Nat) (aC : Nat) (aT : Nat) (aEx : Nat) (aSh : Nat) (aLd : Nat) (aTw : Nat) (aLe : Nat) (aOp : Nat) (aFa : Nat) (pl : Int32) (ex : Nat → Int32) (op : Nat → Int32) (q : Int32) (x : Int32) (hpl : 0 ≤ pl.toInt ∧ pl.toInt ≤ 10) : xMX l yX3_isOpen wsX3_isOpen ⟨7, 1, 6, 105⟩ G [.ref aX, .int q, .int x] [xO aX 3 [.ref aL, .ref aC, .ref aT], xO aL 1 [.int pl, .ref aEx, .ref aSh, .ref aLd, .ref aTw, .ref aLe, .ref aOp, .ref aFa], xAI G aEx 10 ex, xAZ G aOp 40 op] sz (xQi G [xO aX 3 [.ref aL, .ref aC, .ref aT], xO aL 1 [.int pl, .ref aEx, .ref aSh, .ref aLd, .ref aTw, .ref aLe, .ref aOp, .ref aFa], xAI G aEx 10 ex, xAZ G aOp 40 op] sz (fun (r : Int32) (_ : Unit) => (FX3_isOpen pl ex op q x).1 = 0 ∧ r = (FX3_isOpen pl ex op q x).2) (fun u : Unit => [xO aX 3 [.ref aL, .ref aC, .ref aT], xO aL 1 [.int pl, .ref aEx, .ref aSh, .ref aLd, .ref aTw, .ref aLe, .ref aOp, .ref aFa], xAI G aEx 10 ex, xAZ G aOp 40 op])) (fun E => (FX3_isOpen pl ex op q x).1 = xcode E ∧ xcode E ≠ 0) := by
  refine xofX (own := RX3) (cc := cX3_isOpen) (maxL := 3) (ret := (some .boolean)) rfl (by decide) rfl (Nat.le_of_ble_eq_true rfl) ?_
  intro pg en s mi below meth cd hc hex hw ls hl
  obtain ⟨hx, hb, -, hown, hts, -⟩ := id hc
  have hl : lv_has ls 3 [(0, .ref aX), (1, .int q), (2, .int x)] := hl
  refine lv_aload_n hx hb dX3_isOpen_0 rfl (lv_at hl 0 rfl) ?_
  refine xget (C := RX3) (T := TX3) (N := 3) hc hw inX3_isOpen_X3 0 rfl rfl 0 (by decide) lkX3_isOpen_f12 rfl rfl dX3_isOpen_1 ?_
  refine lv_aload_n hx hb dX3_isOpen_4 rfl (lv_at hl 0 rfl) ?_
  refine lv_iload_n hx hb dX3_isOpen_5 rfl (lv_at hl 1 rfl) ?_
  refine lv_iload_n hx hb dX3_isOpen_6 rfl (lv_at hl 2 rfl) ?_
  refine xcallX_i (isC := [0, 1, 2]) hc hw (xrunVX (n := 2) (As := [.int q, .int x]) (rest := [.ref aL]) hc hw [0, 1, 2] (metX3_checkedEnd l G hst _ aX aL aC aT aEx aSh aLd aTw aLe aOp aFa pl ex q x hpl) gX3_isOpen_X3_checkedEnd rfl (by decide +kernel) ⟨Nat.le_of_ble_eq_true rfl, Nat.le_of_ble_eq_true rfl⟩ 0 rfl rfl rfl rfl rfl rfl hl.1 (Nat.le_of_ble_eq_true rfl) dX3_isOpen_7 ⟨Nat.le_of_ble_eq_true rfl, Nat.le_of_ble_eq_true rfl⟩) rfl [3] [1, 2, 3, 0] [1, 2, 3, 0] (fun u1 => [xO aX 3 [.ref aL, .ref aC, .ref aT], xO aL 1 [.int pl, .ref aEx, .ref aSh, .ref aLd, .ref aTw, .ref aLe, .ref aOp, .ref aFa], xAI G aEx 10 ex, xAZ G aOp 40 op]) (fun _ => rfl) rfl rfl rfl rfl rfl rfl (fun E ce q9 H locs hpx hw h9 hv9 hc9 => xout hc hex hw ⟨Eq.trans (congrArg Prod.fst (show FX3_isOpen pl ex op q x = _ from (xt2x hpx))) hpx.1, hpx.2⟩ h9 hv9 hc9 ⟨Nat.le_of_ble_eq_true rfl, Nat.le_of_ble_eq_true rfl⟩) (fun r2 u1 H locs hp3 hw => ?_)
  refine xcall_i (isC := [1, 3]) hc hw (xrunV (n := 1) (As := [.int r2]) (rest := []) hc hw [1, 3] (metX1_opensAt l G _ aL aEx aSh aLd aTw aLe aOp aFa pl op r2) gX3_isOpen_X1_opensAt rfl (by decide +kernel) ⟨Nat.le_of_ble_eq_true rfl, Nat.le_of_ble_eq_true rfl⟩ 1 rfl rfl rfl rfl rfl rfl hl.1 (Nat.le_of_ble_eq_true rfl) dX3_isOpen_10 ⟨Nat.le_of_ble_eq_true rfl, Nat.le_of_ble_eq_true rfl⟩) rfl [0, 2] [0, 2, 1, 3] (fun u5 => [xO aX 3 [.ref aL, .ref aC, .ref aT], xO aL 1 [.int pl, .ref aEx, .ref aSh, .ref aLd, .ref aTw, .ref aLe, .ref aOp, .ref aFa], xAI G aEx 10 ex, xAZ G aOp 40 op]) (fun _ => rfl) rfl rfl rfl rfl (fun r6 u5 H locs hp7 hw => ?_)
  exact vx_ret (xret_z () hc hw (by exact FX1_opensAt_01 hp7) (xe2r (xt2 hp3 (xb hp7 rfl))) ⟨Nat.le_of_ble_eq_true rfl, Nat.le_of_ble_eq_true rfl⟩ dX3_isOpen_13)
def FX3_isTried (go : Int32) (tr : Nat → Int32) (pl : Int32) (ex : Nat → Int32) (q : Int32) (x : Int32) : Nat × Int32 :=
  xbt2 (FX3_checkedEnd pl ex q x) 0 (fun r2 => xbind (FX0_isUnderway go) (fun r6 => if r6 = 0 then ((0, 0)) else (xbind (FX0_hasTried tr r2) (fun r11 => if r11 = 0 then ((0, 0)) else ((0, 1))))))
set_option maxHeartbeats 40000000 in
set_option maxRecDepth 100000 in
theorem metX3_isTried (l : Launch) (G : xG) (hst : l.stackTraces = false) (sz : Nat) (aX : Nat) (aL : Nat) (aC : Nat) (aT : Nat) (aM : Nat) (aWy : Nat) (aTr : Nat) (aAk : Nat) (aEx : Nat) (aSh : Nat) (aLd : Nat) (aTw : Nat) (aLe : Nat) (aOp : Nat) (aFa : Nat) (po : Int32) (co : Int32) (go : Int32) (wl : Int32) (gu : Int32) (wk : Int32) (db : Int32) (dn : Int32) (iv : Int32) (qs : Int32) (tr : Nat → Int32) (pl : Int32) (ex : Nat → Int32) (q : Int32) (x : Int32) (hpl : 0 ≤ pl.toInt ∧ pl.toInt ≤ 10) : xMX l yX3_isTried wsX3_isTried ⟨7, 1, 6, 105⟩ G [.ref aX, .int q, .int x] [xO aX 3 [.ref aL, .ref aC, .ref aT], xO aC 0 [.ref aL, .ref aM, .int po, .int co, .int go, .ref aWy, .int wl, .ref aTr, .ref aAk, .int gu, .int wk, .int db, .int dn, .int iv, .int qs], xAZ G aTr 40 tr, xO aL 1 [.int pl, .ref aEx, .ref aSh, .ref aLd, .ref aTw, .ref aLe, .ref aOp, .ref aFa], xAI G aEx 10 ex] sz (xQi G [xO aX 3 [.ref aL, .ref aC, .ref aT], xO aC 0 [.ref aL, .ref aM, .int po, .int co, .int go, .ref aWy, .int wl, .ref aTr, .ref aAk, .int gu, .int wk, .int db, .int dn, .int iv, .int qs], xAZ G aTr 40 tr, xO aL 1 [.int pl, .ref aEx, .ref aSh, .ref aLd, .ref aTw, .ref aLe, .ref aOp, .ref aFa], xAI G aEx 10 ex] sz (fun (r : Int32) (_ : Unit) => (FX3_isTried go tr pl ex q x).1 = 0 ∧ r = (FX3_isTried go tr pl ex q x).2) (fun u : Unit => [xO aX 3 [.ref aL, .ref aC, .ref aT], xO aC 0 [.ref aL, .ref aM, .int po, .int co, .int go, .ref aWy, .int wl, .ref aTr, .ref aAk, .int gu, .int wk, .int db, .int dn, .int iv, .int qs], xAZ G aTr 40 tr, xO aL 1 [.int pl, .ref aEx, .ref aSh, .ref aLd, .ref aTw, .ref aLe, .ref aOp, .ref aFa], xAI G aEx 10 ex])) (fun E => (FX3_isTried go tr pl ex q x).1 = xcode E ∧ xcode E ≠ 0) := by
  refine xofX (own := RX3) (cc := cX3_isTried) (maxL := 4) (ret := (some .boolean)) rfl (by decide) rfl (Nat.le_of_ble_eq_true rfl) ?_
  intro pg en s mi below meth cd hc hex hw ls hl
  obtain ⟨hx, hb, -, hown, hts, -⟩ := id hc
  have hl : lv_has ls 4 [(0, .ref aX), (1, .int q), (2, .int x)] := hl
  refine lv_aload_n hx hb dX3_isTried_0 rfl (lv_at hl 0 rfl) ?_
  refine lv_iload_n hx hb dX3_isTried_1 rfl (lv_at hl 1 rfl) ?_
  refine lv_iload_n hx hb dX3_isTried_2 rfl (lv_at hl 2 rfl) ?_
  refine xcallX_i (isC := [0, 3, 4]) hc hw (xrunVX (n := 2) (As := [.int q, .int x]) (rest := []) hc hw [0, 3, 4] (metX3_checkedEnd l G hst _ aX aL aC aT aEx aSh aLd aTw aLe aOp aFa pl ex q x hpl) gX3_isTried_X3_checkedEnd rfl (by decide +kernel) ⟨Nat.le_of_ble_eq_true rfl, Nat.le_of_ble_eq_true rfl⟩ 0 rfl rfl rfl rfl rfl rfl hl.1 (Nat.le_of_ble_eq_true rfl) dX3_isTried_3 ⟨Nat.le_of_ble_eq_true rfl, Nat.le_of_ble_eq_true rfl⟩) rfl [1, 2] [2, 0, 1, 3, 4] [2, 0, 1, 3, 4] (fun u1 => [xO aX 3 [.ref aL, .ref aC, .ref aT], xO aC 0 [.ref aL, .ref aM, .int po, .int co, .int go, .ref aWy, .int wl, .ref aTr, .ref aAk, .int gu, .int wk, .int db, .int dn, .int iv, .int qs], xAZ G aTr 40 tr, xO aL 1 [.int pl, .ref aEx, .ref aSh, .ref aLd, .ref aTw, .ref aLe, .ref aOp, .ref aFa], xAI G aEx 10 ex]) (fun _ => rfl) rfl rfl rfl rfl rfl rfl (fun E ce q9 H locs hpx hw h9 hv9 hc9 => xout hc hex hw ⟨Eq.trans (congrArg Prod.fst (show FX3_isTried go tr pl ex q x = _ from (xt2x hpx))) hpx.1, hpx.2⟩ h9 hv9 hc9 ⟨Nat.le_of_ble_eq_true rfl, Nat.le_of_ble_eq_true rfl⟩) (fun r2 u1 H locs hp3 hw => ?_)
  refine lv_istore_n (lv' := [(3, .int r2), (0, .ref aX), (1, .int q), (2, .int x)]) hx hb dX3_isTried_6 rfl hl (by decide) rfl (fun ls hl => ?_)
  refine lv_aload_n hx hb dX3_isTried_7 rfl (lv_at hl 1 rfl) ?_
  refine xget (C := RX3) (T := TX3) (N := 3) hc hw inX3_isTried_X3 0 rfl rfl 1 (by decide) lkX3_isTried_f21 rfl rfl dX3_isTried_8 ?_
  refine xcall_i (isC := [1]) hc hw (xrunV (n := 0) (As := []) (rest := []) hc hw [1] (metX0_isUnderway l G _ aC aL aM aWy aTr aAk po co go wl gu wk db dn iv qs) gX3_isTried_X0_isUnderway rfl (by decide +kernel) ⟨Nat.le_of_ble_eq_true rfl, Nat.le_of_ble_eq_true rfl⟩ 1 rfl rfl rfl rfl rfl rfl hl.1 (Nat.le_of_ble_eq_true rfl) dX3_isTried_11 ⟨Nat.le_of_ble_eq_true rfl, Nat.le_of_ble_eq_true rfl⟩) rfl [0, 2, 3, 4] [0, 4, 1, 2, 3] (fun u5 => [xO aX 3 [.ref aL, .ref aC, .ref aT], xO aC 0 [.ref aL, .ref aM, .int po, .int co, .int go, .ref aWy, .int wl, .ref aTr, .ref aAk, .int gu, .int wk, .int db, .int dn, .int iv, .int qs], xAZ G aTr 40 tr, xO aL 1 [.int pl, .ref aEx, .ref aSh, .ref aLd, .ref aTw, .ref aLe, .ref aOp, .ref aFa], xAI G aEx 10 ex]) (fun _ => rfl) rfl rfl rfl rfl (fun r6 u5 H locs hp7 hw => ?_)
  refine lv_if_eq (tgt := 32) hx hb dX3_isTried_14 (by decide) (fun c_9 => ?_) (fun c_9 => ?_)
  · refine lv_iconst (v := 0) hx hb dX3_isTried_32 (by decide) ?_
    exact vx_ret (xret_z () hc hw rfl (xe2r (xt2 hp3 (xb hp7 (if_pos c_9)))) ⟨Nat.le_of_ble_eq_true rfl, Nat.le_of_ble_eq_true rfl⟩ dX3_isTried_33)
  · refine lv_aload_n hx hb dX3_isTried_17 rfl (lv_at hl 1 rfl) ?_
    refine xget (C := RX3) (T := TX3) (N := 3) hc hw inX3_isTried_X3 0 rfl rfl 1 (by decide) lkX3_isTried_f21 rfl rfl dX3_isTried_18 ?_
    refine lv_iload_n hx hb dX3_isTried_21 rfl (lv_at hl 0 rfl) ?_
    refine xcall_i (isC := [1, 2]) hc hw (xrunV (n := 1) (As := [.int r2]) (rest := []) hc hw [1, 2] (metX0_hasTried l G _ aC aL aM aWy aTr aAk po co go wl gu wk db dn iv qs tr r2) gX3_isTried_X0_hasTried rfl (by decide +kernel) ⟨Nat.le_of_ble_eq_true rfl, Nat.le_of_ble_eq_true rfl⟩ 1 rfl rfl rfl rfl rfl rfl hl.1 (Nat.le_of_ble_eq_true rfl) dX3_isTried_22 ⟨Nat.le_of_ble_eq_true rfl, Nat.le_of_ble_eq_true rfl⟩) rfl [0, 3, 4] [0, 3, 4, 1, 2] (fun u10 => [xO aX 3 [.ref aL, .ref aC, .ref aT], xO aC 0 [.ref aL, .ref aM, .int po, .int co, .int go, .ref aWy, .int wl, .ref aTr, .ref aAk, .int gu, .int wk, .int db, .int dn, .int iv, .int qs], xAZ G aTr 40 tr, xO aL 1 [.int pl, .ref aEx, .ref aSh, .ref aLd, .ref aTw, .ref aLe, .ref aOp, .ref aFa], xAI G aEx 10 ex]) (fun _ => rfl) rfl rfl rfl rfl (fun r11 u10 H locs hp12 hw => ?_)
    refine lv_if_eq (tgt := 32) hx hb dX3_isTried_25 (by decide) (fun c_14 => ?_) (fun c_14 => ?_)
    · refine lv_iconst (v := 0) hx hb dX3_isTried_32 (by decide) ?_
      exact vx_ret (xret_z () hc hw rfl (xe2r (xt2 hp3 (xb hp7 (Eq.trans (if_neg c_9) (xb hp12 (if_pos c_14)))))) ⟨Nat.le_of_ble_eq_true rfl, Nat.le_of_ble_eq_true rfl⟩ dX3_isTried_33)
    · refine lv_iconst (v := 1) hx hb dX3_isTried_28 (by decide) ?_
      refine lv_goto (tgt := 33) hx hb dX3_isTried_29 (by decide) ?_
      exact vx_ret (xret_z () hc hw rfl (xe2r (xt2 hp3 (xb hp7 (Eq.trans (if_neg c_9) (xb hp12 (if_neg c_14)))))) ⟨Nat.le_of_ble_eq_true rfl, Nat.le_of_ble_eq_true rfl⟩ dX3_isTried_33)
def FX3_remembered (mx : Nat → Int32) (ms : Nat → Int32) (pl : Int32) (g : Int32) (q : Int32) : Nat × Int32 :=
  xbt1 (FX3_checkPlace pl g) 0 (xbt1 (FX3_checkPlace pl q) 0 (xbind (FX2_exitFor mx ms g q) (fun r10 => (0, r10))))
set_option maxHeartbeats 40000000 in
set_option maxRecDepth 100000 in
theorem metX3_remembered (l : Launch) (G : xG) (hst : l.stackTraces = false) (sz : Nat) (aX : Nat) (aL : Nat) (aC : Nat) (aT : Nat) (aM : Nat) (aWy : Nat) (aTr : Nat) (aAk : Nat) (aMx : Nat) (aMs : Nat) (aEx : Nat) (aSh : Nat) (aLd : Nat) (aTw : Nat) (aLe : Nat) (aOp : Nat) (aFa : Nat) (po : Int32) (co : Int32) (go : Int32) (wl : Int32) (gu : Int32) (wk : Int32) (db : Int32) (dn : Int32) (iv : Int32) (qs : Int32) (mx : Nat → Int32) (ms : Nat → Int32) (pl : Int32) (g : Int32) (q : Int32) : xMX l yX3_remembered wsX3_remembered ⟨7, 2, 12, 103⟩ G [.ref aX, .int g, .int q] [xO aX 3 [.ref aL, .ref aC, .ref aT], xO aC 0 [.ref aL, .ref aM, .int po, .int co, .int go, .ref aWy, .int wl, .ref aTr, .ref aAk, .int gu, .int wk, .int db, .int dn, .int iv, .int qs], xO aM 2 [.ref aMx, .ref aMs], xAI G aMx 100 mx, xAI G aMs 100 ms, xO aL 1 [.int pl, .ref aEx, .ref aSh, .ref aLd, .ref aTw, .ref aLe, .ref aOp, .ref aFa]] sz (xQi G [xO aX 3 [.ref aL, .ref aC, .ref aT], xO aC 0 [.ref aL, .ref aM, .int po, .int co, .int go, .ref aWy, .int wl, .ref aTr, .ref aAk, .int gu, .int wk, .int db, .int dn, .int iv, .int qs], xO aM 2 [.ref aMx, .ref aMs], xAI G aMx 100 mx, xAI G aMs 100 ms, xO aL 1 [.int pl, .ref aEx, .ref aSh, .ref aLd, .ref aTw, .ref aLe, .ref aOp, .ref aFa]] sz (fun (r : Int32) (_ : Unit) => (FX3_remembered mx ms pl g q).1 = 0 ∧ r = (FX3_remembered mx ms pl g q).2) (fun u : Unit => [xO aX 3 [.ref aL, .ref aC, .ref aT], xO aC 0 [.ref aL, .ref aM, .int po, .int co, .int go, .ref aWy, .int wl, .ref aTr, .ref aAk, .int gu, .int wk, .int db, .int dn, .int iv, .int qs], xO aM 2 [.ref aMx, .ref aMs], xAI G aMx 100 mx, xAI G aMs 100 ms, xO aL 1 [.int pl, .ref aEx, .ref aSh, .ref aLd, .ref aTw, .ref aLe, .ref aOp, .ref aFa]])) (fun E => (FX3_remembered mx ms pl g q).1 = xcode E ∧ xcode E ≠ 0) := by
  refine xofX (own := RX3) (cc := cX3_remembered) (maxL := 3) (ret := (some .int)) rfl (by decide) rfl (Nat.le_of_ble_eq_true rfl) ?_
  intro pg en s mi below meth cd hc hex hw ls hl
  obtain ⟨hx, hb, -, hown, hts, -⟩ := id hc
  have hl : lv_has ls 3 [(0, .ref aX), (1, .int g), (2, .int q)] := hl
  refine lv_aload_n hx hb dX3_remembered_0 rfl (lv_at hl 0 rfl) ?_
  refine lv_iload_n hx hb dX3_remembered_1 rfl (lv_at hl 1 rfl) ?_
  refine xcallX_v (isC := [0, 5]) hc hw (xrunVX (n := 1) (As := [.int g]) (rest := []) hc hw [0, 5] (metX3_checkPlace l G hst _ aX aL aC aT aEx aSh aLd aTw aLe aOp aFa pl g) gX3_remembered_X3_checkPlace rfl (by decide +kernel) ⟨Nat.le_of_ble_eq_true rfl, Nat.le_of_ble_eq_true rfl⟩ 0 rfl rfl rfl rfl rfl rfl hl.1 (Nat.le_of_ble_eq_true rfl) dX3_remembered_2 ⟨Nat.le_of_ble_eq_true rfl, Nat.le_of_ble_eq_true rfl⟩) rfl [1, 2, 3, 4] [4, 0, 1, 2, 3, 5] [4, 0, 1, 2, 3, 5] (fun u1 => [xO aX 3 [.ref aL, .ref aC, .ref aT], xO aC 0 [.ref aL, .ref aM, .int po, .int co, .int go, .ref aWy, .int wl, .ref aTr, .ref aAk, .int gu, .int wk, .int db, .int dn, .int iv, .int qs], xO aM 2 [.ref aMx, .ref aMs], xAI G aMx 100 mx, xAI G aMs 100 ms, xO aL 1 [.int pl, .ref aEx, .ref aSh, .ref aLd, .ref aTw, .ref aLe, .ref aOp, .ref aFa]]) (fun _ => rfl) rfl rfl rfl rfl rfl rfl (fun E ce q9 H locs hpx hw h9 hv9 hc9 => xout hc hex hw ⟨Eq.trans (congrArg Prod.fst (show FX3_remembered mx ms pl g q = _ from (xt1x hpx))) hpx.1, hpx.2⟩ h9 hv9 hc9 ⟨Nat.le_of_ble_eq_true rfl, Nat.le_of_ble_eq_true rfl⟩) (fun u1 H locs hp3 hw => ?_)
  refine lv_aload_n hx hb dX3_remembered_5 rfl (lv_at hl 0 rfl) ?_
  refine lv_iload_n hx hb dX3_remembered_6 rfl (lv_at hl 2 rfl) ?_
  refine xcallX_v (isC := [0, 5]) hc hw (xrunVX (n := 1) (As := [.int q]) (rest := []) hc hw [0, 5] (metX3_checkPlace l G hst _ aX aL aC aT aEx aSh aLd aTw aLe aOp aFa pl q) gX3_remembered_X3_checkPlace rfl (by decide +kernel) ⟨Nat.le_of_ble_eq_true rfl, Nat.le_of_ble_eq_true rfl⟩ 0 rfl rfl rfl rfl rfl rfl hl.1 (Nat.le_of_ble_eq_true rfl) dX3_remembered_7 ⟨Nat.le_of_ble_eq_true rfl, Nat.le_of_ble_eq_true rfl⟩) rfl [1, 2, 3, 4] [4, 0, 1, 2, 3, 5] [4, 0, 1, 2, 3, 5] (fun u5 => [xO aX 3 [.ref aL, .ref aC, .ref aT], xO aC 0 [.ref aL, .ref aM, .int po, .int co, .int go, .ref aWy, .int wl, .ref aTr, .ref aAk, .int gu, .int wk, .int db, .int dn, .int iv, .int qs], xO aM 2 [.ref aMx, .ref aMs], xAI G aMx 100 mx, xAI G aMs 100 ms, xO aL 1 [.int pl, .ref aEx, .ref aSh, .ref aLd, .ref aTw, .ref aLe, .ref aOp, .ref aFa]]) (fun _ => rfl) rfl rfl rfl rfl rfl rfl (fun E ce q9 H locs hpx hw h9 hv9 hc9 => xout hc hex hw ⟨Eq.trans (congrArg Prod.fst (show FX3_remembered mx ms pl g q = _ from (xt1 hp3 (xt1x hpx)))) hpx.1, hpx.2⟩ h9 hv9 hc9 ⟨Nat.le_of_ble_eq_true rfl, Nat.le_of_ble_eq_true rfl⟩) (fun u5 H locs hp7 hw => ?_)
  refine lv_aload_n hx hb dX3_remembered_10 rfl (lv_at hl 0 rfl) ?_
  refine xget (C := RX3) (T := TX3) (N := 3) hc hw inX3_remembered_X3 0 rfl rfl 1 (by decide) lkX3_remembered_f21 rfl rfl dX3_remembered_11 ?_
  refine xgetN (C := RX0) (T := TX0) (N := 15) hc hw inX3_remembered_X0 1 rfl rfl 1 (by decide) nkX3_109 rfl rfl dX3_remembered_14 ?_
  refine lv_iload_n hx hb dX3_remembered_17 rfl (lv_at hl 1 rfl) ?_
  refine lv_iload_n hx hb dX3_remembered_18 rfl (lv_at hl 2 rfl) ?_
  refine xcall_i (isC := [2, 3, 4]) hc hw (xrunV (n := 2) (As := [.int g, .int q]) (rest := []) hc hw [2, 3, 4] (metX2_exitFor l G _ aM aMx aMs mx ms g q) gX3_remembered_X2_exitFor rfl (by decide +kernel) ⟨Nat.le_of_ble_eq_true rfl, Nat.le_of_ble_eq_true rfl⟩ 2 rfl rfl rfl rfl rfl rfl hl.1 (Nat.le_of_ble_eq_true rfl) dX3_remembered_19 ⟨Nat.le_of_ble_eq_true rfl, Nat.le_of_ble_eq_true rfl⟩) rfl [0, 1, 5] [0, 1, 3, 4, 5, 2] (fun u9 => [xO aX 3 [.ref aL, .ref aC, .ref aT], xO aC 0 [.ref aL, .ref aM, .int po, .int co, .int go, .ref aWy, .int wl, .ref aTr, .ref aAk, .int gu, .int wk, .int db, .int dn, .int iv, .int qs], xO aM 2 [.ref aMx, .ref aMs], xAI G aMx 100 mx, xAI G aMs 100 ms, xO aL 1 [.int pl, .ref aEx, .ref aSh, .ref aLd, .ref aTw, .ref aLe, .ref aOp, .ref aFa]]) (fun _ => rfl) rfl rfl rfl rfl (fun r10 u9 H locs hp11 hw => ?_)
  exact vx_ret (xret_i () hc hw (xe2r (xt1 hp3 (xt1 hp7 (xb hp11 rfl)))) ⟨Nat.le_of_ble_eq_true rfl, Nat.le_of_ble_eq_true rfl⟩ dX3_remembered_22)
def FX3_strength (ms : Nat → Int32) (pl : Int32) (g : Int32) (q : Int32) : Nat × Int32 :=
  xbt1 (FX3_checkPlace pl g) 0 (xbt1 (FX3_checkPlace pl q) 0 (xbind (FX2_strengthFor ms g q) (fun r10 => (0, r10))))
set_option maxHeartbeats 40000000 in
set_option maxRecDepth 100000 in
theorem metX3_strength (l : Launch) (G : xG) (hst : l.stackTraces = false) (sz : Nat) (aX : Nat) (aL : Nat) (aC : Nat) (aT : Nat) (aM : Nat) (aWy : Nat) (aTr : Nat) (aAk : Nat) (aMx : Nat) (aMs : Nat) (aEx : Nat) (aSh : Nat) (aLd : Nat) (aTw : Nat) (aLe : Nat) (aOp : Nat) (aFa : Nat) (po : Int32) (co : Int32) (go : Int32) (wl : Int32) (gu : Int32) (wk : Int32) (db : Int32) (dn : Int32) (iv : Int32) (qs : Int32) (ms : Nat → Int32) (pl : Int32) (g : Int32) (q : Int32) : xMX l yX3_strength wsX3_strength ⟨7, 2, 12, 103⟩ G [.ref aX, .int g, .int q] [xO aX 3 [.ref aL, .ref aC, .ref aT], xO aC 0 [.ref aL, .ref aM, .int po, .int co, .int go, .ref aWy, .int wl, .ref aTr, .ref aAk, .int gu, .int wk, .int db, .int dn, .int iv, .int qs], xO aM 2 [.ref aMx, .ref aMs], xAI G aMs 100 ms, xO aL 1 [.int pl, .ref aEx, .ref aSh, .ref aLd, .ref aTw, .ref aLe, .ref aOp, .ref aFa]] sz (xQi G [xO aX 3 [.ref aL, .ref aC, .ref aT], xO aC 0 [.ref aL, .ref aM, .int po, .int co, .int go, .ref aWy, .int wl, .ref aTr, .ref aAk, .int gu, .int wk, .int db, .int dn, .int iv, .int qs], xO aM 2 [.ref aMx, .ref aMs], xAI G aMs 100 ms, xO aL 1 [.int pl, .ref aEx, .ref aSh, .ref aLd, .ref aTw, .ref aLe, .ref aOp, .ref aFa]] sz (fun (r : Int32) (_ : Unit) => (FX3_strength ms pl g q).1 = 0 ∧ r = (FX3_strength ms pl g q).2) (fun u : Unit => [xO aX 3 [.ref aL, .ref aC, .ref aT], xO aC 0 [.ref aL, .ref aM, .int po, .int co, .int go, .ref aWy, .int wl, .ref aTr, .ref aAk, .int gu, .int wk, .int db, .int dn, .int iv, .int qs], xO aM 2 [.ref aMx, .ref aMs], xAI G aMs 100 ms, xO aL 1 [.int pl, .ref aEx, .ref aSh, .ref aLd, .ref aTw, .ref aLe, .ref aOp, .ref aFa]])) (fun E => (FX3_strength ms pl g q).1 = xcode E ∧ xcode E ≠ 0) := by
  refine xofX (own := RX3) (cc := cX3_strength) (maxL := 3) (ret := (some .int)) rfl (by decide) rfl (Nat.le_of_ble_eq_true rfl) ?_
  intro pg en s mi below meth cd hc hex hw ls hl
  obtain ⟨hx, hb, -, hown, hts, -⟩ := id hc
  have hl : lv_has ls 3 [(0, .ref aX), (1, .int g), (2, .int q)] := hl
  refine lv_aload_n hx hb dX3_strength_0 rfl (lv_at hl 0 rfl) ?_
  refine lv_iload_n hx hb dX3_strength_1 rfl (lv_at hl 1 rfl) ?_
  refine xcallX_v (isC := [0, 4]) hc hw (xrunVX (n := 1) (As := [.int g]) (rest := []) hc hw [0, 4] (metX3_checkPlace l G hst _ aX aL aC aT aEx aSh aLd aTw aLe aOp aFa pl g) gX3_strength_X3_checkPlace rfl (by decide +kernel) ⟨Nat.le_of_ble_eq_true rfl, Nat.le_of_ble_eq_true rfl⟩ 0 rfl rfl rfl rfl rfl rfl hl.1 (Nat.le_of_ble_eq_true rfl) dX3_strength_2 ⟨Nat.le_of_ble_eq_true rfl, Nat.le_of_ble_eq_true rfl⟩) rfl [1, 2, 3] [3, 0, 1, 2, 4] [3, 0, 1, 2, 4] (fun u1 => [xO aX 3 [.ref aL, .ref aC, .ref aT], xO aC 0 [.ref aL, .ref aM, .int po, .int co, .int go, .ref aWy, .int wl, .ref aTr, .ref aAk, .int gu, .int wk, .int db, .int dn, .int iv, .int qs], xO aM 2 [.ref aMx, .ref aMs], xAI G aMs 100 ms, xO aL 1 [.int pl, .ref aEx, .ref aSh, .ref aLd, .ref aTw, .ref aLe, .ref aOp, .ref aFa]]) (fun _ => rfl) rfl rfl rfl rfl rfl rfl (fun E ce q9 H locs hpx hw h9 hv9 hc9 => xout hc hex hw ⟨Eq.trans (congrArg Prod.fst (show FX3_strength ms pl g q = _ from (xt1x hpx))) hpx.1, hpx.2⟩ h9 hv9 hc9 ⟨Nat.le_of_ble_eq_true rfl, Nat.le_of_ble_eq_true rfl⟩) (fun u1 H locs hp3 hw => ?_)
  refine lv_aload_n hx hb dX3_strength_5 rfl (lv_at hl 0 rfl) ?_
  refine lv_iload_n hx hb dX3_strength_6 rfl (lv_at hl 2 rfl) ?_
  refine xcallX_v (isC := [0, 4]) hc hw (xrunVX (n := 1) (As := [.int q]) (rest := []) hc hw [0, 4] (metX3_checkPlace l G hst _ aX aL aC aT aEx aSh aLd aTw aLe aOp aFa pl q) gX3_strength_X3_checkPlace rfl (by decide +kernel) ⟨Nat.le_of_ble_eq_true rfl, Nat.le_of_ble_eq_true rfl⟩ 0 rfl rfl rfl rfl rfl rfl hl.1 (Nat.le_of_ble_eq_true rfl) dX3_strength_7 ⟨Nat.le_of_ble_eq_true rfl, Nat.le_of_ble_eq_true rfl⟩) rfl [1, 2, 3] [3, 0, 1, 2, 4] [3, 0, 1, 2, 4] (fun u5 => [xO aX 3 [.ref aL, .ref aC, .ref aT], xO aC 0 [.ref aL, .ref aM, .int po, .int co, .int go, .ref aWy, .int wl, .ref aTr, .ref aAk, .int gu, .int wk, .int db, .int dn, .int iv, .int qs], xO aM 2 [.ref aMx, .ref aMs], xAI G aMs 100 ms, xO aL 1 [.int pl, .ref aEx, .ref aSh, .ref aLd, .ref aTw, .ref aLe, .ref aOp, .ref aFa]]) (fun _ => rfl) rfl rfl rfl rfl rfl rfl (fun E ce q9 H locs hpx hw h9 hv9 hc9 => xout hc hex hw ⟨Eq.trans (congrArg Prod.fst (show FX3_strength ms pl g q = _ from (xt1 hp3 (xt1x hpx)))) hpx.1, hpx.2⟩ h9 hv9 hc9 ⟨Nat.le_of_ble_eq_true rfl, Nat.le_of_ble_eq_true rfl⟩) (fun u5 H locs hp7 hw => ?_)
  refine lv_aload_n hx hb dX3_strength_10 rfl (lv_at hl 0 rfl) ?_
  refine xget (C := RX3) (T := TX3) (N := 3) hc hw inX3_strength_X3 0 rfl rfl 1 (by decide) lkX3_strength_f21 rfl rfl dX3_strength_11 ?_
  refine xgetN (C := RX0) (T := TX0) (N := 15) hc hw inX3_strength_X0 1 rfl rfl 1 (by decide) nkX3_109 rfl rfl dX3_strength_14 ?_
  refine lv_iload_n hx hb dX3_strength_17 rfl (lv_at hl 1 rfl) ?_
  refine lv_iload_n hx hb dX3_strength_18 rfl (lv_at hl 2 rfl) ?_
  refine xcall_i (isC := [2, 3]) hc hw (xrunV (n := 2) (As := [.int g, .int q]) (rest := []) hc hw [2, 3] (metX2_strengthFor l G _ aM aMx aMs ms g q) gX3_strength_X2_strengthFor rfl (by decide +kernel) ⟨Nat.le_of_ble_eq_true rfl, Nat.le_of_ble_eq_true rfl⟩ 2 rfl rfl rfl rfl rfl rfl hl.1 (Nat.le_of_ble_eq_true rfl) dX3_strength_19 ⟨Nat.le_of_ble_eq_true rfl, Nat.le_of_ble_eq_true rfl⟩) rfl [0, 1, 4] [0, 1, 3, 4, 2] (fun u9 => [xO aX 3 [.ref aL, .ref aC, .ref aT], xO aC 0 [.ref aL, .ref aM, .int po, .int co, .int go, .ref aWy, .int wl, .ref aTr, .ref aAk, .int gu, .int wk, .int db, .int dn, .int iv, .int qs], xO aM 2 [.ref aMx, .ref aMs], xAI G aMs 100 ms, xO aL 1 [.int pl, .ref aEx, .ref aSh, .ref aLd, .ref aTw, .ref aLe, .ref aOp, .ref aFa]]) (fun _ => rfl) rfl rfl rfl rfl (fun r10 u9 H locs hp11 hw => ?_)
  exact vx_ret (xret_i () hc hw (xe2r (xt1 hp3 (xt1 hp7 (xb hp11 rfl)))) ⟨Nat.le_of_ble_eq_true rfl, Nat.le_of_ble_eq_true rfl⟩ dX3_strength_22)
def FX3_exitsOfok (ex : Nat → Int32) (q : Int32) : Int32 :=
  ex q.toNatClampNeg
set_option maxHeartbeats 40000000 in
set_option maxRecDepth 100000 in
theorem metX3_exitsOfok (l : Launch) (G : xG) (sz : Nat) (aX : Nat) (aL : Nat) (aC : Nat) (aT : Nat) (aEx : Nat) (aSh : Nat) (aLd : Nat) (aTw : Nat) (aLe : Nat) (aOp : Nat) (aFa : Nat) (pl : Int32) (ex : Nat → Int32) (q : Int32) (hpl : 0 ≤ pl.toInt ∧ pl.toInt ≤ 10) (hok : ¬ FX1_isPlace pl q = 0) : xM l yX3_exitsOf wsX3_exitsOf ⟨2, 0, 0, 42⟩ G [.ref aX, .int q] [xO aX 3 [.ref aL, .ref aC, .ref aT], xO aL 1 [.int pl, .ref aEx, .ref aSh, .ref aLd, .ref aTw, .ref aLe, .ref aOp, .ref aFa], xAI G aEx 10 ex] sz (xQi G [xO aX 3 [.ref aL, .ref aC, .ref aT], xO aL 1 [.int pl, .ref aEx, .ref aSh, .ref aLd, .ref aTw, .ref aLe, .ref aOp, .ref aFa], xAI G aEx 10 ex] sz (fun (r : Int32) (_ : Unit) => r = FX3_exitsOfok ex q) (fun u : Unit => [xO aX 3 [.ref aL, .ref aC, .ref aT], xO aL 1 [.int pl, .ref aEx, .ref aSh, .ref aLd, .ref aTw, .ref aLe, .ref aOp, .ref aFa], xAI G aEx 10 ex])) := by
  refine xof (own := RX3) (cc := cX3_exitsOf) (maxL := 2) (ret := (some .int)) rfl (by decide) rfl (Nat.le_of_ble_eq_true rfl) ?_
  intro pg en s mi below meth cd hc hnm hw ls hl
  obtain ⟨hx, hb, -, hown, hts, -⟩ := id hc
  have hl : lv_has ls 2 [(0, .ref aX), (1, .int q)] := hl
  refine lv_aload_n hx hb dX3_exitsOf_0 rfl (lv_at hl 0 rfl) ?_
  refine lv_iload_n hx hb dX3_exitsOf_1 rfl (lv_at hl 1 rfl) ?_
  refine xcall_v (isC := [0, 1]) hc hw (xrunV (n := 1) (As := [.int q]) (rest := []) hc hw [0, 1] (metX3_checkPlaceok l G _ aX aL aC aT aEx aSh aLd aTw aLe aOp aFa pl q hok) gX3_exitsOf_X3_checkPlace rfl (by decide +kernel) ⟨Nat.le_of_ble_eq_true rfl, Nat.le_of_ble_eq_true rfl⟩ 0 rfl rfl rfl rfl rfl rfl hl.1 (Nat.le_of_ble_eq_true rfl) dX3_exitsOf_2 ⟨Nat.le_of_ble_eq_true rfl, Nat.le_of_ble_eq_true rfl⟩) rfl [2] [1, 2, 0] (fun u1 => [xO aX 3 [.ref aL, .ref aC, .ref aT], xO aL 1 [.int pl, .ref aEx, .ref aSh, .ref aLd, .ref aTw, .ref aLe, .ref aOp, .ref aFa], xAI G aEx 10 ex]) (fun _ => rfl) rfl rfl rfl rfl (fun u1 H locs hp3 hw => ?_)
  refine lv_aload_n hx hb dX3_exitsOf_5 rfl (lv_at hl 0 rfl) ?_
  refine xget (C := RX3) (T := TX3) (N := 3) hc hw inX3_exitsOf_X3 0 rfl rfl 0 (by decide) lkX3_exitsOf_f12 rfl rfl dX3_exitsOf_6 ?_
  refine xgetN (C := RX1) (T := TX1) (N := 8) hc hw inX3_exitsOf_X1 1 rfl rfl 1 (by decide) nkX3_119 rfl rfl dX3_exitsOf_9 ?_
  refine lv_iload_n hx hb dX3_exitsOf_12 rfl (lv_at hl 1 rfl) ?_
  refine xiald hc hw 2 rfl (xin (pX1_isPlace10 hpl rfl hok)) dX3_exitsOf_13 ?_
  exact xret_i () hc hw (Eq.symm rfl) ⟨Nat.le_of_ble_eq_true rfl, Nat.le_of_ble_eq_true rfl⟩ dX3_exitsOf_14
def FX3_hasShepherdok (sh : Nat → Int32) (q : Int32) : Int32 :=
  sh q.toNatClampNeg
set_option maxHeartbeats 40000000 in
set_option maxRecDepth 100000 in
theorem metX3_hasShepherdok (l : Launch) (G : xG) (sz : Nat) (aX : Nat) (aL : Nat) (aC : Nat) (aT : Nat) (aEx : Nat) (aSh : Nat) (aLd : Nat) (aTw : Nat) (aLe : Nat) (aOp : Nat) (aFa : Nat) (pl : Int32) (sh : Nat → Int32) (q : Int32) (hpl : 0 ≤ pl.toInt ∧ pl.toInt ≤ 10) (hsh : ∀ k, k < 10 → sh k = 0 ∨ sh k = 1) (hok : ¬ FX1_isPlace pl q = 0) : xM l yX3_hasShepherd wsX3_hasShepherd ⟨2, 0, 0, 42⟩ G [.ref aX, .int q] [xO aX 3 [.ref aL, .ref aC, .ref aT], xO aL 1 [.int pl, .ref aEx, .ref aSh, .ref aLd, .ref aTw, .ref aLe, .ref aOp, .ref aFa], xAZ G aSh 10 sh] sz (xQi G [xO aX 3 [.ref aL, .ref aC, .ref aT], xO aL 1 [.int pl, .ref aEx, .ref aSh, .ref aLd, .ref aTw, .ref aLe, .ref aOp, .ref aFa], xAZ G aSh 10 sh] sz (fun (r : Int32) (_ : Unit) => r = FX3_hasShepherdok sh q) (fun u : Unit => [xO aX 3 [.ref aL, .ref aC, .ref aT], xO aL 1 [.int pl, .ref aEx, .ref aSh, .ref aLd, .ref aTw, .ref aLe, .ref aOp, .ref aFa], xAZ G aSh 10 sh])) := by
  refine xof (own := RX3) (cc := cX3_hasShepherd) (maxL := 2) (ret := (some .boolean)) rfl (by decide) rfl (Nat.le_of_ble_eq_true rfl) ?_
  intro pg en s mi below meth cd hc hnm hw ls hl
  obtain ⟨hx, hb, -, hown, hts, -⟩ := id hc
  have hl : lv_has ls 2 [(0, .ref aX), (1, .int q)] := hl
  refine lv_aload_n hx hb dX3_hasShepherd_0 rfl (lv_at hl 0 rfl) ?_
  refine lv_iload_n hx hb dX3_hasShepherd_1 rfl (lv_at hl 1 rfl) ?_
  refine xcall_v (isC := [0, 1]) hc hw (xrunV (n := 1) (As := [.int q]) (rest := []) hc hw [0, 1] (metX3_checkPlaceok l G _ aX aL aC aT aEx aSh aLd aTw aLe aOp aFa pl q hok) gX3_hasShepherd_X3_checkPlace rfl (by decide +kernel) ⟨Nat.le_of_ble_eq_true rfl, Nat.le_of_ble_eq_true rfl⟩ 0 rfl rfl rfl rfl rfl rfl hl.1 (Nat.le_of_ble_eq_true rfl) dX3_hasShepherd_2 ⟨Nat.le_of_ble_eq_true rfl, Nat.le_of_ble_eq_true rfl⟩) rfl [2] [1, 2, 0] (fun u1 => [xO aX 3 [.ref aL, .ref aC, .ref aT], xO aL 1 [.int pl, .ref aEx, .ref aSh, .ref aLd, .ref aTw, .ref aLe, .ref aOp, .ref aFa], xAZ G aSh 10 sh]) (fun _ => rfl) rfl rfl rfl rfl (fun u1 H locs hp3 hw => ?_)
  refine lv_aload_n hx hb dX3_hasShepherd_5 rfl (lv_at hl 0 rfl) ?_
  refine xget (C := RX3) (T := TX3) (N := 3) hc hw inX3_hasShepherd_X3 0 rfl rfl 0 (by decide) lkX3_hasShepherd_f12 rfl rfl dX3_hasShepherd_6 ?_
  refine xgetN (C := RX1) (T := TX1) (N := 8) hc hw inX3_hasShepherd_X1 1 rfl rfl 2 (by decide) nkX3_69 rfl rfl dX3_hasShepherd_9 ?_
  refine lv_iload_n hx hb dX3_hasShepherd_12 rfl (lv_at hl 1 rfl) ?_
  refine xzald hc hw 2 rfl (xin (pX1_isPlace10 hpl rfl hok)) dX3_hasShepherd_13 ?_
  exact xret_z () hc hw (by exact xz01 (hsh _ (xcl (pX1_isPlace10 hpl rfl hok)))) (Eq.symm rfl) ⟨Nat.le_of_ble_eq_true rfl, Nat.le_of_ble_eq_true rfl⟩ dX3_hasShepherd_14
def FX3_leadsTook (pl : Int32) (ex : Nat → Int32) (ld : Nat → Int32) (q : Int32) (x : Int32) : Int32 :=
  xbind (FX3_checkedEndok pl ex q x) (fun r2 => xbind (FX1_beyond ld r2) (fun r6 => r6))
set_option maxHeartbeats 40000000 in
set_option maxRecDepth 100000 in
theorem metX3_leadsTook (l : Launch) (G : xG) (sz : Nat) (aX : Nat) (aL : Nat) (aC : Nat) (aT : Nat) (aEx : Nat) (aSh : Nat) (aLd : Nat) (aTw : Nat) (aLe : Nat) (aOp : Nat) (aFa : Nat) (pl : Int32) (ex : Nat → Int32) (ld : Nat → Int32) (q : Int32) (x : Int32) (hpl : 0 ≤ pl.toInt ∧ pl.toInt ≤ 10) (hok : ¬ FX1_endAt pl ex q x = (-1)) : xM l yX3_leadsTo wsX3_leadsTo ⟨3, 0, 0, 67⟩ G [.ref aX, .int q, .int x] [xO aX 3 [.ref aL, .ref aC, .ref aT], xO aL 1 [.int pl, .ref aEx, .ref aSh, .ref aLd, .ref aTw, .ref aLe, .ref aOp, .ref aFa], xAI G aEx 10 ex, xAI G aLd 40 ld] sz (xQi G [xO aX 3 [.ref aL, .ref aC, .ref aT], xO aL 1 [.int pl, .ref aEx, .ref aSh, .ref aLd, .ref aTw, .ref aLe, .ref aOp, .ref aFa], xAI G aEx 10 ex, xAI G aLd 40 ld] sz (fun (r : Int32) (_ : Unit) => r = FX3_leadsTook pl ex ld q x) (fun u : Unit => [xO aX 3 [.ref aL, .ref aC, .ref aT], xO aL 1 [.int pl, .ref aEx, .ref aSh, .ref aLd, .ref aTw, .ref aLe, .ref aOp, .ref aFa], xAI G aEx 10 ex, xAI G aLd 40 ld])) := by
  refine xof (own := RX3) (cc := cX3_leadsTo) (maxL := 3) (ret := (some .int)) rfl (by decide) rfl (Nat.le_of_ble_eq_true rfl) ?_
  intro pg en s mi below meth cd hc hnm hw ls hl
  obtain ⟨hx, hb, -, hown, hts, -⟩ := id hc
  have hl : lv_has ls 3 [(0, .ref aX), (1, .int q), (2, .int x)] := hl
  refine lv_aload_n hx hb dX3_leadsTo_0 rfl (lv_at hl 0 rfl) ?_
  refine xget (C := RX3) (T := TX3) (N := 3) hc hw inX3_leadsTo_X3 0 rfl rfl 0 (by decide) lkX3_leadsTo_f12 rfl rfl dX3_leadsTo_1 ?_
  refine lv_aload_n hx hb dX3_leadsTo_4 rfl (lv_at hl 0 rfl) ?_
  refine lv_iload_n hx hb dX3_leadsTo_5 rfl (lv_at hl 1 rfl) ?_
  refine lv_iload_n hx hb dX3_leadsTo_6 rfl (lv_at hl 2 rfl) ?_
  refine xcall_i (isC := [0, 1, 2]) hc hw (xrunV (n := 2) (As := [.int q, .int x]) (rest := [.ref aL]) hc hw [0, 1, 2] (metX3_checkedEndok l G _ aX aL aC aT aEx aSh aLd aTw aLe aOp aFa pl ex q x hpl hok) gX3_leadsTo_X3_checkedEnd rfl (by decide +kernel) ⟨Nat.le_of_ble_eq_true rfl, Nat.le_of_ble_eq_true rfl⟩ 0 rfl rfl rfl rfl rfl rfl hl.1 (Nat.le_of_ble_eq_true rfl) dX3_leadsTo_7 ⟨Nat.le_of_ble_eq_true rfl, Nat.le_of_ble_eq_true rfl⟩) rfl [3] [1, 2, 3, 0] (fun u1 => [xO aX 3 [.ref aL, .ref aC, .ref aT], xO aL 1 [.int pl, .ref aEx, .ref aSh, .ref aLd, .ref aTw, .ref aLe, .ref aOp, .ref aFa], xAI G aEx 10 ex, xAI G aLd 40 ld]) (fun _ => rfl) rfl rfl rfl rfl (fun r2 u1 H locs hp3 hw => ?_)
  refine xcall_i (isC := [1, 3]) hc hw (xrunV (n := 1) (As := [.int r2]) (rest := []) hc hw [1, 3] (metX1_beyond l G _ aL aEx aSh aLd aTw aLe aOp aFa pl ld r2) gX3_leadsTo_X1_beyond rfl (by decide +kernel) ⟨Nat.le_of_ble_eq_true rfl, Nat.le_of_ble_eq_true rfl⟩ 1 rfl rfl rfl rfl rfl rfl hl.1 (Nat.le_of_ble_eq_true rfl) dX3_leadsTo_10 ⟨Nat.le_of_ble_eq_true rfl, Nat.le_of_ble_eq_true rfl⟩) rfl [0, 2] [0, 2, 1, 3] (fun u5 => [xO aX 3 [.ref aL, .ref aC, .ref aT], xO aL 1 [.int pl, .ref aEx, .ref aSh, .ref aLd, .ref aTw, .ref aLe, .ref aOp, .ref aFa], xAI G aEx 10 ex, xAI G aLd 40 ld]) (fun _ => rfl) rfl rfl rfl rfl (fun r6 u5 H locs hp7 hw => ?_)
  exact xret_i () hc hw (Eq.symm (xb hp3 (xb hp7 rfl))) ⟨Nat.le_of_ble_eq_true rfl, Nat.le_of_ble_eq_true rfl⟩ dX3_leadsTo_13
def FX3_milesOfok (pl : Int32) (ex : Nat → Int32) (le : Nat → Int32) (q : Int32) (x : Int32) : Int32 :=
  xbind (FX3_checkedEndok pl ex q x) (fun r2 => xbind (FX1_milesAt le r2) (fun r6 => r6))
set_option maxHeartbeats 40000000 in
set_option maxRecDepth 100000 in
theorem metX3_milesOfok (l : Launch) (G : xG) (sz : Nat) (aX : Nat) (aL : Nat) (aC : Nat) (aT : Nat) (aEx : Nat) (aSh : Nat) (aLd : Nat) (aTw : Nat) (aLe : Nat) (aOp : Nat) (aFa : Nat) (pl : Int32) (ex : Nat → Int32) (le : Nat → Int32) (q : Int32) (x : Int32) (hpl : 0 ≤ pl.toInt ∧ pl.toInt ≤ 10) (hok : ¬ FX1_endAt pl ex q x = (-1)) : xM l yX3_milesOf wsX3_milesOf ⟨3, 0, 0, 67⟩ G [.ref aX, .int q, .int x] [xO aX 3 [.ref aL, .ref aC, .ref aT], xO aL 1 [.int pl, .ref aEx, .ref aSh, .ref aLd, .ref aTw, .ref aLe, .ref aOp, .ref aFa], xAI G aEx 10 ex, xAI G aLe 40 le] sz (xQi G [xO aX 3 [.ref aL, .ref aC, .ref aT], xO aL 1 [.int pl, .ref aEx, .ref aSh, .ref aLd, .ref aTw, .ref aLe, .ref aOp, .ref aFa], xAI G aEx 10 ex, xAI G aLe 40 le] sz (fun (r : Int32) (_ : Unit) => r = FX3_milesOfok pl ex le q x) (fun u : Unit => [xO aX 3 [.ref aL, .ref aC, .ref aT], xO aL 1 [.int pl, .ref aEx, .ref aSh, .ref aLd, .ref aTw, .ref aLe, .ref aOp, .ref aFa], xAI G aEx 10 ex, xAI G aLe 40 le])) := by
  refine xof (own := RX3) (cc := cX3_milesOf) (maxL := 3) (ret := (some .int)) rfl (by decide) rfl (Nat.le_of_ble_eq_true rfl) ?_
  intro pg en s mi below meth cd hc hnm hw ls hl
  obtain ⟨hx, hb, -, hown, hts, -⟩ := id hc
  have hl : lv_has ls 3 [(0, .ref aX), (1, .int q), (2, .int x)] := hl
  refine lv_aload_n hx hb dX3_milesOf_0 rfl (lv_at hl 0 rfl) ?_
  refine xget (C := RX3) (T := TX3) (N := 3) hc hw inX3_milesOf_X3 0 rfl rfl 0 (by decide) lkX3_milesOf_f12 rfl rfl dX3_milesOf_1 ?_
  refine lv_aload_n hx hb dX3_milesOf_4 rfl (lv_at hl 0 rfl) ?_
  refine lv_iload_n hx hb dX3_milesOf_5 rfl (lv_at hl 1 rfl) ?_
  refine lv_iload_n hx hb dX3_milesOf_6 rfl (lv_at hl 2 rfl) ?_
  refine xcall_i (isC := [0, 1, 2]) hc hw (xrunV (n := 2) (As := [.int q, .int x]) (rest := [.ref aL]) hc hw [0, 1, 2] (metX3_checkedEndok l G _ aX aL aC aT aEx aSh aLd aTw aLe aOp aFa pl ex q x hpl hok) gX3_milesOf_X3_checkedEnd rfl (by decide +kernel) ⟨Nat.le_of_ble_eq_true rfl, Nat.le_of_ble_eq_true rfl⟩ 0 rfl rfl rfl rfl rfl rfl hl.1 (Nat.le_of_ble_eq_true rfl) dX3_milesOf_7 ⟨Nat.le_of_ble_eq_true rfl, Nat.le_of_ble_eq_true rfl⟩) rfl [3] [1, 2, 3, 0] (fun u1 => [xO aX 3 [.ref aL, .ref aC, .ref aT], xO aL 1 [.int pl, .ref aEx, .ref aSh, .ref aLd, .ref aTw, .ref aLe, .ref aOp, .ref aFa], xAI G aEx 10 ex, xAI G aLe 40 le]) (fun _ => rfl) rfl rfl rfl rfl (fun r2 u1 H locs hp3 hw => ?_)
  refine xcall_i (isC := [1, 3]) hc hw (xrunV (n := 1) (As := [.int r2]) (rest := []) hc hw [1, 3] (metX1_milesAt l G _ aL aEx aSh aLd aTw aLe aOp aFa pl le r2) gX3_milesOf_X1_milesAt rfl (by decide +kernel) ⟨Nat.le_of_ble_eq_true rfl, Nat.le_of_ble_eq_true rfl⟩ 1 rfl rfl rfl rfl rfl rfl hl.1 (Nat.le_of_ble_eq_true rfl) dX3_milesOf_10 ⟨Nat.le_of_ble_eq_true rfl, Nat.le_of_ble_eq_true rfl⟩) rfl [0, 2] [0, 2, 1, 3] (fun u5 => [xO aX 3 [.ref aL, .ref aC, .ref aT], xO aL 1 [.int pl, .ref aEx, .ref aSh, .ref aLd, .ref aTw, .ref aLe, .ref aOp, .ref aFa], xAI G aEx 10 ex, xAI G aLe 40 le]) (fun _ => rfl) rfl rfl rfl rfl (fun r6 u5 H locs hp7 hw => ?_)
  exact xret_i () hc hw (Eq.symm (xb hp3 (xb hp7 rfl))) ⟨Nat.le_of_ble_eq_true rfl, Nat.le_of_ble_eq_true rfl⟩ dX3_milesOf_13
def FX3_isOpenok (pl : Int32) (ex : Nat → Int32) (op : Nat → Int32) (q : Int32) (x : Int32) : Int32 :=
  xbind (FX3_checkedEndok pl ex q x) (fun r2 => xbind (FX1_opensAt op r2) (fun r6 => r6))
set_option maxHeartbeats 40000000 in
set_option maxRecDepth 100000 in
theorem metX3_isOpenok (l : Launch) (G : xG) (sz : Nat) (aX : Nat) (aL : Nat) (aC : Nat) (aT : Nat) (aEx : Nat) (aSh : Nat) (aLd : Nat) (aTw : Nat) (aLe : Nat) (aOp : Nat) (aFa : Nat) (pl : Int32) (ex : Nat → Int32) (op : Nat → Int32) (q : Int32) (x : Int32) (hpl : 0 ≤ pl.toInt ∧ pl.toInt ≤ 10) (hok : ¬ FX1_endAt pl ex q x = (-1)) : xM l yX3_isOpen wsX3_isOpen ⟨3, 0, 0, 67⟩ G [.ref aX, .int q, .int x] [xO aX 3 [.ref aL, .ref aC, .ref aT], xO aL 1 [.int pl, .ref aEx, .ref aSh, .ref aLd, .ref aTw, .ref aLe, .ref aOp, .ref aFa], xAI G aEx 10 ex, xAZ G aOp 40 op] sz (xQi G [xO aX 3 [.ref aL, .ref aC, .ref aT], xO aL 1 [.int pl, .ref aEx, .ref aSh, .ref aLd, .ref aTw, .ref aLe, .ref aOp, .ref aFa], xAI G aEx 10 ex, xAZ G aOp 40 op] sz (fun (r : Int32) (_ : Unit) => r = FX3_isOpenok pl ex op q x) (fun u : Unit => [xO aX 3 [.ref aL, .ref aC, .ref aT], xO aL 1 [.int pl, .ref aEx, .ref aSh, .ref aLd, .ref aTw, .ref aLe, .ref aOp, .ref aFa], xAI G aEx 10 ex, xAZ G aOp 40 op])) := by
  refine xof (own := RX3) (cc := cX3_isOpen) (maxL := 3) (ret := (some .boolean)) rfl (by decide) rfl (Nat.le_of_ble_eq_true rfl) ?_
  intro pg en s mi below meth cd hc hnm hw ls hl
  obtain ⟨hx, hb, -, hown, hts, -⟩ := id hc
  have hl : lv_has ls 3 [(0, .ref aX), (1, .int q), (2, .int x)] := hl
  refine lv_aload_n hx hb dX3_isOpen_0 rfl (lv_at hl 0 rfl) ?_
  refine xget (C := RX3) (T := TX3) (N := 3) hc hw inX3_isOpen_X3 0 rfl rfl 0 (by decide) lkX3_isOpen_f12 rfl rfl dX3_isOpen_1 ?_
  refine lv_aload_n hx hb dX3_isOpen_4 rfl (lv_at hl 0 rfl) ?_
  refine lv_iload_n hx hb dX3_isOpen_5 rfl (lv_at hl 1 rfl) ?_
  refine lv_iload_n hx hb dX3_isOpen_6 rfl (lv_at hl 2 rfl) ?_
  refine xcall_i (isC := [0, 1, 2]) hc hw (xrunV (n := 2) (As := [.int q, .int x]) (rest := [.ref aL]) hc hw [0, 1, 2] (metX3_checkedEndok l G _ aX aL aC aT aEx aSh aLd aTw aLe aOp aFa pl ex q x hpl hok) gX3_isOpen_X3_checkedEnd rfl (by decide +kernel) ⟨Nat.le_of_ble_eq_true rfl, Nat.le_of_ble_eq_true rfl⟩ 0 rfl rfl rfl rfl rfl rfl hl.1 (Nat.le_of_ble_eq_true rfl) dX3_isOpen_7 ⟨Nat.le_of_ble_eq_true rfl, Nat.le_of_ble_eq_true rfl⟩) rfl [3] [1, 2, 3, 0] (fun u1 => [xO aX 3 [.ref aL, .ref aC, .ref aT], xO aL 1 [.int pl, .ref aEx, .ref aSh, .ref aLd, .ref aTw, .ref aLe, .ref aOp, .ref aFa], xAI G aEx 10 ex, xAZ G aOp 40 op]) (fun _ => rfl) rfl rfl rfl rfl (fun r2 u1 H locs hp3 hw => ?_)
  refine xcall_i (isC := [1, 3]) hc hw (xrunV (n := 1) (As := [.int r2]) (rest := []) hc hw [1, 3] (metX1_opensAt l G _ aL aEx aSh aLd aTw aLe aOp aFa pl op r2) gX3_isOpen_X1_opensAt rfl (by decide +kernel) ⟨Nat.le_of_ble_eq_true rfl, Nat.le_of_ble_eq_true rfl⟩ 1 rfl rfl rfl rfl rfl rfl hl.1 (Nat.le_of_ble_eq_true rfl) dX3_isOpen_10 ⟨Nat.le_of_ble_eq_true rfl, Nat.le_of_ble_eq_true rfl⟩) rfl [0, 2] [0, 2, 1, 3] (fun u5 => [xO aX 3 [.ref aL, .ref aC, .ref aT], xO aL 1 [.int pl, .ref aEx, .ref aSh, .ref aLd, .ref aTw, .ref aLe, .ref aOp, .ref aFa], xAI G aEx 10 ex, xAZ G aOp 40 op]) (fun _ => rfl) rfl rfl rfl rfl (fun r6 u5 H locs hp7 hw => ?_)
  exact xret_z () hc hw (by exact FX1_opensAt_01 hp7) (Eq.symm (xb hp3 (xb hp7 rfl))) ⟨Nat.le_of_ble_eq_true rfl, Nat.le_of_ble_eq_true rfl⟩ dX3_isOpen_13
def FX3_isTriedok (go : Int32) (tr : Nat → Int32) (pl : Int32) (ex : Nat → Int32) (q : Int32) (x : Int32) : Int32 :=
  xbind (FX3_checkedEndok pl ex q x) (fun r2 => xbind (FX0_isUnderway go) (fun r6 => if r6 = 0 then (0) else (xbind (FX0_hasTried tr r2) (fun r11 => if r11 = 0 then (0) else (1)))))
set_option maxHeartbeats 40000000 in
set_option maxRecDepth 100000 in
theorem metX3_isTriedok (l : Launch) (G : xG) (sz : Nat) (aX : Nat) (aL : Nat) (aC : Nat) (aT : Nat) (aM : Nat) (aWy : Nat) (aTr : Nat) (aAk : Nat) (aEx : Nat) (aSh : Nat) (aLd : Nat) (aTw : Nat) (aLe : Nat) (aOp : Nat) (aFa : Nat) (po : Int32) (co : Int32) (go : Int32) (wl : Int32) (gu : Int32) (wk : Int32) (db : Int32) (dn : Int32) (iv : Int32) (qs : Int32) (tr : Nat → Int32) (pl : Int32) (ex : Nat → Int32) (q : Int32) (x : Int32) (hpl : 0 ≤ pl.toInt ∧ pl.toInt ≤ 10) (hok : ¬ FX1_endAt pl ex q x = (-1)) : xM l yX3_isTried wsX3_isTried ⟨3, 0, 0, 67⟩ G [.ref aX, .int q, .int x] [xO aX 3 [.ref aL, .ref aC, .ref aT], xO aC 0 [.ref aL, .ref aM, .int po, .int co, .int go, .ref aWy, .int wl, .ref aTr, .ref aAk, .int gu, .int wk, .int db, .int dn, .int iv, .int qs], xAZ G aTr 40 tr, xO aL 1 [.int pl, .ref aEx, .ref aSh, .ref aLd, .ref aTw, .ref aLe, .ref aOp, .ref aFa], xAI G aEx 10 ex] sz (xQi G [xO aX 3 [.ref aL, .ref aC, .ref aT], xO aC 0 [.ref aL, .ref aM, .int po, .int co, .int go, .ref aWy, .int wl, .ref aTr, .ref aAk, .int gu, .int wk, .int db, .int dn, .int iv, .int qs], xAZ G aTr 40 tr, xO aL 1 [.int pl, .ref aEx, .ref aSh, .ref aLd, .ref aTw, .ref aLe, .ref aOp, .ref aFa], xAI G aEx 10 ex] sz (fun (r : Int32) (_ : Unit) => r = FX3_isTriedok go tr pl ex q x) (fun u : Unit => [xO aX 3 [.ref aL, .ref aC, .ref aT], xO aC 0 [.ref aL, .ref aM, .int po, .int co, .int go, .ref aWy, .int wl, .ref aTr, .ref aAk, .int gu, .int wk, .int db, .int dn, .int iv, .int qs], xAZ G aTr 40 tr, xO aL 1 [.int pl, .ref aEx, .ref aSh, .ref aLd, .ref aTw, .ref aLe, .ref aOp, .ref aFa], xAI G aEx 10 ex])) := by
  refine xof (own := RX3) (cc := cX3_isTried) (maxL := 4) (ret := (some .boolean)) rfl (by decide) rfl (Nat.le_of_ble_eq_true rfl) ?_
  intro pg en s mi below meth cd hc hnm hw ls hl
  obtain ⟨hx, hb, -, hown, hts, -⟩ := id hc
  have hl : lv_has ls 4 [(0, .ref aX), (1, .int q), (2, .int x)] := hl
  refine lv_aload_n hx hb dX3_isTried_0 rfl (lv_at hl 0 rfl) ?_
  refine lv_iload_n hx hb dX3_isTried_1 rfl (lv_at hl 1 rfl) ?_
  refine lv_iload_n hx hb dX3_isTried_2 rfl (lv_at hl 2 rfl) ?_
  refine xcall_i (isC := [0, 3, 4]) hc hw (xrunV (n := 2) (As := [.int q, .int x]) (rest := []) hc hw [0, 3, 4] (metX3_checkedEndok l G _ aX aL aC aT aEx aSh aLd aTw aLe aOp aFa pl ex q x hpl hok) gX3_isTried_X3_checkedEnd rfl (by decide +kernel) ⟨Nat.le_of_ble_eq_true rfl, Nat.le_of_ble_eq_true rfl⟩ 0 rfl rfl rfl rfl rfl rfl hl.1 (Nat.le_of_ble_eq_true rfl) dX3_isTried_3 ⟨Nat.le_of_ble_eq_true rfl, Nat.le_of_ble_eq_true rfl⟩) rfl [1, 2] [2, 0, 1, 3, 4] (fun u1 => [xO aX 3 [.ref aL, .ref aC, .ref aT], xO aC 0 [.ref aL, .ref aM, .int po, .int co, .int go, .ref aWy, .int wl, .ref aTr, .ref aAk, .int gu, .int wk, .int db, .int dn, .int iv, .int qs], xAZ G aTr 40 tr, xO aL 1 [.int pl, .ref aEx, .ref aSh, .ref aLd, .ref aTw, .ref aLe, .ref aOp, .ref aFa], xAI G aEx 10 ex]) (fun _ => rfl) rfl rfl rfl rfl (fun r2 u1 H locs hp3 hw => ?_)
  refine lv_istore_n (lv' := [(3, .int r2), (0, .ref aX), (1, .int q), (2, .int x)]) hx hb dX3_isTried_6 rfl hl (by decide) rfl (fun ls hl => ?_)
  refine lv_aload_n hx hb dX3_isTried_7 rfl (lv_at hl 1 rfl) ?_
  refine xget (C := RX3) (T := TX3) (N := 3) hc hw inX3_isTried_X3 0 rfl rfl 1 (by decide) lkX3_isTried_f21 rfl rfl dX3_isTried_8 ?_
  refine xcall_i (isC := [1]) hc hw (xrunV (n := 0) (As := []) (rest := []) hc hw [1] (metX0_isUnderway l G _ aC aL aM aWy aTr aAk po co go wl gu wk db dn iv qs) gX3_isTried_X0_isUnderway rfl (by decide +kernel) ⟨Nat.le_of_ble_eq_true rfl, Nat.le_of_ble_eq_true rfl⟩ 1 rfl rfl rfl rfl rfl rfl hl.1 (Nat.le_of_ble_eq_true rfl) dX3_isTried_11 ⟨Nat.le_of_ble_eq_true rfl, Nat.le_of_ble_eq_true rfl⟩) rfl [0, 2, 3, 4] [0, 4, 1, 2, 3] (fun u5 => [xO aX 3 [.ref aL, .ref aC, .ref aT], xO aC 0 [.ref aL, .ref aM, .int po, .int co, .int go, .ref aWy, .int wl, .ref aTr, .ref aAk, .int gu, .int wk, .int db, .int dn, .int iv, .int qs], xAZ G aTr 40 tr, xO aL 1 [.int pl, .ref aEx, .ref aSh, .ref aLd, .ref aTw, .ref aLe, .ref aOp, .ref aFa], xAI G aEx 10 ex]) (fun _ => rfl) rfl rfl rfl rfl (fun r6 u5 H locs hp7 hw => ?_)
  refine lv_if_eq (tgt := 32) hx hb dX3_isTried_14 (by decide) (fun c_9 => ?_) (fun c_9 => ?_)
  · refine lv_iconst (v := 0) hx hb dX3_isTried_32 (by decide) ?_
    exact xret_z () hc hw rfl (Eq.symm (xb hp3 (xb hp7 (if_pos c_9)))) ⟨Nat.le_of_ble_eq_true rfl, Nat.le_of_ble_eq_true rfl⟩ dX3_isTried_33
  · refine lv_aload_n hx hb dX3_isTried_17 rfl (lv_at hl 1 rfl) ?_
    refine xget (C := RX3) (T := TX3) (N := 3) hc hw inX3_isTried_X3 0 rfl rfl 1 (by decide) lkX3_isTried_f21 rfl rfl dX3_isTried_18 ?_
    refine lv_iload_n hx hb dX3_isTried_21 rfl (lv_at hl 0 rfl) ?_
    refine xcall_i (isC := [1, 2]) hc hw (xrunV (n := 1) (As := [.int r2]) (rest := []) hc hw [1, 2] (metX0_hasTried l G _ aC aL aM aWy aTr aAk po co go wl gu wk db dn iv qs tr r2) gX3_isTried_X0_hasTried rfl (by decide +kernel) ⟨Nat.le_of_ble_eq_true rfl, Nat.le_of_ble_eq_true rfl⟩ 1 rfl rfl rfl rfl rfl rfl hl.1 (Nat.le_of_ble_eq_true rfl) dX3_isTried_22 ⟨Nat.le_of_ble_eq_true rfl, Nat.le_of_ble_eq_true rfl⟩) rfl [0, 3, 4] [0, 3, 4, 1, 2] (fun u10 => [xO aX 3 [.ref aL, .ref aC, .ref aT], xO aC 0 [.ref aL, .ref aM, .int po, .int co, .int go, .ref aWy, .int wl, .ref aTr, .ref aAk, .int gu, .int wk, .int db, .int dn, .int iv, .int qs], xAZ G aTr 40 tr, xO aL 1 [.int pl, .ref aEx, .ref aSh, .ref aLd, .ref aTw, .ref aLe, .ref aOp, .ref aFa], xAI G aEx 10 ex]) (fun _ => rfl) rfl rfl rfl rfl (fun r11 u10 H locs hp12 hw => ?_)
    refine lv_if_eq (tgt := 32) hx hb dX3_isTried_25 (by decide) (fun c_14 => ?_) (fun c_14 => ?_)
    · refine lv_iconst (v := 0) hx hb dX3_isTried_32 (by decide) ?_
      exact xret_z () hc hw rfl (Eq.symm (xb hp3 (xb hp7 (Eq.trans (if_neg c_9) (xb hp12 (if_pos c_14)))))) ⟨Nat.le_of_ble_eq_true rfl, Nat.le_of_ble_eq_true rfl⟩ dX3_isTried_33
    · refine lv_iconst (v := 1) hx hb dX3_isTried_28 (by decide) ?_
      refine lv_goto (tgt := 33) hx hb dX3_isTried_29 (by decide) ?_
      exact xret_z () hc hw rfl (Eq.symm (xb hp3 (xb hp7 (Eq.trans (if_neg c_9) (xb hp12 (if_neg c_14)))))) ⟨Nat.le_of_ble_eq_true rfl, Nat.le_of_ble_eq_true rfl⟩ dX3_isTried_33
def FX3_rememberedok (mx : Nat → Int32) (ms : Nat → Int32) (g : Int32) (q : Int32) : Int32 :=
  xbind (FX2_exitFor mx ms g q) (fun r10 => r10)
set_option maxHeartbeats 40000000 in
set_option maxRecDepth 100000 in
theorem metX3_rememberedok (l : Launch) (G : xG) (sz : Nat) (aX : Nat) (aL : Nat) (aC : Nat) (aT : Nat) (aM : Nat) (aWy : Nat) (aTr : Nat) (aAk : Nat) (aMx : Nat) (aMs : Nat) (aEx : Nat) (aSh : Nat) (aLd : Nat) (aTw : Nat) (aLe : Nat) (aOp : Nat) (aFa : Nat) (po : Int32) (co : Int32) (go : Int32) (wl : Int32) (gu : Int32) (wk : Int32) (db : Int32) (dn : Int32) (iv : Int32) (qs : Int32) (mx : Nat → Int32) (ms : Nat → Int32) (pl : Int32) (g : Int32) (q : Int32) (hok : ¬ FX1_isPlace pl g = 0) (hok2 : ¬ FX1_isPlace pl q = 0) : xM l yX3_remembered wsX3_remembered ⟨2, 0, 0, 45⟩ G [.ref aX, .int g, .int q] [xO aX 3 [.ref aL, .ref aC, .ref aT], xO aC 0 [.ref aL, .ref aM, .int po, .int co, .int go, .ref aWy, .int wl, .ref aTr, .ref aAk, .int gu, .int wk, .int db, .int dn, .int iv, .int qs], xO aM 2 [.ref aMx, .ref aMs], xAI G aMx 100 mx, xAI G aMs 100 ms, xO aL 1 [.int pl, .ref aEx, .ref aSh, .ref aLd, .ref aTw, .ref aLe, .ref aOp, .ref aFa]] sz (xQi G [xO aX 3 [.ref aL, .ref aC, .ref aT], xO aC 0 [.ref aL, .ref aM, .int po, .int co, .int go, .ref aWy, .int wl, .ref aTr, .ref aAk, .int gu, .int wk, .int db, .int dn, .int iv, .int qs], xO aM 2 [.ref aMx, .ref aMs], xAI G aMx 100 mx, xAI G aMs 100 ms, xO aL 1 [.int pl, .ref aEx, .ref aSh, .ref aLd, .ref aTw, .ref aLe, .ref aOp, .ref aFa]] sz (fun (r : Int32) (_ : Unit) => r = FX3_rememberedok mx ms g q) (fun u : Unit => [xO aX 3 [.ref aL, .ref aC, .ref aT], xO aC 0 [.ref aL, .ref aM, .int po, .int co, .int go, .ref aWy, .int wl, .ref aTr, .ref aAk, .int gu, .int wk, .int db, .int dn, .int iv, .int qs], xO aM 2 [.ref aMx, .ref aMs], xAI G aMx 100 mx, xAI G aMs 100 ms, xO aL 1 [.int pl, .ref aEx, .ref aSh, .ref aLd, .ref aTw, .ref aLe, .ref aOp, .ref aFa]])) := by
  refine xof (own := RX3) (cc := cX3_remembered) (maxL := 3) (ret := (some .int)) rfl (by decide) rfl (Nat.le_of_ble_eq_true rfl) ?_
  intro pg en s mi below meth cd hc hnm hw ls hl
  obtain ⟨hx, hb, -, hown, hts, -⟩ := id hc
  have hl : lv_has ls 3 [(0, .ref aX), (1, .int g), (2, .int q)] := hl
  refine lv_aload_n hx hb dX3_remembered_0 rfl (lv_at hl 0 rfl) ?_
  refine lv_iload_n hx hb dX3_remembered_1 rfl (lv_at hl 1 rfl) ?_
  refine xcall_v (isC := [0, 5]) hc hw (xrunV (n := 1) (As := [.int g]) (rest := []) hc hw [0, 5] (metX3_checkPlaceok l G _ aX aL aC aT aEx aSh aLd aTw aLe aOp aFa pl g hok) gX3_remembered_X3_checkPlace rfl (by decide +kernel) ⟨Nat.le_of_ble_eq_true rfl, Nat.le_of_ble_eq_true rfl⟩ 0 rfl rfl rfl rfl rfl rfl hl.1 (Nat.le_of_ble_eq_true rfl) dX3_remembered_2 ⟨Nat.le_of_ble_eq_true rfl, Nat.le_of_ble_eq_true rfl⟩) rfl [1, 2, 3, 4] [4, 0, 1, 2, 3, 5] (fun u1 => [xO aX 3 [.ref aL, .ref aC, .ref aT], xO aC 0 [.ref aL, .ref aM, .int po, .int co, .int go, .ref aWy, .int wl, .ref aTr, .ref aAk, .int gu, .int wk, .int db, .int dn, .int iv, .int qs], xO aM 2 [.ref aMx, .ref aMs], xAI G aMx 100 mx, xAI G aMs 100 ms, xO aL 1 [.int pl, .ref aEx, .ref aSh, .ref aLd, .ref aTw, .ref aLe, .ref aOp, .ref aFa]]) (fun _ => rfl) rfl rfl rfl rfl (fun u1 H locs hp3 hw => ?_)
  refine lv_aload_n hx hb dX3_remembered_5 rfl (lv_at hl 0 rfl) ?_
  refine lv_iload_n hx hb dX3_remembered_6 rfl (lv_at hl 2 rfl) ?_
  refine xcall_v (isC := [0, 5]) hc hw (xrunV (n := 1) (As := [.int q]) (rest := []) hc hw [0, 5] (metX3_checkPlaceok l G _ aX aL aC aT aEx aSh aLd aTw aLe aOp aFa pl q hok2) gX3_remembered_X3_checkPlace rfl (by decide +kernel) ⟨Nat.le_of_ble_eq_true rfl, Nat.le_of_ble_eq_true rfl⟩ 0 rfl rfl rfl rfl rfl rfl hl.1 (Nat.le_of_ble_eq_true rfl) dX3_remembered_7 ⟨Nat.le_of_ble_eq_true rfl, Nat.le_of_ble_eq_true rfl⟩) rfl [1, 2, 3, 4] [4, 0, 1, 2, 3, 5] (fun u5 => [xO aX 3 [.ref aL, .ref aC, .ref aT], xO aC 0 [.ref aL, .ref aM, .int po, .int co, .int go, .ref aWy, .int wl, .ref aTr, .ref aAk, .int gu, .int wk, .int db, .int dn, .int iv, .int qs], xO aM 2 [.ref aMx, .ref aMs], xAI G aMx 100 mx, xAI G aMs 100 ms, xO aL 1 [.int pl, .ref aEx, .ref aSh, .ref aLd, .ref aTw, .ref aLe, .ref aOp, .ref aFa]]) (fun _ => rfl) rfl rfl rfl rfl (fun u5 H locs hp7 hw => ?_)
  refine lv_aload_n hx hb dX3_remembered_10 rfl (lv_at hl 0 rfl) ?_
  refine xget (C := RX3) (T := TX3) (N := 3) hc hw inX3_remembered_X3 0 rfl rfl 1 (by decide) lkX3_remembered_f21 rfl rfl dX3_remembered_11 ?_
  refine xgetN (C := RX0) (T := TX0) (N := 15) hc hw inX3_remembered_X0 1 rfl rfl 1 (by decide) nkX3_109 rfl rfl dX3_remembered_14 ?_
  refine lv_iload_n hx hb dX3_remembered_17 rfl (lv_at hl 1 rfl) ?_
  refine lv_iload_n hx hb dX3_remembered_18 rfl (lv_at hl 2 rfl) ?_
  refine xcall_i (isC := [2, 3, 4]) hc hw (xrunV (n := 2) (As := [.int g, .int q]) (rest := []) hc hw [2, 3, 4] (metX2_exitFor l G _ aM aMx aMs mx ms g q) gX3_remembered_X2_exitFor rfl (by decide +kernel) ⟨Nat.le_of_ble_eq_true rfl, Nat.le_of_ble_eq_true rfl⟩ 2 rfl rfl rfl rfl rfl rfl hl.1 (Nat.le_of_ble_eq_true rfl) dX3_remembered_19 ⟨Nat.le_of_ble_eq_true rfl, Nat.le_of_ble_eq_true rfl⟩) rfl [0, 1, 5] [0, 1, 3, 4, 5, 2] (fun u9 => [xO aX 3 [.ref aL, .ref aC, .ref aT], xO aC 0 [.ref aL, .ref aM, .int po, .int co, .int go, .ref aWy, .int wl, .ref aTr, .ref aAk, .int gu, .int wk, .int db, .int dn, .int iv, .int qs], xO aM 2 [.ref aMx, .ref aMs], xAI G aMx 100 mx, xAI G aMs 100 ms, xO aL 1 [.int pl, .ref aEx, .ref aSh, .ref aLd, .ref aTw, .ref aLe, .ref aOp, .ref aFa]]) (fun _ => rfl) rfl rfl rfl rfl (fun r10 u9 H locs hp11 hw => ?_)
  exact xret_i () hc hw (Eq.symm (xb hp11 rfl)) ⟨Nat.le_of_ble_eq_true rfl, Nat.le_of_ble_eq_true rfl⟩ dX3_remembered_22
def FX3_strengthok (ms : Nat → Int32) (g : Int32) (q : Int32) : Int32 :=
  xbind (FX2_strengthFor ms g q) (fun r10 => r10)
set_option maxHeartbeats 40000000 in
set_option maxRecDepth 100000 in
theorem metX3_strengthok (l : Launch) (G : xG) (sz : Nat) (aX : Nat) (aL : Nat) (aC : Nat) (aT : Nat) (aM : Nat) (aWy : Nat) (aTr : Nat) (aAk : Nat) (aMx : Nat) (aMs : Nat) (aEx : Nat) (aSh : Nat) (aLd : Nat) (aTw : Nat) (aLe : Nat) (aOp : Nat) (aFa : Nat) (po : Int32) (co : Int32) (go : Int32) (wl : Int32) (gu : Int32) (wk : Int32) (db : Int32) (dn : Int32) (iv : Int32) (qs : Int32) (ms : Nat → Int32) (pl : Int32) (g : Int32) (q : Int32) (hok : ¬ FX1_isPlace pl g = 0) (hok2 : ¬ FX1_isPlace pl q = 0) : xM l yX3_strength wsX3_strength ⟨2, 0, 0, 45⟩ G [.ref aX, .int g, .int q] [xO aX 3 [.ref aL, .ref aC, .ref aT], xO aC 0 [.ref aL, .ref aM, .int po, .int co, .int go, .ref aWy, .int wl, .ref aTr, .ref aAk, .int gu, .int wk, .int db, .int dn, .int iv, .int qs], xO aM 2 [.ref aMx, .ref aMs], xAI G aMs 100 ms, xO aL 1 [.int pl, .ref aEx, .ref aSh, .ref aLd, .ref aTw, .ref aLe, .ref aOp, .ref aFa]] sz (xQi G [xO aX 3 [.ref aL, .ref aC, .ref aT], xO aC 0 [.ref aL, .ref aM, .int po, .int co, .int go, .ref aWy, .int wl, .ref aTr, .ref aAk, .int gu, .int wk, .int db, .int dn, .int iv, .int qs], xO aM 2 [.ref aMx, .ref aMs], xAI G aMs 100 ms, xO aL 1 [.int pl, .ref aEx, .ref aSh, .ref aLd, .ref aTw, .ref aLe, .ref aOp, .ref aFa]] sz (fun (r : Int32) (_ : Unit) => r = FX3_strengthok ms g q) (fun u : Unit => [xO aX 3 [.ref aL, .ref aC, .ref aT], xO aC 0 [.ref aL, .ref aM, .int po, .int co, .int go, .ref aWy, .int wl, .ref aTr, .ref aAk, .int gu, .int wk, .int db, .int dn, .int iv, .int qs], xO aM 2 [.ref aMx, .ref aMs], xAI G aMs 100 ms, xO aL 1 [.int pl, .ref aEx, .ref aSh, .ref aLd, .ref aTw, .ref aLe, .ref aOp, .ref aFa]])) := by
  refine xof (own := RX3) (cc := cX3_strength) (maxL := 3) (ret := (some .int)) rfl (by decide) rfl (Nat.le_of_ble_eq_true rfl) ?_
  intro pg en s mi below meth cd hc hnm hw ls hl
  obtain ⟨hx, hb, -, hown, hts, -⟩ := id hc
  have hl : lv_has ls 3 [(0, .ref aX), (1, .int g), (2, .int q)] := hl
  refine lv_aload_n hx hb dX3_strength_0 rfl (lv_at hl 0 rfl) ?_
  refine lv_iload_n hx hb dX3_strength_1 rfl (lv_at hl 1 rfl) ?_
  refine xcall_v (isC := [0, 4]) hc hw (xrunV (n := 1) (As := [.int g]) (rest := []) hc hw [0, 4] (metX3_checkPlaceok l G _ aX aL aC aT aEx aSh aLd aTw aLe aOp aFa pl g hok) gX3_strength_X3_checkPlace rfl (by decide +kernel) ⟨Nat.le_of_ble_eq_true rfl, Nat.le_of_ble_eq_true rfl⟩ 0 rfl rfl rfl rfl rfl rfl hl.1 (Nat.le_of_ble_eq_true rfl) dX3_strength_2 ⟨Nat.le_of_ble_eq_true rfl, Nat.le_of_ble_eq_true rfl⟩) rfl [1, 2, 3] [3, 0, 1, 2, 4] (fun u1 => [xO aX 3 [.ref aL, .ref aC, .ref aT], xO aC 0 [.ref aL, .ref aM, .int po, .int co, .int go, .ref aWy, .int wl, .ref aTr, .ref aAk, .int gu, .int wk, .int db, .int dn, .int iv, .int qs], xO aM 2 [.ref aMx, .ref aMs], xAI G aMs 100 ms, xO aL 1 [.int pl, .ref aEx, .ref aSh, .ref aLd, .ref aTw, .ref aLe, .ref aOp, .ref aFa]]) (fun _ => rfl) rfl rfl rfl rfl (fun u1 H locs hp3 hw => ?_)
  refine lv_aload_n hx hb dX3_strength_5 rfl (lv_at hl 0 rfl) ?_
  refine lv_iload_n hx hb dX3_strength_6 rfl (lv_at hl 2 rfl) ?_
  refine xcall_v (isC := [0, 4]) hc hw (xrunV (n := 1) (As := [.int q]) (rest := []) hc hw [0, 4] (metX3_checkPlaceok l G _ aX aL aC aT aEx aSh aLd aTw aLe aOp aFa pl q hok2) gX3_strength_X3_checkPlace rfl (by decide +kernel) ⟨Nat.le_of_ble_eq_true rfl, Nat.le_of_ble_eq_true rfl⟩ 0 rfl rfl rfl rfl rfl rfl hl.1 (Nat.le_of_ble_eq_true rfl) dX3_strength_7 ⟨Nat.le_of_ble_eq_true rfl, Nat.le_of_ble_eq_true rfl⟩) rfl [1, 2, 3] [3, 0, 1, 2, 4] (fun u5 => [xO aX 3 [.ref aL, .ref aC, .ref aT], xO aC 0 [.ref aL, .ref aM, .int po, .int co, .int go, .ref aWy, .int wl, .ref aTr, .ref aAk, .int gu, .int wk, .int db, .int dn, .int iv, .int qs], xO aM 2 [.ref aMx, .ref aMs], xAI G aMs 100 ms, xO aL 1 [.int pl, .ref aEx, .ref aSh, .ref aLd, .ref aTw, .ref aLe, .ref aOp, .ref aFa]]) (fun _ => rfl) rfl rfl rfl rfl (fun u5 H locs hp7 hw => ?_)
  refine lv_aload_n hx hb dX3_strength_10 rfl (lv_at hl 0 rfl) ?_
  refine xget (C := RX3) (T := TX3) (N := 3) hc hw inX3_strength_X3 0 rfl rfl 1 (by decide) lkX3_strength_f21 rfl rfl dX3_strength_11 ?_
  refine xgetN (C := RX0) (T := TX0) (N := 15) hc hw inX3_strength_X0 1 rfl rfl 1 (by decide) nkX3_109 rfl rfl dX3_strength_14 ?_
  refine lv_iload_n hx hb dX3_strength_17 rfl (lv_at hl 1 rfl) ?_
  refine lv_iload_n hx hb dX3_strength_18 rfl (lv_at hl 2 rfl) ?_
  refine xcall_i (isC := [2, 3]) hc hw (xrunV (n := 2) (As := [.int g, .int q]) (rest := []) hc hw [2, 3] (metX2_strengthFor l G _ aM aMx aMs ms g q) gX3_strength_X2_strengthFor rfl (by decide +kernel) ⟨Nat.le_of_ble_eq_true rfl, Nat.le_of_ble_eq_true rfl⟩ 2 rfl rfl rfl rfl rfl rfl hl.1 (Nat.le_of_ble_eq_true rfl) dX3_strength_19 ⟨Nat.le_of_ble_eq_true rfl, Nat.le_of_ble_eq_true rfl⟩) rfl [0, 1, 4] [0, 1, 3, 4, 2] (fun u9 => [xO aX 3 [.ref aL, .ref aC, .ref aT], xO aC 0 [.ref aL, .ref aM, .int po, .int co, .int go, .ref aWy, .int wl, .ref aTr, .ref aAk, .int gu, .int wk, .int db, .int dn, .int iv, .int qs], xO aM 2 [.ref aMx, .ref aMs], xAI G aMs 100 ms, xO aL 1 [.int pl, .ref aEx, .ref aSh, .ref aLd, .ref aTw, .ref aLe, .ref aOp, .ref aFa]]) (fun _ => rfl) rfl rfl rfl rfl (fun r10 u9 H locs hp11 hw => ?_)
  exact xret_i () hc hw (Eq.symm (xb hp11 rfl)) ⟨Nat.le_of_ble_eq_true rfl, Nat.le_of_ble_eq_true rfl⟩ dX3_strength_22
def FX3_distance (pl : Int32) (ld : Nat → Int32) (le : Nat → Int32) (op : Nat → Int32) (fa : Nat → Int32) (q : Int32) (g : Int32) : Nat × Int32 × (Nat → Int32) :=
  xbt1 (FX3_checkPlace pl q) (0, fa) (xbt1 (FX3_checkPlace pl g) (0, fa) (xbind2 (FX1_shortest pl ld le op fa q g) (fun r10 u9 => (0, r10, u9))))
set_option maxHeartbeats 40000000 in
set_option maxRecDepth 100000 in
theorem metX3_distance (l : Launch) (G : xG) (hst : l.stackTraces = false) (sz : Nat) (aX : Nat) (aL : Nat) (aC : Nat) (aT : Nat) (aEx : Nat) (aSh : Nat) (aLd : Nat) (aTw : Nat) (aLe : Nat) (aOp : Nat) (aFa : Nat) (pl : Int32) (ld : Nat → Int32) (le : Nat → Int32) (op : Nat → Int32) (fa : Nat → Int32) (q : Int32) (g : Int32) (hpl : 0 ≤ pl.toInt ∧ pl.toInt ≤ 10) (hld : ∀ k, k < 40 → 0 ≤ (ld k).toInt ∧ (ld k).toInt < 10) : xMX l yX3_distance wsX3_distance ⟨7, 2, 12, 103⟩ G [.ref aX, .int q, .int g] [xO aX 3 [.ref aL, .ref aC, .ref aT], xO aL 1 [.int pl, .ref aEx, .ref aSh, .ref aLd, .ref aTw, .ref aLe, .ref aOp, .ref aFa], xAI G aLd 40 ld, xAI G aLe 40 le, xAZ G aOp 40 op, xAI G aFa 10 fa] sz (xQi G [xO aX 3 [.ref aL, .ref aC, .ref aT], xO aL 1 [.int pl, .ref aEx, .ref aSh, .ref aLd, .ref aTw, .ref aLe, .ref aOp, .ref aFa], xAI G aLd 40 ld, xAI G aLe 40 le, xAZ G aOp 40 op, xAI G aFa 10 fa] sz (fun (r : Int32) (u : (Nat → Int32)) => (FX3_distance pl ld le op fa q g).1 = 0 ∧ r = (FX3_distance pl ld le op fa q g).2.1 ∧ u = (FX3_distance pl ld le op fa q g).2.2) (fun u : (Nat → Int32) => [xO aX 3 [.ref aL, .ref aC, .ref aT], xO aL 1 [.int pl, .ref aEx, .ref aSh, .ref aLd, .ref aTw, .ref aLe, .ref aOp, .ref aFa], xAI G aLd 40 ld, xAI G aLe 40 le, xAZ G aOp 40 op, xAI G aFa 10 u])) (fun E => (FX3_distance pl ld le op fa q g).1 = xcode E ∧ xcode E ≠ 0) := by
  refine xofX (own := RX3) (cc := cX3_distance) (maxL := 3) (ret := (some .int)) rfl (by decide) rfl (Nat.le_of_ble_eq_true rfl) ?_
  intro pg en s mi below meth cd hc hex hw ls hl
  obtain ⟨hx, hb, -, hown, hts, -⟩ := id hc
  have hl : lv_has ls 3 [(0, .ref aX), (1, .int q), (2, .int g)] := hl
  refine lv_aload_n hx hb dX3_distance_0 rfl (lv_at hl 0 rfl) ?_
  refine lv_iload_n hx hb dX3_distance_1 rfl (lv_at hl 1 rfl) ?_
  refine xcallX_v (isC := [0, 1]) hc hw (xrunVX (n := 1) (As := [.int q]) (rest := []) hc hw [0, 1] (metX3_checkPlace l G hst _ aX aL aC aT aEx aSh aLd aTw aLe aOp aFa pl q) gX3_distance_X3_checkPlace rfl (by decide +kernel) ⟨Nat.le_of_ble_eq_true rfl, Nat.le_of_ble_eq_true rfl⟩ 0 rfl rfl rfl rfl rfl rfl hl.1 (Nat.le_of_ble_eq_true rfl) dX3_distance_2 ⟨Nat.le_of_ble_eq_true rfl, Nat.le_of_ble_eq_true rfl⟩) rfl [2, 3, 4, 5] [4, 5, 0, 1, 2, 3] [4, 5, 0, 1, 2, 3] (fun u1 => [xO aX 3 [.ref aL, .ref aC, .ref aT], xO aL 1 [.int pl, .ref aEx, .ref aSh, .ref aLd, .ref aTw, .ref aLe, .ref aOp, .ref aFa], xAI G aLd 40 ld, xAI G aLe 40 le, xAZ G aOp 40 op, xAI G aFa 10 fa]) (fun _ => rfl) rfl rfl rfl rfl rfl rfl (fun E ce q9 H locs hpx hw h9 hv9 hc9 => xout hc hex hw ⟨Eq.trans (congrArg Prod.fst (show FX3_distance pl ld le op fa q g = _ from (xt1x hpx))) hpx.1, hpx.2⟩ h9 hv9 hc9 ⟨Nat.le_of_ble_eq_true rfl, Nat.le_of_ble_eq_true rfl⟩) (fun u1 H locs hp3 hw => ?_)
  refine lv_aload_n hx hb dX3_distance_5 rfl (lv_at hl 0 rfl) ?_
  refine lv_iload_n hx hb dX3_distance_6 rfl (lv_at hl 2 rfl) ?_
  refine xcallX_v (isC := [0, 1]) hc hw (xrunVX (n := 1) (As := [.int g]) (rest := []) hc hw [0, 1] (metX3_checkPlace l G hst _ aX aL aC aT aEx aSh aLd aTw aLe aOp aFa pl g) gX3_distance_X3_checkPlace rfl (by decide +kernel) ⟨Nat.le_of_ble_eq_true rfl, Nat.le_of_ble_eq_true rfl⟩ 0 rfl rfl rfl rfl rfl rfl hl.1 (Nat.le_of_ble_eq_true rfl) dX3_distance_7 ⟨Nat.le_of_ble_eq_true rfl, Nat.le_of_ble_eq_true rfl⟩) rfl [2, 3, 4, 5] [4, 5, 0, 1, 2, 3] [4, 5, 0, 1, 2, 3] (fun u5 => [xO aX 3 [.ref aL, .ref aC, .ref aT], xO aL 1 [.int pl, .ref aEx, .ref aSh, .ref aLd, .ref aTw, .ref aLe, .ref aOp, .ref aFa], xAI G aLd 40 ld, xAI G aLe 40 le, xAZ G aOp 40 op, xAI G aFa 10 fa]) (fun _ => rfl) rfl rfl rfl rfl rfl rfl (fun E ce q9 H locs hpx hw h9 hv9 hc9 => xout hc hex hw ⟨Eq.trans (congrArg Prod.fst (show FX3_distance pl ld le op fa q g = _ from (xt1 hp3 (xt1x hpx)))) hpx.1, hpx.2⟩ h9 hv9 hc9 ⟨Nat.le_of_ble_eq_true rfl, Nat.le_of_ble_eq_true rfl⟩) (fun u5 H locs hp7 hw => ?_)
  refine lv_aload_n hx hb dX3_distance_10 rfl (lv_at hl 0 rfl) ?_
  refine xget (C := RX3) (T := TX3) (N := 3) hc hw inX3_distance_X3 0 rfl rfl 0 (by decide) lkX3_distance_f12 rfl rfl dX3_distance_11 ?_
  refine lv_iload_n hx hb dX3_distance_14 rfl (lv_at hl 1 rfl) ?_
  refine lv_iload_n hx hb dX3_distance_15 rfl (lv_at hl 2 rfl) ?_
  refine xcall_i (isC := [1, 2, 3, 4, 5]) hc hw (xrunV (n := 2) (As := [.int q, .int g]) (rest := []) hc hw [1, 2, 3, 4, 5] (metX1_shortest l G _ aL aEx aSh aLd aTw aLe aOp aFa pl ld le op fa q g hpl hld) gX3_distance_X1_shortest rfl (by decide +kernel) ⟨Nat.le_of_ble_eq_true rfl, Nat.le_of_ble_eq_true rfl⟩ 1 rfl rfl rfl rfl rfl rfl hl.1 (Nat.le_of_ble_eq_true rfl) dX3_distance_16 ⟨Nat.le_of_ble_eq_true rfl, Nat.le_of_ble_eq_true rfl⟩) rfl [0] [0, 1, 2, 3, 4, 5] (fun u9 => [xO aX 3 [.ref aL, .ref aC, .ref aT], xO aL 1 [.int pl, .ref aEx, .ref aSh, .ref aLd, .ref aTw, .ref aLe, .ref aOp, .ref aFa], xAI G aLd 40 ld, xAI G aLe 40 le, xAZ G aOp 40 op, xAI G aFa 10 u9]) (fun _ => rfl) rfl rfl rfl rfl (fun r10 u9 H locs hp11 hw => ?_)
  exact vx_ret (xret_i u9 hc hw (xe3 (xt1 hp3 (xt1 hp7 (xb2 hp11 rfl)))) ⟨Nat.le_of_ble_eq_true rfl, Nat.le_of_ble_eq_true rfl⟩ dX3_distance_19)
def FX3_knowsWay (po : Int32) (mx : Nat → Int32) (ms : Nat → Int32) (pl : Int32) (ex : Nat → Int32) (ld : Nat → Int32) (op : Nat → Int32) (g : Int32) : Nat × Int32 :=
  xbt1 (FX3_checkPlace pl g) 0 (xbind (FX0_findsByMemory po mx ms pl ex ld op g) (fun r6 => (0, r6)))
set_option maxHeartbeats 40000000 in
set_option maxRecDepth 100000 in
theorem metX3_knowsWay (l : Launch) (G : xG) (hst : l.stackTraces = false) (sz : Nat) (aX : Nat) (aL : Nat) (aC : Nat) (aT : Nat) (aM : Nat) (aWy : Nat) (aTr : Nat) (aAk : Nat) (aMx : Nat) (aMs : Nat) (aEx : Nat) (aSh : Nat) (aLd : Nat) (aTw : Nat) (aLe : Nat) (aOp : Nat) (aFa : Nat) (po : Int32) (co : Int32) (go : Int32) (wl : Int32) (gu : Int32) (wk : Int32) (db : Int32) (dn : Int32) (iv : Int32) (qs : Int32) (mx : Nat → Int32) (ms : Nat → Int32) (pl : Int32) (ex : Nat → Int32) (ld : Nat → Int32) (op : Nat → Int32) (g : Int32) (hpl : 0 ≤ pl.toInt ∧ pl.toInt ≤ 10) : xMX l yX3_knowsWay wsX3_knowsWay ⟨7, 1, 6, 103⟩ G [.ref aX, .int g] [xO aX 3 [.ref aL, .ref aC, .ref aT], xO aC 0 [.ref aL, .ref aM, .int po, .int co, .int go, .ref aWy, .int wl, .ref aTr, .ref aAk, .int gu, .int wk, .int db, .int dn, .int iv, .int qs], xO aM 2 [.ref aMx, .ref aMs], xAI G aMx 100 mx, xAI G aMs 100 ms, xO aL 1 [.int pl, .ref aEx, .ref aSh, .ref aLd, .ref aTw, .ref aLe, .ref aOp, .ref aFa], xAI G aEx 10 ex, xAI G aLd 40 ld, xAZ G aOp 40 op] sz (xQi G [xO aX 3 [.ref aL, .ref aC, .ref aT], xO aC 0 [.ref aL, .ref aM, .int po, .int co, .int go, .ref aWy, .int wl, .ref aTr, .ref aAk, .int gu, .int wk, .int db, .int dn, .int iv, .int qs], xO aM 2 [.ref aMx, .ref aMs], xAI G aMx 100 mx, xAI G aMs 100 ms, xO aL 1 [.int pl, .ref aEx, .ref aSh, .ref aLd, .ref aTw, .ref aLe, .ref aOp, .ref aFa], xAI G aEx 10 ex, xAI G aLd 40 ld, xAZ G aOp 40 op] sz (fun (r : Int32) (_ : Unit) => (FX3_knowsWay po mx ms pl ex ld op g).1 = 0 ∧ r = (FX3_knowsWay po mx ms pl ex ld op g).2) (fun u : Unit => [xO aX 3 [.ref aL, .ref aC, .ref aT], xO aC 0 [.ref aL, .ref aM, .int po, .int co, .int go, .ref aWy, .int wl, .ref aTr, .ref aAk, .int gu, .int wk, .int db, .int dn, .int iv, .int qs], xO aM 2 [.ref aMx, .ref aMs], xAI G aMx 100 mx, xAI G aMs 100 ms, xO aL 1 [.int pl, .ref aEx, .ref aSh, .ref aLd, .ref aTw, .ref aLe, .ref aOp, .ref aFa], xAI G aEx 10 ex, xAI G aLd 40 ld, xAZ G aOp 40 op])) (fun E => (FX3_knowsWay po mx ms pl ex ld op g).1 = xcode E ∧ xcode E ≠ 0) := by
  refine xofX (own := RX3) (cc := cX3_knowsWay) (maxL := 2) (ret := (some .boolean)) rfl (by decide) rfl (Nat.le_of_ble_eq_true rfl) ?_
  intro pg en s mi below meth cd hc hex hw ls hl
  obtain ⟨hx, hb, -, hown, hts, -⟩ := id hc
  have hl : lv_has ls 2 [(0, .ref aX), (1, .int g)] := hl
  refine lv_aload_n hx hb dX3_knowsWay_0 rfl (lv_at hl 0 rfl) ?_
  refine lv_iload_n hx hb dX3_knowsWay_1 rfl (lv_at hl 1 rfl) ?_
  refine xcallX_v (isC := [0, 5]) hc hw (xrunVX (n := 1) (As := [.int g]) (rest := []) hc hw [0, 5] (metX3_checkPlace l G hst _ aX aL aC aT aEx aSh aLd aTw aLe aOp aFa pl g) gX3_knowsWay_X3_checkPlace rfl (by decide +kernel) ⟨Nat.le_of_ble_eq_true rfl, Nat.le_of_ble_eq_true rfl⟩ 0 rfl rfl rfl rfl rfl rfl hl.1 (Nat.le_of_ble_eq_true rfl) dX3_knowsWay_2 ⟨Nat.le_of_ble_eq_true rfl, Nat.le_of_ble_eq_true rfl⟩) rfl [1, 2, 3, 4, 6, 7, 8] [7, 0, 1, 2, 3, 8, 4, 5, 6] [7, 0, 1, 2, 3, 8, 4, 5, 6] (fun u1 => [xO aX 3 [.ref aL, .ref aC, .ref aT], xO aC 0 [.ref aL, .ref aM, .int po, .int co, .int go, .ref aWy, .int wl, .ref aTr, .ref aAk, .int gu, .int wk, .int db, .int dn, .int iv, .int qs], xO aM 2 [.ref aMx, .ref aMs], xAI G aMx 100 mx, xAI G aMs 100 ms, xO aL 1 [.int pl, .ref aEx, .ref aSh, .ref aLd, .ref aTw, .ref aLe, .ref aOp, .ref aFa], xAI G aEx 10 ex, xAI G aLd 40 ld, xAZ G aOp 40 op]) (fun _ => rfl) rfl rfl rfl rfl rfl rfl (fun E ce q9 H locs hpx hw h9 hv9 hc9 => xout hc hex hw ⟨Eq.trans (congrArg Prod.fst (show FX3_knowsWay po mx ms pl ex ld op g = _ from (xt1x hpx))) hpx.1, hpx.2⟩ h9 hv9 hc9 ⟨Nat.le_of_ble_eq_true rfl, Nat.le_of_ble_eq_true rfl⟩) (fun u1 H locs hp3 hw => ?_)
  refine lv_aload_n hx hb dX3_knowsWay_5 rfl (lv_at hl 0 rfl) ?_
  refine xget (C := RX3) (T := TX3) (N := 3) hc hw inX3_knowsWay_X3 0 rfl rfl 1 (by decide) lkX3_knowsWay_f21 rfl rfl dX3_knowsWay_6 ?_
  refine lv_iload_n hx hb dX3_knowsWay_9 rfl (lv_at hl 1 rfl) ?_
  refine xcall_i (isC := [1, 2, 3, 4, 5, 6, 7, 8]) hc hw (xrunV (n := 1) (As := [.int g]) (rest := []) hc hw [1, 2, 3, 4, 5, 6, 7, 8] (metX0_findsByMemory l G _ aC aL aM aWy aTr aAk aMx aMs aEx aSh aLd aTw aLe aOp aFa po co go wl gu wk db dn iv qs mx ms pl ex ld op g hpl) gX3_knowsWay_X0_findsByMemory rfl (by decide +kernel) ⟨Nat.le_of_ble_eq_true rfl, Nat.le_of_ble_eq_true rfl⟩ 1 rfl rfl rfl rfl rfl rfl hl.1 (Nat.le_of_ble_eq_true rfl) dX3_knowsWay_10 ⟨Nat.le_of_ble_eq_true rfl, Nat.le_of_ble_eq_true rfl⟩) rfl [0] [0, 1, 2, 3, 4, 5, 6, 7, 8] (fun u5 => [xO aX 3 [.ref aL, .ref aC, .ref aT], xO aC 0 [.ref aL, .ref aM, .int po, .int co, .int go, .ref aWy, .int wl, .ref aTr, .ref aAk, .int gu, .int wk, .int db, .int dn, .int iv, .int qs], xO aM 2 [.ref aMx, .ref aMs], xAI G aMx 100 mx, xAI G aMs 100 ms, xO aL 1 [.int pl, .ref aEx, .ref aSh, .ref aLd, .ref aTw, .ref aLe, .ref aOp, .ref aFa], xAI G aEx 10 ex, xAI G aLd 40 ld, xAZ G aOp 40 op]) (fun _ => rfl) rfl rfl rfl rfl (fun r6 u5 H locs hp7 hw => ?_)
  exact vx_ret (xret_z () hc hw (by exact FX0_findsByMemory_01 hp7) (xe2r (xt1 hp3 (xb hp7 rfl))) ⟨Nat.le_of_ble_eq_true rfl, Nat.le_of_ble_eq_true rfl⟩ dX3_knowsWay_13)
