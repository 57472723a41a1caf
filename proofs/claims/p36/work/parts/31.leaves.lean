theorem xnlt {a b : Int32} (h : b.toInt ≤ a.toInt) : ¬ a < b := fun c => absurd ((xltI _ _).mp c) (Int.not_lt.mpr h)
theorem xnle {a b : Int32} (h : a.toInt < b.toInt) : ¬ b ≤ a := fun c => absurd ((xle _ _).mp c) (Int.not_le.mpr h)
theorem xylt {a b : Int32} (h : a.toInt < b.toInt) : ¬ ¬ a < b := fun c => c ((xltI _ _).mpr h)
def FX3_isEnd (e : Int32) : Int32 :=
  if e < 0 then (0) else (if 40 ≤ e then (0) else (1))
set_option maxHeartbeats 40000000 in
set_option maxRecDepth 100000 in
theorem metX3_isEnd (l : Launch) (G : xG) (sz : Nat) (e : Int32) : xM l yX3_isEnd wsX3_isEnd ⟨0, 0, 0, 0⟩ G [.int e] [] sz (xQi G [] sz (fun (r : Int32) (_ : Unit) => r = FX3_isEnd e) (fun u : Unit => [])) := by
  refine xof (own := RX3) (cc := cX3_isEnd) (maxL := 1) (ret := (some .boolean)) rfl (by decide) rfl (Nat.le_of_ble_eq_true rfl) ?_
  intro pg en s mi below meth cd hc hnm hw ls hl
  obtain ⟨hx, hb, -, hown, hts, -⟩ := id hc
  have hl : lv_has ls 1 [(0, .int e)] := hl
  refine lv_iload_n hx hb dX3_isEnd_0 rfl (lv_at hl 0 rfl) ?_
  refine lv_if_lt (tgt := 14) hx hb dX3_isEnd_1 (by decide) (fun c_1 => ?_) (fun c_1 => ?_)
  · refine lv_iconst (v := 0) hx hb dX3_isEnd_14 (by decide) ?_
    exact xret_z () hc hw rfl (Eq.symm (if_pos c_1)) ⟨Nat.le_of_ble_eq_true rfl, Nat.le_of_ble_eq_true rfl⟩ dX3_isEnd_15
  · refine lv_iload_n hx hb dX3_isEnd_4 rfl (lv_at hl 0 rfl) ?_
    refine lv_bipush (v := 40) hx hb dX3_isEnd_5 (by decide) ?_
    refine lv_icmp_ge (tgt := 14) hx hb dX3_isEnd_7 (by decide) (fun c_2 => ?_) (fun c_2 => ?_)
    · refine lv_iconst (v := 0) hx hb dX3_isEnd_14 (by decide) ?_
      exact xret_z () hc hw rfl (Eq.symm (Eq.trans (if_neg c_1) (if_pos c_2))) ⟨Nat.le_of_ble_eq_true rfl, Nat.le_of_ble_eq_true rfl⟩ dX3_isEnd_15
    · refine lv_iconst (v := 1) hx hb dX3_isEnd_10 (by decide) ?_
      refine lv_goto (tgt := 15) hx hb dX3_isEnd_11 (by decide) ?_
      exact xret_z () hc hw rfl (Eq.symm (Eq.trans (if_neg c_1) (if_neg c_2))) ⟨Nat.le_of_ble_eq_true rfl, Nat.le_of_ble_eq_true rfl⟩ dX3_isEnd_15
theorem pX3_isEnd {e r : Int32} (h : r = FX3_isEnd e) (c : ¬ r = 0) : 0 ≤ e.toInt ∧ e.toInt < 40 := by
  subst h
  unfold FX3_isEnd at c
  split at c
  · exact absurd rfl c
  · split at c
    · exact absurd rfl c
    · rename_i h1 h2
      rw [xltI] at h1; rw [xle] at h2
      exact ⟨Int.not_lt.mp h1, Int.not_le.mp h2⟩
theorem pX3_isEnd0 {e r : Int32} (h : r = FX3_isEnd e) (c : r = 0) : ¬ (0 ≤ e.toInt ∧ e.toInt < 40) := by
  subst h
  unfold FX3_isEnd at c
  split at c
  · rename_i h1; rw [xltI] at h1; intro h; exact absurd h1 (Int.not_lt.mpr h.1)
  · split at c
    · rename_i h1 h2; rw [xle] at h2; intro h; exact absurd h2 (Int.not_le.mpr h.2)
    · exact absurd c (by decide)
def FX3_placeOfEnd (e : Int32) : Int32 :=
  e / 4
set_option maxHeartbeats 40000000 in
set_option maxRecDepth 100000 in
theorem metX3_placeOfEnd (l : Launch) (G : xG) (sz : Nat) (e : Int32) : xM l yX3_placeOfEnd wsX3_placeOfEnd ⟨0, 0, 0, 0⟩ G [.int e] [] sz (xQi G [] sz (fun (r : Int32) (_ : Unit) => r = FX3_placeOfEnd e) (fun u : Unit => [])) := by
  refine xof (own := RX3) (cc := cX3_placeOfEnd) (maxL := 1) (ret := (some .int)) rfl (by decide) rfl (Nat.le_of_ble_eq_true rfl) ?_
  intro pg en s mi below meth cd hc hnm hw ls hl
  obtain ⟨hx, hb, -, hown, hts, -⟩ := id hc
  have hl : lv_has ls 1 [(0, .int e)] := hl
  refine lv_iload_n hx hb dX3_placeOfEnd_0 rfl (lv_at hl 0 rfl) ?_
  refine lv_iconst (v := 4) hx hb dX3_placeOfEnd_1 (by decide) ?_
  refine lv_idiv hx hb dX3_placeOfEnd_2 (by decide) ?_
  exact xret_i () hc hw (Eq.symm rfl) ⟨Nat.le_of_ble_eq_true rfl, Nat.le_of_ble_eq_true rfl⟩ dX3_placeOfEnd_3
def FX3_exitOfEnd (e : Int32) : Int32 :=
  e - e / 4 * 4
set_option maxHeartbeats 40000000 in
set_option maxRecDepth 100000 in
theorem metX3_exitOfEnd (l : Launch) (G : xG) (sz : Nat) (e : Int32) : xM l yX3_exitOfEnd wsX3_exitOfEnd ⟨0, 0, 0, 0⟩ G [.int e] [] sz (xQi G [] sz (fun (r : Int32) (_ : Unit) => r = FX3_exitOfEnd e) (fun u : Unit => [])) := by
  refine xof (own := RX3) (cc := cX3_exitOfEnd) (maxL := 1) (ret := (some .int)) rfl (by decide) rfl (Nat.le_of_ble_eq_true rfl) ?_
  intro pg en s mi below meth cd hc hnm hw ls hl
  obtain ⟨hx, hb, -, hown, hts, -⟩ := id hc
  have hl : lv_has ls 1 [(0, .int e)] := hl
  refine lv_iload_n hx hb dX3_exitOfEnd_0 rfl (lv_at hl 0 rfl) ?_
  refine lv_iconst (v := 4) hx hb dX3_exitOfEnd_1 (by decide) ?_
  refine lv_irem hx hb dX3_exitOfEnd_2 (by decide) ?_
  exact xret_i () hc hw (Eq.symm rfl) ⟨Nat.le_of_ble_eq_true rfl, Nat.le_of_ble_eq_true rfl⟩ dX3_exitOfEnd_3
def FX3_mix (d : Int64) (x : Int64) : Int64 :=
  (d * 31) + x
set_option maxHeartbeats 40000000 in
set_option maxRecDepth 100000 in
theorem metX3_mix (l : Launch) (G : xG) (sz : Nat) (d : Int64) (x : Int64) : xM l yX3_mix wsX3_mix ⟨0, 0, 0, 0⟩ G [.long d, .long x] [] sz (xQl G [] sz (fun (r : Int64) (_ : Unit) => r = FX3_mix d x) (fun u : Unit => [])) := by
  refine xof (own := RX3) (cc := cX3_mix) (maxL := 4) (ret := (some .long)) rfl (by decide) rfl (Nat.le_of_ble_eq_true rfl) ?_
  intro pg en s mi below meth cd hc hnm hw ls hl
  obtain ⟨hx, hb, -, hown, hts, -⟩ := id hc
  have hl : lv_has ls 4 [(0, .long d), (2, .long x)] := hl
  refine lv_lload_n hx hb dX3_mix_0 rfl (lv_at hl 0 rfl) ?_
  refine lv_ldc2 hx hb hown (hts _ lkX3_mix_cL228) dX3_mix_1 ?_
  refine lv_lmul hx hb dX3_mix_4 ?_
  refine lv_lload_n hx hb dX3_mix_5 rfl (lv_at hl 1 rfl) ?_
  refine lv_ladd hx hb dX3_mix_6 ?_
  exact xret_l () hc hw (Eq.symm rfl) ⟨Nat.le_of_ble_eq_true rfl, Nat.le_of_ble_eq_true rfl⟩ dX3_mix_7
def FX3_mixFlag (d : Int64) (b : Int32) : Int64 :=
  if b = 0 then (xbind (FX3_mix d 0) (fun r3 => r3)) else (xbind (FX3_mix d 1) (fun r7 => r7))
set_option maxHeartbeats 40000000 in
set_option maxRecDepth 100000 in
theorem metX3_mixFlag (l : Launch) (G : xG) (sz : Nat) (d : Int64) (b : Int32) : xM l yX3_mixFlag wsX3_mixFlag ⟨1, 0, 0, 23⟩ G [.long d, .int b] [] sz (xQl G [] sz (fun (r : Int64) (_ : Unit) => r = FX3_mixFlag d b) (fun u : Unit => [])) := by
  refine xof (own := RX3) (cc := cX3_mixFlag) (maxL := 3) (ret := (some .long)) rfl (by decide) rfl (Nat.le_of_ble_eq_true rfl) ?_
  intro pg en s mi below meth cd hc hnm hw ls hl
  obtain ⟨hx, hb, -, hown, hts, -⟩ := id hc
  have hl : lv_has ls 3 [(0, .long d), (2, .int b)] := hl
  refine lv_lload_n hx hb dX3_mixFlag_0 rfl (lv_at hl 0 rfl) ?_
  refine lv_iload_n hx hb dX3_mixFlag_1 rfl (lv_at hl 1 rfl) ?_
  refine lv_if_eq (tgt := 9) hx hb dX3_mixFlag_2 (by decide) (fun c_1 => ?_) (fun c_1 => ?_)
  · refine lv_lconst (v := 0) hx hb dX3_mixFlag_9 rfl ?_
    refine xcall_l (isC := []) hc hw (xrunS (n := 2) (As := [.long d, .long 0]) (rest := []) hc hw [] (metX3_mix l G _ d 0) gX3_mixFlag_X3_mix rfl (by decide +kernel) ⟨Nat.le_of_ble_eq_true rfl, Nat.le_of_ble_eq_true rfl⟩ rfl rfl rfl rfl hl.1 (Nat.le_of_ble_eq_true rfl) dX3_mixFlag_10 ⟨Nat.le_of_ble_eq_true rfl, Nat.le_of_ble_eq_true rfl⟩) rfl [] [] (fun u2 => []) (fun _ => rfl) rfl rfl rfl rfl (fun r3 u2 H locs hp4 hw => ?_)
    exact xret_l () hc hw (Eq.symm (Eq.trans (if_pos c_1) (xb hp4 rfl))) ⟨Nat.le_of_ble_eq_true rfl, Nat.le_of_ble_eq_true rfl⟩ dX3_mixFlag_13
  · refine lv_lconst (v := 1) hx hb dX3_mixFlag_5 rfl ?_
    refine lv_goto (tgt := 10) hx hb dX3_mixFlag_6 (by decide) ?_
    refine xcall_l (isC := []) hc hw (xrunS (n := 2) (As := [.long d, .long 1]) (rest := []) hc hw [] (metX3_mix l G _ d 1) gX3_mixFlag_X3_mix rfl (by decide +kernel) ⟨Nat.le_of_ble_eq_true rfl, Nat.le_of_ble_eq_true rfl⟩ rfl rfl rfl rfl hl.1 (Nat.le_of_ble_eq_true rfl) dX3_mixFlag_10 ⟨Nat.le_of_ble_eq_true rfl, Nat.le_of_ble_eq_true rfl⟩) rfl [] [] (fun u6 => []) (fun _ => rfl) rfl rfl rfl rfl (fun r7 u6 H locs hp8 hw => ?_)
    exact xret_l () hc hw (Eq.symm (Eq.trans (if_neg c_1) (xb hp8 rfl))) ⟨Nat.le_of_ble_eq_true rfl, Nat.le_of_ble_eq_true rfl⟩ dX3_mixFlag_13
def FX1_isPlace (pl : Int32) (q : Int32) : Int32 :=
  if q < 0 then (0) else (if pl ≤ q then (0) else (1))
set_option maxHeartbeats 40000000 in
set_option maxRecDepth 100000 in
theorem metX1_isPlace (l : Launch) (G : xG) (sz : Nat) (aL : Nat) (aEx : Nat) (aSh : Nat) (aLd : Nat) (aTw : Nat) (aLe : Nat) (aOp : Nat) (aFa : Nat) (pl : Int32) (q : Int32) : xM l yX1_isPlace wsX1_isPlace ⟨0, 0, 0, 0⟩ G [.ref aL, .int q] [xO aL 1 [.int pl, .ref aEx, .ref aSh, .ref aLd, .ref aTw, .ref aLe, .ref aOp, .ref aFa]] sz (xQi G [xO aL 1 [.int pl, .ref aEx, .ref aSh, .ref aLd, .ref aTw, .ref aLe, .ref aOp, .ref aFa]] sz (fun (r : Int32) (_ : Unit) => r = FX1_isPlace pl q) (fun u : Unit => [xO aL 1 [.int pl, .ref aEx, .ref aSh, .ref aLd, .ref aTw, .ref aLe, .ref aOp, .ref aFa]])) := by
  refine xof (own := RX1) (cc := cX1_isPlace) (maxL := 2) (ret := (some .boolean)) rfl (by decide) rfl (Nat.le_of_ble_eq_true rfl) ?_
  intro pg en s mi below meth cd hc hnm hw ls hl
  obtain ⟨hx, hb, -, hown, hts, -⟩ := id hc
  have hl : lv_has ls 2 [(0, .ref aL), (1, .int q)] := hl
  refine lv_iload_n hx hb dX1_isPlace_0 rfl (lv_at hl 1 rfl) ?_
  refine lv_if_lt (tgt := 16) hx hb dX1_isPlace_1 (by decide) (fun c_1 => ?_) (fun c_1 => ?_)
  · refine lv_iconst (v := 0) hx hb dX1_isPlace_16 (by decide) ?_
    exact xret_z () hc hw rfl (Eq.symm (if_pos c_1)) ⟨Nat.le_of_ble_eq_true rfl, Nat.le_of_ble_eq_true rfl⟩ dX1_isPlace_17
  · refine lv_iload_n hx hb dX1_isPlace_4 rfl (lv_at hl 1 rfl) ?_
    refine lv_aload_n hx hb dX1_isPlace_5 rfl (lv_at hl 0 rfl) ?_
    refine xget (C := RX1) (T := TX1) (N := 8) hc hw inX1_isPlace_X1 0 rfl rfl 0 (by decide) lkX1_isPlace_f34 rfl rfl dX1_isPlace_6 ?_
    refine lv_icmp_ge (tgt := 16) hx hb dX1_isPlace_9 (by decide) (fun c_2 => ?_) (fun c_2 => ?_)
    · refine lv_iconst (v := 0) hx hb dX1_isPlace_16 (by decide) ?_
      exact xret_z () hc hw rfl (Eq.symm (Eq.trans (if_neg c_1) (if_pos c_2))) ⟨Nat.le_of_ble_eq_true rfl, Nat.le_of_ble_eq_true rfl⟩ dX1_isPlace_17
    · refine lv_iconst (v := 1) hx hb dX1_isPlace_12 (by decide) ?_
      refine lv_goto (tgt := 17) hx hb dX1_isPlace_13 (by decide) ?_
      exact xret_z () hc hw rfl (Eq.symm (Eq.trans (if_neg c_1) (if_neg c_2))) ⟨Nat.le_of_ble_eq_true rfl, Nat.le_of_ble_eq_true rfl⟩ dX1_isPlace_17
theorem pX1_isPlace {pl q r : Int32} (h : r = FX1_isPlace pl q) (c : ¬ r = 0) : 0 ≤ q.toInt ∧ q.toInt < pl.toInt := by
  subst h
  unfold FX1_isPlace at c
  split at c
  · exact absurd rfl c
  · split at c
    · exact absurd rfl c
    · rename_i h1 h2
      rw [xltI] at h1; rw [xle] at h2
      exact ⟨Int.not_lt.mp h1, Int.not_le.mp h2⟩
theorem pX1_isPlace10 {pl q r : Int32} (hpl : 0 ≤ pl.toInt ∧ pl.toInt ≤ 10) (h : r = FX1_isPlace pl q) (c : ¬ r = 0) : 0 ≤ q.toInt ∧ q.toInt < 10 := by
  have := pX1_isPlace h c
  omega
def FX1_hasRoom (pl : Int32) (ex : Nat → Int32) (q : Int32) : Int32 :=
  xbind (FX1_isPlace pl q) (fun r2 => if r2 = 0 then (0) else (if 4 ≤ (ex q.toNatClampNeg) then (0) else (1)))
set_option maxHeartbeats 40000000 in
set_option maxRecDepth 100000 in
theorem metX1_hasRoom (l : Launch) (G : xG) (sz : Nat) (aL : Nat) (aEx : Nat) (aSh : Nat) (aLd : Nat) (aTw : Nat) (aLe : Nat) (aOp : Nat) (aFa : Nat) (pl : Int32) (ex : Nat → Int32) (q : Int32) (hpl : 0 ≤ pl.toInt ∧ pl.toInt ≤ 10) : xM l yX1_hasRoom wsX1_hasRoom ⟨1, 0, 0, 21⟩ G [.ref aL, .int q] [xO aL 1 [.int pl, .ref aEx, .ref aSh, .ref aLd, .ref aTw, .ref aLe, .ref aOp, .ref aFa], xAI G aEx 10 ex] sz (xQi G [xO aL 1 [.int pl, .ref aEx, .ref aSh, .ref aLd, .ref aTw, .ref aLe, .ref aOp, .ref aFa], xAI G aEx 10 ex] sz (fun (r : Int32) (_ : Unit) => r = FX1_hasRoom pl ex q) (fun u : Unit => [xO aL 1 [.int pl, .ref aEx, .ref aSh, .ref aLd, .ref aTw, .ref aLe, .ref aOp, .ref aFa], xAI G aEx 10 ex])) := by
  refine xof (own := RX1) (cc := cX1_hasRoom) (maxL := 2) (ret := (some .boolean)) rfl (by decide) rfl (Nat.le_of_ble_eq_true rfl) ?_
  intro pg en s mi below meth cd hc hnm hw ls hl
  obtain ⟨hx, hb, -, hown, hts, -⟩ := id hc
  have hl : lv_has ls 2 [(0, .ref aL), (1, .int q)] := hl
  refine lv_aload_n hx hb dX1_hasRoom_0 rfl (lv_at hl 0 rfl) ?_
  refine lv_iload_n hx hb dX1_hasRoom_1 rfl (lv_at hl 1 rfl) ?_
  refine xcall_i (isC := [0]) hc hw (xrunV (n := 1) (As := [.int q]) (rest := []) hc hw [0] (metX1_isPlace l G _ aL aEx aSh aLd aTw aLe aOp aFa pl q) gX1_hasRoom_X1_isPlace rfl (by decide +kernel) ⟨Nat.le_of_ble_eq_true rfl, Nat.le_of_ble_eq_true rfl⟩ 0 rfl rfl rfl rfl rfl rfl hl.1 (Nat.le_of_ble_eq_true rfl) dX1_hasRoom_2 ⟨Nat.le_of_ble_eq_true rfl, Nat.le_of_ble_eq_true rfl⟩) rfl [1] [1, 0] (fun u1 => [xO aL 1 [.int pl, .ref aEx, .ref aSh, .ref aLd, .ref aTw, .ref aLe, .ref aOp, .ref aFa], xAI G aEx 10 ex]) (fun _ => rfl) rfl rfl rfl rfl (fun r2 u1 H locs hp3 hw => ?_)
  refine lv_if_eq (tgt := 22) hx hb dX1_hasRoom_5 (by decide) (fun c_5 => ?_) (fun c_5 => ?_)
  · refine lv_iconst (v := 0) hx hb dX1_hasRoom_22 (by decide) ?_
    exact xret_z () hc hw rfl (Eq.symm (xb hp3 (if_pos c_5))) ⟨Nat.le_of_ble_eq_true rfl, Nat.le_of_ble_eq_true rfl⟩ dX1_hasRoom_23
  · refine lv_aload_n hx hb dX1_hasRoom_8 rfl (lv_at hl 0 rfl) ?_
    refine xget (C := RX1) (T := TX1) (N := 8) hc hw inX1_hasRoom_X1 0 rfl rfl 1 (by decide) lkX1_hasRoom_f9 rfl rfl dX1_hasRoom_9 ?_
    refine lv_iload_n hx hb dX1_hasRoom_12 rfl (lv_at hl 1 rfl) ?_
    refine xiald hc hw 1 rfl (xin (pX1_isPlace10 hpl hp3 c_5)) dX1_hasRoom_13 ?_
    refine lv_iconst (v := 4) hx hb dX1_hasRoom_14 (by decide) ?_
    refine lv_icmp_ge (tgt := 22) hx hb dX1_hasRoom_15 (by decide) (fun c_6 => ?_) (fun c_6 => ?_)
    · refine lv_iconst (v := 0) hx hb dX1_hasRoom_22 (by decide) ?_
      exact xret_z () hc hw rfl (Eq.symm (xb hp3 (Eq.trans (if_neg c_5) (if_pos c_6)))) ⟨Nat.le_of_ble_eq_true rfl, Nat.le_of_ble_eq_true rfl⟩ dX1_hasRoom_23
    · refine lv_iconst (v := 1) hx hb dX1_hasRoom_18 (by decide) ?_
      refine lv_goto (tgt := 23) hx hb dX1_hasRoom_19 (by decide) ?_
      exact xret_z () hc hw rfl (Eq.symm (xb hp3 (Eq.trans (if_neg c_5) (if_neg c_6)))) ⟨Nat.le_of_ble_eq_true rfl, Nat.le_of_ble_eq_true rfl⟩ dX1_hasRoom_23
def FX1_endAt (pl : Int32) (ex : Nat → Int32) (q : Int32) (x : Int32) : Int32 :=
  xbind (FX1_isPlace pl q) (fun r2 => if r2 = 0 then ((-1)) else (if x < 0 then ((-1)) else (if (ex q.toNatClampNeg) ≤ x then ((-1)) else ((q * 4) + x))))
set_option maxHeartbeats 40000000 in
set_option maxRecDepth 100000 in
theorem metX1_endAt (l : Launch) (G : xG) (sz : Nat) (aL : Nat) (aEx : Nat) (aSh : Nat) (aLd : Nat) (aTw : Nat) (aLe : Nat) (aOp : Nat) (aFa : Nat) (pl : Int32) (ex : Nat → Int32) (q : Int32) (x : Int32) (hpl : 0 ≤ pl.toInt ∧ pl.toInt ≤ 10) : xM l yX1_endAt wsX1_endAt ⟨1, 0, 0, 21⟩ G [.ref aL, .int q, .int x] [xO aL 1 [.int pl, .ref aEx, .ref aSh, .ref aLd, .ref aTw, .ref aLe, .ref aOp, .ref aFa], xAI G aEx 10 ex] sz (xQi G [xO aL 1 [.int pl, .ref aEx, .ref aSh, .ref aLd, .ref aTw, .ref aLe, .ref aOp, .ref aFa], xAI G aEx 10 ex] sz (fun (r : Int32) (_ : Unit) => r = FX1_endAt pl ex q x) (fun u : Unit => [xO aL 1 [.int pl, .ref aEx, .ref aSh, .ref aLd, .ref aTw, .ref aLe, .ref aOp, .ref aFa], xAI G aEx 10 ex])) := by
  refine xof (own := RX1) (cc := cX1_endAt) (maxL := 4) (ret := (some .int)) rfl (by decide) rfl (Nat.le_of_ble_eq_true rfl) ?_
  intro pg en s mi below meth cd hc hnm hw ls hl
  obtain ⟨hx, hb, -, hown, hts, -⟩ := id hc
  have hl : lv_has ls 4 [(0, .ref aL), (1, .int q), (2, .int x)] := hl
  refine lv_aload_n hx hb dX1_endAt_0 rfl (lv_at hl 0 rfl) ?_
  refine lv_iload_n hx hb dX1_endAt_1 rfl (lv_at hl 1 rfl) ?_
  refine xcall_i (isC := [0]) hc hw (xrunV (n := 1) (As := [.int q]) (rest := []) hc hw [0] (metX1_isPlace l G _ aL aEx aSh aLd aTw aLe aOp aFa pl q) gX1_endAt_X1_isPlace rfl (by decide +kernel) ⟨Nat.le_of_ble_eq_true rfl, Nat.le_of_ble_eq_true rfl⟩ 0 rfl rfl rfl rfl rfl rfl hl.1 (Nat.le_of_ble_eq_true rfl) dX1_endAt_2 ⟨Nat.le_of_ble_eq_true rfl, Nat.le_of_ble_eq_true rfl⟩) rfl [1] [1, 0] (fun u1 => [xO aL 1 [.int pl, .ref aEx, .ref aSh, .ref aLd, .ref aTw, .ref aLe, .ref aOp, .ref aFa], xAI G aEx 10 ex]) (fun _ => rfl) rfl rfl rfl rfl (fun r2 u1 H locs hp3 hw => ?_)
  refine lv_if_eq (tgt := 26) hx hb dX1_endAt_5 (by decide) (fun c_5 => ?_) (fun c_5 => ?_)
  · refine lv_iconst (v := 0) hx hb dX1_endAt_26 (by decide) ?_
    refine lv_istore_n (lv' := [(3, .int 0), (0, .ref aL), (1, .int q), (2, .int x)]) hx hb dX1_endAt_27 rfl hl (by decide) rfl (fun ls hl => ?_)
    refine lv_iload_n hx hb dX1_endAt_28 rfl (lv_at hl 0 rfl) ?_
    refine lv_if_eq (tgt := 40) hx hb dX1_endAt_29 (by decide) (fun _ => ?_) (fun h => absurd h (by decide))
    refine lv_iconst (v := (-1)) hx hb dX1_endAt_40 (by decide) ?_
    exact xret_i () hc hw (Eq.symm (xb hp3 (if_pos c_5))) ⟨Nat.le_of_ble_eq_true rfl, Nat.le_of_ble_eq_true rfl⟩ dX1_endAt_41
  · refine lv_iload_n hx hb dX1_endAt_8 rfl (lv_at hl 2 rfl) ?_
    refine lv_if_lt (tgt := 26) hx hb dX1_endAt_9 (by decide) (fun c_6 => ?_) (fun c_6 => ?_)
    · refine lv_iconst (v := 0) hx hb dX1_endAt_26 (by decide) ?_
      refine lv_istore_n (lv' := [(3, .int 0), (0, .ref aL), (1, .int q), (2, .int x)]) hx hb dX1_endAt_27 rfl hl (by decide) rfl (fun ls hl => ?_)
      refine lv_iload_n hx hb dX1_endAt_28 rfl (lv_at hl 0 rfl) ?_
      refine lv_if_eq (tgt := 40) hx hb dX1_endAt_29 (by decide) (fun _ => ?_) (fun h => absurd h (by decide))
      refine lv_iconst (v := (-1)) hx hb dX1_endAt_40 (by decide) ?_
      exact xret_i () hc hw (Eq.symm (xb hp3 (Eq.trans (if_neg c_5) (if_pos c_6)))) ⟨Nat.le_of_ble_eq_true rfl, Nat.le_of_ble_eq_true rfl⟩ dX1_endAt_41
    · refine lv_iload_n hx hb dX1_endAt_12 rfl (lv_at hl 2 rfl) ?_
      refine lv_aload_n hx hb dX1_endAt_13 rfl (lv_at hl 0 rfl) ?_
      refine xget (C := RX1) (T := TX1) (N := 8) hc hw inX1_endAt_X1 0 rfl rfl 1 (by decide) lkX1_endAt_f9 rfl rfl dX1_endAt_14 ?_
      refine lv_iload_n hx hb dX1_endAt_17 rfl (lv_at hl 1 rfl) ?_
      refine xiald hc hw 1 rfl (xin (pX1_isPlace10 hpl hp3 c_5)) dX1_endAt_18 ?_
      refine lv_icmp_ge (tgt := 26) hx hb dX1_endAt_19 (by decide) (fun c_7 => ?_) (fun c_7 => ?_)
      · refine lv_iconst (v := 0) hx hb dX1_endAt_26 (by decide) ?_
        refine lv_istore_n (lv' := [(3, .int 0), (0, .ref aL), (1, .int q), (2, .int x)]) hx hb dX1_endAt_27 rfl hl (by decide) rfl (fun ls hl => ?_)
        refine lv_iload_n hx hb dX1_endAt_28 rfl (lv_at hl 0 rfl) ?_
        refine lv_if_eq (tgt := 40) hx hb dX1_endAt_29 (by decide) (fun _ => ?_) (fun h => absurd h (by decide))
        refine lv_iconst (v := (-1)) hx hb dX1_endAt_40 (by decide) ?_
        exact xret_i () hc hw (Eq.symm (xb hp3 (Eq.trans (if_neg c_5) (Eq.trans (if_neg c_6) (if_pos c_7))))) ⟨Nat.le_of_ble_eq_true rfl, Nat.le_of_ble_eq_true rfl⟩ dX1_endAt_41
      · refine lv_iconst (v := 1) hx hb dX1_endAt_22 (by decide) ?_
        refine lv_goto (tgt := 27) hx hb dX1_endAt_23 (by decide) ?_
        refine lv_istore_n (lv' := [(3, .int 1), (0, .ref aL), (1, .int q), (2, .int x)]) hx hb dX1_endAt_27 rfl hl (by decide) rfl (fun ls hl => ?_)
        refine lv_iload_n hx hb dX1_endAt_28 rfl (lv_at hl 0 rfl) ?_
        refine lv_if_eq (tgt := 40) hx hb dX1_endAt_29 (by decide) (fun h => absurd h (by decide)) (fun _ => ?_)
        refine lv_iload_n hx hb dX1_endAt_32 rfl (lv_at hl 2 rfl) ?_
        refine lv_iconst (v := 4) hx hb dX1_endAt_33 (by decide) ?_
        refine lv_imul hx hb dX1_endAt_34 ?_
        refine lv_iload_n hx hb dX1_endAt_35 rfl (lv_at hl 3 rfl) ?_
        refine lv_iadd hx hb dX1_endAt_36 ?_
        refine lv_goto (tgt := 41) hx hb dX1_endAt_37 (by decide) ?_
        exact xret_i () hc hw (Eq.symm (xb hp3 (Eq.trans (if_neg c_5) (Eq.trans (if_neg c_6) (if_neg c_7))))) ⟨Nat.le_of_ble_eq_true rfl, Nat.le_of_ble_eq_true rfl⟩ dX1_endAt_41
def FX1_opensAt (op : Nat → Int32) (e : Int32) : Int32 :=
  xbind (FX3_isEnd e) (fun r2 => if r2 = 0 then (0) else (if (op e.toNatClampNeg) = 0 then (0) else (1)))
set_option maxHeartbeats 40000000 in
set_option maxRecDepth 100000 in
theorem metX1_opensAt (l : Launch) (G : xG) (sz : Nat) (aL : Nat) (aEx : Nat) (aSh : Nat) (aLd : Nat) (aTw : Nat) (aLe : Nat) (aOp : Nat) (aFa : Nat) (pl : Int32) (op : Nat → Int32) (e : Int32) : xM l yX1_opensAt wsX1_opensAt ⟨1, 0, 0, 20⟩ G [.ref aL, .int e] [xO aL 1 [.int pl, .ref aEx, .ref aSh, .ref aLd, .ref aTw, .ref aLe, .ref aOp, .ref aFa], xAZ G aOp 40 op] sz (xQi G [xO aL 1 [.int pl, .ref aEx, .ref aSh, .ref aLd, .ref aTw, .ref aLe, .ref aOp, .ref aFa], xAZ G aOp 40 op] sz (fun (r : Int32) (_ : Unit) => r = FX1_opensAt op e) (fun u : Unit => [xO aL 1 [.int pl, .ref aEx, .ref aSh, .ref aLd, .ref aTw, .ref aLe, .ref aOp, .ref aFa], xAZ G aOp 40 op])) := by
  refine xof (own := RX1) (cc := cX1_opensAt) (maxL := 2) (ret := (some .boolean)) rfl (by decide) rfl (Nat.le_of_ble_eq_true rfl) ?_
  intro pg en s mi below meth cd hc hnm hw ls hl
  obtain ⟨hx, hb, -, hown, hts, -⟩ := id hc
  have hl : lv_has ls 2 [(0, .ref aL), (1, .int e)] := hl
  refine lv_iload_n hx hb dX1_opensAt_0 rfl (lv_at hl 1 rfl) ?_
  refine xcall_i (isC := []) hc hw (xrunSN (n := 1) (As := [.int e]) (rest := []) hc hw [] (metX3_isEnd l G _ e) gX1_opensAt_X3_isEnd_n56 nkX1_56 lkX1_opensAt_iiX3 lkX1_opensAt_isX3_isEnd rfl (by decide +kernel) ⟨Nat.le_of_ble_eq_true rfl, Nat.le_of_ble_eq_true rfl⟩ rfl rfl rfl rfl hl.1 (Nat.le_of_ble_eq_true rfl) dX1_opensAt_1 ⟨Nat.le_of_ble_eq_true rfl, Nat.le_of_ble_eq_true rfl⟩) rfl [0, 1] [0, 1] (fun u1 => [xO aL 1 [.int pl, .ref aEx, .ref aSh, .ref aLd, .ref aTw, .ref aLe, .ref aOp, .ref aFa], xAZ G aOp 40 op]) (fun _ => rfl) rfl rfl rfl rfl (fun r2 u1 H locs hp3 hw => ?_)
  refine lv_if_eq (tgt := 20) hx hb dX1_opensAt_4 (by decide) (fun c_5 => ?_) (fun c_5 => ?_)
  · refine lv_iconst (v := 0) hx hb dX1_opensAt_20 (by decide) ?_
    exact xret_z () hc hw rfl (Eq.symm (xb hp3 (if_pos c_5))) ⟨Nat.le_of_ble_eq_true rfl, Nat.le_of_ble_eq_true rfl⟩ dX1_opensAt_21
  · refine lv_aload_n hx hb dX1_opensAt_7 rfl (lv_at hl 0 rfl) ?_
    refine xget (C := RX1) (T := TX1) (N := 8) hc hw inX1_opensAt_X1 0 rfl rfl 6 (by decide) lkX1_opensAt_f28 rfl rfl dX1_opensAt_8 ?_
    refine lv_iload_n hx hb dX1_opensAt_11 rfl (lv_at hl 1 rfl) ?_
    refine xzald hc hw 1 rfl (xin (pX3_isEnd hp3 c_5)) dX1_opensAt_12 ?_
    refine lv_if_eq (tgt := 20) hx hb dX1_opensAt_13 (by decide) (fun c_6 => ?_) (fun c_6 => ?_)
    · refine lv_iconst (v := 0) hx hb dX1_opensAt_20 (by decide) ?_
      exact xret_z () hc hw rfl (Eq.symm (xb hp3 (Eq.trans (if_neg c_5) (if_pos c_6)))) ⟨Nat.le_of_ble_eq_true rfl, Nat.le_of_ble_eq_true rfl⟩ dX1_opensAt_21
    · refine lv_iconst (v := 1) hx hb dX1_opensAt_16 (by decide) ?_
      refine lv_goto (tgt := 21) hx hb dX1_opensAt_17 (by decide) ?_
      exact xret_z () hc hw rfl (Eq.symm (xb hp3 (Eq.trans (if_neg c_5) (if_neg c_6)))) ⟨Nat.le_of_ble_eq_true rfl, Nat.le_of_ble_eq_true rfl⟩ dX1_opensAt_21
def FX1_milesAt (le : Nat → Int32) (e : Int32) : Int32 :=
  xbind (FX3_isEnd e) (fun r2 => if r2 = 0 then (0) else (le e.toNatClampNeg))
set_option maxHeartbeats 40000000 in
set_option maxRecDepth 100000 in
theorem metX1_milesAt (l : Launch) (G : xG) (sz : Nat) (aL : Nat) (aEx : Nat) (aSh : Nat) (aLd : Nat) (aTw : Nat) (aLe : Nat) (aOp : Nat) (aFa : Nat) (pl : Int32) (le : Nat → Int32) (e : Int32) : xM l yX1_milesAt wsX1_milesAt ⟨1, 0, 0, 20⟩ G [.ref aL, .int e] [xO aL 1 [.int pl, .ref aEx, .ref aSh, .ref aLd, .ref aTw, .ref aLe, .ref aOp, .ref aFa], xAI G aLe 40 le] sz (xQi G [xO aL 1 [.int pl, .ref aEx, .ref aSh, .ref aLd, .ref aTw, .ref aLe, .ref aOp, .ref aFa], xAI G aLe 40 le] sz (fun (r : Int32) (_ : Unit) => r = FX1_milesAt le e) (fun u : Unit => [xO aL 1 [.int pl, .ref aEx, .ref aSh, .ref aLd, .ref aTw, .ref aLe, .ref aOp, .ref aFa], xAI G aLe 40 le])) := by
  refine xof (own := RX1) (cc := cX1_milesAt) (maxL := 2) (ret := (some .int)) rfl (by decide) rfl (Nat.le_of_ble_eq_true rfl) ?_
  intro pg en s mi below meth cd hc hnm hw ls hl
  obtain ⟨hx, hb, -, hown, hts, -⟩ := id hc
  have hl : lv_has ls 2 [(0, .ref aL), (1, .int e)] := hl
  refine lv_iload_n hx hb dX1_milesAt_0 rfl (lv_at hl 1 rfl) ?_
  refine xcall_i (isC := []) hc hw (xrunSN (n := 1) (As := [.int e]) (rest := []) hc hw [] (metX3_isEnd l G _ e) gX1_milesAt_X3_isEnd_n56 nkX1_56 lkX1_milesAt_iiX3 lkX1_milesAt_isX3_isEnd rfl (by decide +kernel) ⟨Nat.le_of_ble_eq_true rfl, Nat.le_of_ble_eq_true rfl⟩ rfl rfl rfl rfl hl.1 (Nat.le_of_ble_eq_true rfl) dX1_milesAt_1 ⟨Nat.le_of_ble_eq_true rfl, Nat.le_of_ble_eq_true rfl⟩) rfl [0, 1] [0, 1] (fun u1 => [xO aL 1 [.int pl, .ref aEx, .ref aSh, .ref aLd, .ref aTw, .ref aLe, .ref aOp, .ref aFa], xAI G aLe 40 le]) (fun _ => rfl) rfl rfl rfl rfl (fun r2 u1 H locs hp3 hw => ?_)
  refine lv_if_eq (tgt := 16) hx hb dX1_milesAt_4 (by decide) (fun c_5 => ?_) (fun c_5 => ?_)
  · refine lv_iconst (v := 0) hx hb dX1_milesAt_16 (by decide) ?_
    exact xret_i () hc hw (Eq.symm (xb hp3 (if_pos c_5))) ⟨Nat.le_of_ble_eq_true rfl, Nat.le_of_ble_eq_true rfl⟩ dX1_milesAt_17
  · refine lv_aload_n hx hb dX1_milesAt_7 rfl (lv_at hl 0 rfl) ?_
    refine xget (C := RX1) (T := TX1) (N := 8) hc hw inX1_milesAt_X1 0 rfl rfl 5 (by decide) lkX1_milesAt_f25 rfl rfl dX1_milesAt_8 ?_
    refine lv_iload_n hx hb dX1_milesAt_11 rfl (lv_at hl 1 rfl) ?_
    refine xiald hc hw 1 rfl (xin (pX3_isEnd hp3 c_5)) dX1_milesAt_12 ?_
    refine lv_goto (tgt := 17) hx hb dX1_milesAt_13 (by decide) ?_
    exact xret_i () hc hw (Eq.symm (xb hp3 (if_neg c_5))) ⟨Nat.le_of_ble_eq_true rfl, Nat.le_of_ble_eq_true rfl⟩ dX1_milesAt_17
def FX1_twinOf (tw : Nat → Int32) (e : Int32) : Int32 :=
  xbind (FX3_isEnd e) (fun r2 => if r2 = 0 then ((-1)) else (tw e.toNatClampNeg))
set_option maxHeartbeats 40000000 in
set_option maxRecDepth 100000 in
theorem metX1_twinOf (l : Launch) (G : xG) (sz : Nat) (aL : Nat) (aEx : Nat) (aSh : Nat) (aLd : Nat) (aTw : Nat) (aLe : Nat) (aOp : Nat) (aFa : Nat) (pl : Int32) (tw : Nat → Int32) (e : Int32) : xM l yX1_twinOf wsX1_twinOf ⟨1, 0, 0, 20⟩ G [.ref aL, .int e] [xO aL 1 [.int pl, .ref aEx, .ref aSh, .ref aLd, .ref aTw, .ref aLe, .ref aOp, .ref aFa], xAI G aTw 40 tw] sz (xQi G [xO aL 1 [.int pl, .ref aEx, .ref aSh, .ref aLd, .ref aTw, .ref aLe, .ref aOp, .ref aFa], xAI G aTw 40 tw] sz (fun (r : Int32) (_ : Unit) => r = FX1_twinOf tw e) (fun u : Unit => [xO aL 1 [.int pl, .ref aEx, .ref aSh, .ref aLd, .ref aTw, .ref aLe, .ref aOp, .ref aFa], xAI G aTw 40 tw])) := by
  refine xof (own := RX1) (cc := cX1_twinOf) (maxL := 2) (ret := (some .int)) rfl (by decide) rfl (Nat.le_of_ble_eq_true rfl) ?_
  intro pg en s mi below meth cd hc hnm hw ls hl
  obtain ⟨hx, hb, -, hown, hts, -⟩ := id hc
  have hl : lv_has ls 2 [(0, .ref aL), (1, .int e)] := hl
  refine lv_iload_n hx hb dX1_twinOf_0 rfl (lv_at hl 1 rfl) ?_
  refine xcall_i (isC := []) hc hw (xrunSN (n := 1) (As := [.int e]) (rest := []) hc hw [] (metX3_isEnd l G _ e) gX1_twinOf_X3_isEnd_n56 nkX1_56 lkX1_twinOf_iiX3 lkX1_twinOf_isX3_isEnd rfl (by decide +kernel) ⟨Nat.le_of_ble_eq_true rfl, Nat.le_of_ble_eq_true rfl⟩ rfl rfl rfl rfl hl.1 (Nat.le_of_ble_eq_true rfl) dX1_twinOf_1 ⟨Nat.le_of_ble_eq_true rfl, Nat.le_of_ble_eq_true rfl⟩) rfl [0, 1] [0, 1] (fun u1 => [xO aL 1 [.int pl, .ref aEx, .ref aSh, .ref aLd, .ref aTw, .ref aLe, .ref aOp, .ref aFa], xAI G aTw 40 tw]) (fun _ => rfl) rfl rfl rfl rfl (fun r2 u1 H locs hp3 hw => ?_)
  refine lv_if_eq (tgt := 16) hx hb dX1_twinOf_4 (by decide) (fun c_5 => ?_) (fun c_5 => ?_)
  · refine lv_iconst (v := (-1)) hx hb dX1_twinOf_16 (by decide) ?_
    exact xret_i () hc hw (Eq.symm (xb hp3 (if_pos c_5))) ⟨Nat.le_of_ble_eq_true rfl, Nat.le_of_ble_eq_true rfl⟩ dX1_twinOf_17
  · refine lv_aload_n hx hb dX1_twinOf_7 rfl (lv_at hl 0 rfl) ?_
    refine xget (C := RX1) (T := TX1) (N := 8) hc hw inX1_twinOf_X1 0 rfl rfl 4 (by decide) lkX1_twinOf_f22 rfl rfl dX1_twinOf_8 ?_
    refine lv_iload_n hx hb dX1_twinOf_11 rfl (lv_at hl 1 rfl) ?_
    refine xiald hc hw 1 rfl (xin (pX3_isEnd hp3 c_5)) dX1_twinOf_12 ?_
    refine lv_goto (tgt := 17) hx hb dX1_twinOf_13 (by decide) ?_
    exact xret_i () hc hw (Eq.symm (xb hp3 (if_neg c_5))) ⟨Nat.le_of_ble_eq_true rfl, Nat.le_of_ble_eq_true rfl⟩ dX1_twinOf_17
def FX1_beyond (ld : Nat → Int32) (e : Int32) : Int32 :=
  xbind (FX3_isEnd e) (fun r2 => if r2 = 0 then ((-1)) else (ld e.toNatClampNeg))
set_option maxHeartbeats 40000000 in
set_option maxRecDepth 100000 in
theorem metX1_beyond (l : Launch) (G : xG) (sz : Nat) (aL : Nat) (aEx : Nat) (aSh : Nat) (aLd : Nat) (aTw : Nat) (aLe : Nat) (aOp : Nat) (aFa : Nat) (pl : Int32) (ld : Nat → Int32) (e : Int32) : xM l yX1_beyond wsX1_beyond ⟨1, 0, 0, 20⟩ G [.ref aL, .int e] [xO aL 1 [.int pl, .ref aEx, .ref aSh, .ref aLd, .ref aTw, .ref aLe, .ref aOp, .ref aFa], xAI G aLd 40 ld] sz (xQi G [xO aL 1 [.int pl, .ref aEx, .ref aSh, .ref aLd, .ref aTw, .ref aLe, .ref aOp, .ref aFa], xAI G aLd 40 ld] sz (fun (r : Int32) (_ : Unit) => r = FX1_beyond ld e) (fun u : Unit => [xO aL 1 [.int pl, .ref aEx, .ref aSh, .ref aLd, .ref aTw, .ref aLe, .ref aOp, .ref aFa], xAI G aLd 40 ld])) := by
  refine xof (own := RX1) (cc := cX1_beyond) (maxL := 2) (ret := (some .int)) rfl (by decide) rfl (Nat.le_of_ble_eq_true rfl) ?_
  intro pg en s mi below meth cd hc hnm hw ls hl
  obtain ⟨hx, hb, -, hown, hts, -⟩ := id hc
  have hl : lv_has ls 2 [(0, .ref aL), (1, .int e)] := hl
  refine lv_iload_n hx hb dX1_beyond_0 rfl (lv_at hl 1 rfl) ?_
  refine xcall_i (isC := []) hc hw (xrunSN (n := 1) (As := [.int e]) (rest := []) hc hw [] (metX3_isEnd l G _ e) gX1_beyond_X3_isEnd_n56 nkX1_56 lkX1_beyond_iiX3 lkX1_beyond_isX3_isEnd rfl (by decide +kernel) ⟨Nat.le_of_ble_eq_true rfl, Nat.le_of_ble_eq_true rfl⟩ rfl rfl rfl rfl hl.1 (Nat.le_of_ble_eq_true rfl) dX1_beyond_1 ⟨Nat.le_of_ble_eq_true rfl, Nat.le_of_ble_eq_true rfl⟩) rfl [0, 1] [0, 1] (fun u1 => [xO aL 1 [.int pl, .ref aEx, .ref aSh, .ref aLd, .ref aTw, .ref aLe, .ref aOp, .ref aFa], xAI G aLd 40 ld]) (fun _ => rfl) rfl rfl rfl rfl (fun r2 u1 H locs hp3 hw => ?_)
  refine lv_if_eq (tgt := 16) hx hb dX1_beyond_4 (by decide) (fun c_5 => ?_) (fun c_5 => ?_)
  · refine lv_iconst (v := (-1)) hx hb dX1_beyond_16 (by decide) ?_
    exact xret_i () hc hw (Eq.symm (xb hp3 (if_pos c_5))) ⟨Nat.le_of_ble_eq_true rfl, Nat.le_of_ble_eq_true rfl⟩ dX1_beyond_17
  · refine lv_aload_n hx hb dX1_beyond_7 rfl (lv_at hl 0 rfl) ?_
    refine xget (C := RX1) (T := TX1) (N := 8) hc hw inX1_beyond_X1 0 rfl rfl 3 (by decide) lkX1_beyond_f19 rfl rfl dX1_beyond_8 ?_
    refine lv_iload_n hx hb dX1_beyond_11 rfl (lv_at hl 1 rfl) ?_
    refine xiald hc hw 1 rfl (xin (pX3_isEnd hp3 c_5)) dX1_beyond_12 ?_
    refine lv_goto (tgt := 17) hx hb dX1_beyond_13 (by decide) ?_
    exact xret_i () hc hw (Eq.symm (xb hp3 (if_neg c_5))) ⟨Nat.le_of_ble_eq_true rfl, Nat.le_of_ble_eq_true rfl⟩ dX1_beyond_17
def FX1_milesBy (ld : Nat → Int32) (le : Nat → Int32) (op : Nat → Int32) (fa : Nat → Int32) (e : Int32) : Int32 :=
  if (op e.toNatClampNeg) = 0 then (1000000) else ((le e.toNatClampNeg) + (fa (ld e.toNatClampNeg).toNatClampNeg))
set_option maxHeartbeats 40000000 in
set_option maxRecDepth 100000 in
theorem metX1_milesBy (l : Launch) (G : xG) (sz : Nat) (aL : Nat) (aEx : Nat) (aSh : Nat) (aLd : Nat) (aTw : Nat) (aLe : Nat) (aOp : Nat) (aFa : Nat) (pl : Int32) (ld : Nat → Int32) (le : Nat → Int32) (op : Nat → Int32) (fa : Nat → Int32) (e : Int32) (hld : ∀ k, k < 40 → 0 ≤ (ld k).toInt ∧ (ld k).toInt < 10) (he : 0 ≤ e.toInt ∧ e.toInt < 40) : xM l yX1_milesBy wsX1_milesBy ⟨0, 0, 0, 0⟩ G [.ref aL, .int e] [xO aL 1 [.int pl, .ref aEx, .ref aSh, .ref aLd, .ref aTw, .ref aLe, .ref aOp, .ref aFa], xAI G aLd 40 ld, xAI G aLe 40 le, xAZ G aOp 40 op, xAI G aFa 10 fa] sz (xQi G [xO aL 1 [.int pl, .ref aEx, .ref aSh, .ref aLd, .ref aTw, .ref aLe, .ref aOp, .ref aFa], xAI G aLd 40 ld, xAI G aLe 40 le, xAZ G aOp 40 op, xAI G aFa 10 fa] sz (fun (r : Int32) (_ : Unit) => r = FX1_milesBy ld le op fa e) (fun u : Unit => [xO aL 1 [.int pl, .ref aEx, .ref aSh, .ref aLd, .ref aTw, .ref aLe, .ref aOp, .ref aFa], xAI G aLd 40 ld, xAI G aLe 40 le, xAZ G aOp 40 op, xAI G aFa 10 fa])) := by
  refine xof (own := RX1) (cc := cX1_milesBy) (maxL := 3) (ret := (some .int)) rfl (by decide) rfl (Nat.le_of_ble_eq_true rfl) ?_
  intro pg en s mi below meth cd hc hnm hw ls hl
  obtain ⟨hx, hb, -, hown, hts, -⟩ := id hc
  have hl : lv_has ls 3 [(0, .ref aL), (1, .int e)] := hl
  refine lv_iload_n hx hb dX1_milesBy_0 rfl (lv_at hl 1 rfl) ?_
  refine lv_if_lt (tgt := 19) hx hb dX1_milesBy_1 (by decide) (fun h => absurd h (xnlt he.1)) (fun _ => ?_)
  refine lv_iload_n hx hb dX1_milesBy_4 rfl (lv_at hl 1 rfl) ?_
  refine lv_bipush (v := 40) hx hb dX1_milesBy_5 (by decide) ?_
  refine lv_icmp_ge (tgt := 19) hx hb dX1_milesBy_7 (by decide) (fun h => absurd h (xnle he.2)) (fun _ => ?_)
  refine lv_aload_n hx hb dX1_milesBy_10 rfl (lv_at hl 0 rfl) ?_
  refine xget (C := RX1) (T := TX1) (N := 8) hc hw inX1_milesBy_X1 0 rfl rfl 6 (by decide) lkX1_milesBy_f28 rfl rfl dX1_milesBy_11 ?_
  refine lv_iload_n hx hb dX1_milesBy_14 rfl (lv_at hl 1 rfl) ?_
  refine xzald hc hw 3 rfl (xin he) dX1_milesBy_15 ?_
  refine lv_if_ne (tgt := 22) hx hb dX1_milesBy_16 (by decide) (fun c_1 => ?_) (fun c_1 => ?_)
  · refine lv_aload_n hx hb dX1_milesBy_22 rfl (lv_at hl 0 rfl) ?_
    refine xget (C := RX1) (T := TX1) (N := 8) hc hw inX1_milesBy_X1 0 rfl rfl 3 (by decide) lkX1_milesBy_f19 rfl rfl dX1_milesBy_23 ?_
    refine lv_iload_n hx hb dX1_milesBy_26 rfl (lv_at hl 1 rfl) ?_
    refine xiald hc hw 1 rfl (xin he) dX1_milesBy_27 ?_
    refine lv_istore_n (lv' := [(2, .int (ld e.toNatClampNeg)), (0, .ref aL), (1, .int e)]) hx hb dX1_milesBy_28 rfl hl (by decide) rfl (fun ls hl => ?_)
    refine lv_iload_n hx hb dX1_milesBy_29 rfl (lv_at hl 0 rfl) ?_
    refine lv_if_lt (tgt := 55) hx hb dX1_milesBy_30 (by decide) (fun h => absurd h (xnlt (hld _ (xcl he)).1)) (fun _ => ?_)
    refine lv_iload_n hx hb dX1_milesBy_33 rfl (lv_at hl 0 rfl) ?_
    refine lv_bipush (v := 10) hx hb dX1_milesBy_34 (by decide) ?_
    refine lv_icmp_ge (tgt := 55) hx hb dX1_milesBy_36 (by decide) (fun h => absurd h (xnle (hld _ (xcl he)).2)) (fun _ => ?_)
    refine lv_aload_n hx hb dX1_milesBy_39 rfl (lv_at hl 1 rfl) ?_
    refine xget (C := RX1) (T := TX1) (N := 8) hc hw inX1_milesBy_X1 0 rfl rfl 5 (by decide) lkX1_milesBy_f25 rfl rfl dX1_milesBy_40 ?_
    refine lv_iload_n hx hb dX1_milesBy_43 rfl (lv_at hl 2 rfl) ?_
    refine xiald hc hw 2 rfl (xin he) dX1_milesBy_44 ?_
    refine lv_aload_n hx hb dX1_milesBy_45 rfl (lv_at hl 1 rfl) ?_
    refine xget (C := RX1) (T := TX1) (N := 8) hc hw inX1_milesBy_X1 0 rfl rfl 7 (by decide) lkX1_milesBy_f31 rfl rfl dX1_milesBy_46 ?_
    refine lv_iload_n hx hb dX1_milesBy_49 rfl (lv_at hl 0 rfl) ?_
    refine xiald hc hw 4 rfl (xin (hld _ (xcl he))) dX1_milesBy_50 ?_
    refine lv_iadd hx hb dX1_milesBy_51 ?_
    refine lv_goto (tgt := 57) hx hb dX1_milesBy_52 (by decide) ?_
    exact xret_i () hc hw (Eq.symm (if_neg c_1)) ⟨Nat.le_of_ble_eq_true rfl, Nat.le_of_ble_eq_true rfl⟩ dX1_milesBy_57
  · refine xldc hc lkX1_milesBy_c63 dX1_milesBy_19 ?_
    exact xret_i () hc hw (Eq.symm (if_pos c_1)) ⟨Nat.le_of_ble_eq_true rfl, Nat.le_of_ble_eq_true rfl⟩ dX1_milesBy_21
