def FX5_isIn (q : Int32) (lo : Int32) (hi : Int32) : Int32 :=
  if q < lo then (0) else (if hi < q then (0) else (1))
set_option maxHeartbeats 40000000 in
set_option maxRecDepth 100000 in
theorem metX5_isIn (l : Launch) (G : xG) (sz : Nat) (q : Int32) (lo : Int32) (hi : Int32) : xM l yX5_isIn wsX5_isIn ⟨0, 0, 0, 0⟩ G [.int q, .int lo, .int hi] [] sz (xQi G [] sz (fun (r : Int32) (_ : Unit) => r = FX5_isIn q lo hi) (fun u : Unit => [])) := by
  refine xof (own := RX5) (cc := cX5_isIn) (maxL := 3) (ret := (some .boolean)) rfl (by decide) rfl (Nat.le_of_ble_eq_true rfl) ?_
  intro pg en s mi below meth cd hc hnm hw ls hl
  obtain ⟨hx, hb, -, hown, hts, -⟩ := id hc
  have hl : lv_has ls 3 [(0, .int q), (1, .int lo), (2, .int hi)] := hl
  refine lv_iload_n hx hb dX5_isIn_0 rfl (lv_at hl 0 rfl) ?_
  refine lv_iload_n hx hb dX5_isIn_1 rfl (lv_at hl 1 rfl) ?_
  refine lv_icmp_lt (tgt := 14) hx hb dX5_isIn_2 (by decide) (fun c_1 => ?_) (fun c_1 => ?_)
  · refine lv_iconst (v := 0) hx hb dX5_isIn_14 (by decide) ?_
    exact xret_z () hc hw rfl (Eq.symm (if_pos c_1)) ⟨Nat.le_of_ble_eq_true rfl, Nat.le_of_ble_eq_true rfl⟩ dX5_isIn_15
  · refine lv_iload_n hx hb dX5_isIn_5 rfl (lv_at hl 0 rfl) ?_
    refine lv_iload_n hx hb dX5_isIn_6 rfl (lv_at hl 2 rfl) ?_
    refine lv_icmp_gt (tgt := 14) hx hb dX5_isIn_7 (by decide) (fun c_2 => ?_) (fun c_2 => ?_)
    · refine lv_iconst (v := 0) hx hb dX5_isIn_14 (by decide) ?_
      exact xret_z () hc hw rfl (Eq.symm (Eq.trans (if_neg c_1) (if_pos c_2))) ⟨Nat.le_of_ble_eq_true rfl, Nat.le_of_ble_eq_true rfl⟩ dX5_isIn_15
    · refine lv_iconst (v := 1) hx hb dX5_isIn_10 (by decide) ?_
      refine lv_goto (tgt := 15) hx hb dX5_isIn_11 (by decide) ?_
      exact xret_z () hc hw rfl (Eq.symm (Eq.trans (if_neg c_1) (if_neg c_2))) ⟨Nat.le_of_ble_eq_true rfl, Nat.le_of_ble_eq_true rfl⟩ dX5_isIn_15
theorem pX5_isIn {q a b r : Int32} (h : r = FX5_isIn q a b) (c : ¬ r = 0) : a.toInt ≤ q.toInt ∧ q.toInt ≤ b.toInt := by
  subst h
  unfold FX5_isIn at c
  split at c
  · exact absurd rfl c
  · split at c
    · exact absurd rfl c
    · rename_i h1 h2
      rw [xltI] at h1 h2
      omega
theorem ynot {r : Int32} (h : r = 0) : narrow .boolean (.int r) = .int r := by subst h; rfl
theorem pX5_isIn01 {q a b r : Int32} (h : r = FX5_isIn q a b) : narrow .boolean (.int r) = .int r := by
  subst h
  refine xz01 ?_
  unfold FX5_isIn
  repeat' split
  all_goals first | exact Or.inl rfl | exact Or.inr rfl
def FX5_isPlace (pl : Int32) (q : Int32) : Int32 :=
  xbind (FX5_isIn q 0 (pl - 1)) (fun r2 => r2)
set_option maxHeartbeats 40000000 in
set_option maxRecDepth 100000 in
theorem metX5_isPlace (l : Launch) (G : xG) (sz : Nat) (aR : Nat) (rEx : Nat) (rRd : Nat) (rTo : Nat) (rMi : Nat) (rCl : Nat) (rSh : Nat) (rFa : Nat) (aS : Nat) (aH : Nat) (th : Int32) (pl : Int32) (rs : Int32) (q : Int32) : xM l yX5_isPlace wsX5_isPlace ⟨1, 0, 0, 22⟩ G [.ref aR, .int q] [xO aR 5 [.int th, .int pl, .ref rEx, .ref rRd, .ref rTo, .int rs, .ref rMi, .ref rCl, .ref rSh, .ref rFa, .ref aS, .ref aH]] sz (xQi G [xO aR 5 [.int th, .int pl, .ref rEx, .ref rRd, .ref rTo, .int rs, .ref rMi, .ref rCl, .ref rSh, .ref rFa, .ref aS, .ref aH]] sz (fun (r : Int32) (_ : Unit) => r = FX5_isPlace pl q) (fun u : Unit => [xO aR 5 [.int th, .int pl, .ref rEx, .ref rRd, .ref rTo, .int rs, .ref rMi, .ref rCl, .ref rSh, .ref rFa, .ref aS, .ref aH]])) := by
  refine xof (own := RX5) (cc := cX5_isPlace) (maxL := 2) (ret := (some .boolean)) rfl (by decide) rfl (Nat.le_of_ble_eq_true rfl) ?_
  intro pg en s mi below meth cd hc hnm hw ls hl
  obtain ⟨hx, hb, -, hown, hts, -⟩ := id hc
  have hl : lv_has ls 2 [(0, .ref aR), (1, .int q)] := hl
  refine lv_iload_n hx hb dX5_isPlace_0 rfl (lv_at hl 1 rfl) ?_
  refine lv_iconst (v := 0) hx hb dX5_isPlace_1 (by decide) ?_
  refine lv_aload_n hx hb dX5_isPlace_2 rfl (lv_at hl 0 rfl) ?_
  refine xget (C := RX5) (T := TX5) (N := 12) hc hw inX5_isPlace_X5 0 rfl rfl 1 (by decide) lkX5_isPlace_f46 rfl rfl dX5_isPlace_3 ?_
  refine lv_iconst (v := 1) hx hb dX5_isPlace_6 (by decide) ?_
  refine lv_isub hx hb dX5_isPlace_7 ?_
  refine xcall_i (isC := []) hc hw (xrunS (n := 3) (As := [.int q, .int 0, .int (pl - 1)]) (rest := []) hc hw [] (metX5_isIn l G _ q 0 (pl - 1)) gX5_isPlace_X5_isIn rfl (by decide +kernel) ⟨Nat.le_of_ble_eq_true rfl, Nat.le_of_ble_eq_true rfl⟩ rfl rfl rfl rfl hl.1 (Nat.le_of_ble_eq_true rfl) dX5_isPlace_8 ⟨Nat.le_of_ble_eq_true rfl, Nat.le_of_ble_eq_true rfl⟩) rfl [0] [0] (fun u1 => [xO aR 5 [.int th, .int pl, .ref rEx, .ref rRd, .ref rTo, .int rs, .ref rMi, .ref rCl, .ref rSh, .ref rFa, .ref aS, .ref aH]]) (fun _ => rfl) rfl rfl rfl rfl (fun r2 u1 H locs hp3 hw => ?_)
  exact xret_z () hc hw (by exact pX5_isIn01 hp3) (Eq.symm (xb hp3 rfl)) ⟨Nat.le_of_ble_eq_true rfl, Nat.le_of_ble_eq_true rfl⟩ dX5_isPlace_11
theorem xsub1 {x : Int32} (h : 0 ≤ x.toInt ∧ x.toInt ≤ 1000000) : (x - 1).toInt = x.toInt - 1 := by
  rw [Int32.toInt_sub, show (1 : Int32).toInt = 1 from rfl, Int.bmod_eq_of_le (by omega) (by omega)]
theorem pX5_isPlace {pl q r : Int32} (hpl : 0 ≤ pl.toInt ∧ pl.toInt ≤ 10) (h : r = FX5_isPlace pl q) (c : ¬ r = 0) : 0 ≤ q.toInt ∧ q.toInt < pl.toInt := by
  have h1 := pX5_isIn h c
  rw [xsub1 (by omega), show (0 : Int32).toInt = 0 from rfl] at h1
  omega
theorem pX5_isPlace10 {pl q r : Int32} (hpl : 0 ≤ pl.toInt ∧ pl.toInt ≤ 10) (h : r = FX5_isPlace pl q) (c : ¬ r = 0) : 0 ≤ q.toInt ∧ q.toInt < 10 := by
  have := pX5_isPlace hpl h c
  omega
def FX5_isExit (pl : Int32) (ex : Nat → Int32) (q : Int32) (x : Int32) : Int32 :=
  xbind (FX5_isPlace pl q) (fun r2 => if r2 = 0 then (0) else (xbind (FX5_isIn x 0 ((ex q.toNatClampNeg) - 1)) (fun r7 => if r7 = 0 then (0) else (1))))
set_option maxHeartbeats 40000000 in
set_option maxRecDepth 100000 in
theorem metX5_isExit (l : Launch) (G : xG) (sz : Nat) (aR : Nat) (rEx : Nat) (rRd : Nat) (rTo : Nat) (rMi : Nat) (rCl : Nat) (rSh : Nat) (rFa : Nat) (aS : Nat) (aH : Nat) (th : Int32) (pl : Int32) (rs : Int32) (ex : Nat → Int32) (q : Int32) (x : Int32) (hpl : 0 ≤ pl.toInt ∧ pl.toInt ≤ 10) : xM l yX5_isExit wsX5_isExit ⟨2, 0, 0, 43⟩ G [.ref aR, .int q, .int x] [xO aR 5 [.int th, .int pl, .ref rEx, .ref rRd, .ref rTo, .int rs, .ref rMi, .ref rCl, .ref rSh, .ref rFa, .ref aS, .ref aH], xAI G rEx 10 ex] sz (xQi G [xO aR 5 [.int th, .int pl, .ref rEx, .ref rRd, .ref rTo, .int rs, .ref rMi, .ref rCl, .ref rSh, .ref rFa, .ref aS, .ref aH], xAI G rEx 10 ex] sz (fun (r : Int32) (_ : Unit) => r = FX5_isExit pl ex q x) (fun u : Unit => [xO aR 5 [.int th, .int pl, .ref rEx, .ref rRd, .ref rTo, .int rs, .ref rMi, .ref rCl, .ref rSh, .ref rFa, .ref aS, .ref aH], xAI G rEx 10 ex])) := by
  refine xof (own := RX5) (cc := cX5_isExit) (maxL := 3) (ret := (some .boolean)) rfl (by decide) rfl (Nat.le_of_ble_eq_true rfl) ?_
  intro pg en s mi below meth cd hc hnm hw ls hl
  obtain ⟨hx, hb, -, hown, hts, -⟩ := id hc
  have hl : lv_has ls 3 [(0, .ref aR), (1, .int q), (2, .int x)] := hl
  refine lv_aload_n hx hb dX5_isExit_0 rfl (lv_at hl 0 rfl) ?_
  refine lv_iload_n hx hb dX5_isExit_1 rfl (lv_at hl 1 rfl) ?_
  refine xcall_i (isC := [0]) hc hw (xrunV (n := 1) (As := [.int q]) (rest := []) hc hw [0] (metX5_isPlace l G _ aR rEx rRd rTo rMi rCl rSh rFa aS aH th pl rs q) gX5_isExit_X5_isPlace rfl (by decide +kernel) ⟨Nat.le_of_ble_eq_true rfl, Nat.le_of_ble_eq_true rfl⟩ 0 rfl rfl rfl rfl rfl rfl hl.1 (Nat.le_of_ble_eq_true rfl) dX5_isExit_2 ⟨Nat.le_of_ble_eq_true rfl, Nat.le_of_ble_eq_true rfl⟩) rfl [1] [1, 0] (fun u1 => [xO aR 5 [.int th, .int pl, .ref rEx, .ref rRd, .ref rTo, .int rs, .ref rMi, .ref rCl, .ref rSh, .ref rFa, .ref aS, .ref aH], xAI G rEx 10 ex]) (fun _ => rfl) rfl rfl rfl rfl (fun r2 u1 H locs hp3 hw => ?_)
  refine lv_if_eq (tgt := 28) hx hb dX5_isExit_5 (by decide) (fun c_5 => ?_) (fun c_5 => ?_)
  · refine lv_iconst (v := 0) hx hb dX5_isExit_28 (by decide) ?_
    exact xret_z () hc hw rfl (Eq.symm (xb hp3 (if_pos c_5))) ⟨Nat.le_of_ble_eq_true rfl, Nat.le_of_ble_eq_true rfl⟩ dX5_isExit_29
  · refine lv_iload_n hx hb dX5_isExit_8 rfl (lv_at hl 2 rfl) ?_
    refine lv_iconst (v := 0) hx hb dX5_isExit_9 (by decide) ?_
    refine lv_aload_n hx hb dX5_isExit_10 rfl (lv_at hl 0 rfl) ?_
    refine xget (C := RX5) (T := TX5) (N := 12) hc hw inX5_isExit_X5 0 rfl rfl 2 (by decide) lkX5_isExit_f9 rfl rfl dX5_isExit_11 ?_
    refine lv_iload_n hx hb dX5_isExit_14 rfl (lv_at hl 1 rfl) ?_
    refine xiald hc hw 1 rfl (xin (pX5_isPlace10 hpl hp3 c_5)) dX5_isExit_15 ?_
    refine lv_iconst (v := 1) hx hb dX5_isExit_16 (by decide) ?_
    refine lv_isub hx hb dX5_isExit_17 ?_
    refine xcall_i (isC := []) hc hw (xrunS (n := 3) (As := [.int x, .int 0, .int ((ex q.toNatClampNeg) - 1)]) (rest := []) hc hw [] (metX5_isIn l G _ x 0 ((ex q.toNatClampNeg) - 1)) gX5_isExit_X5_isIn rfl (by decide +kernel) ⟨Nat.le_of_ble_eq_true rfl, Nat.le_of_ble_eq_true rfl⟩ rfl rfl rfl rfl hl.1 (Nat.le_of_ble_eq_true rfl) dX5_isExit_18 ⟨Nat.le_of_ble_eq_true rfl, Nat.le_of_ble_eq_true rfl⟩) rfl [0, 1] [0, 1] (fun u6 => [xO aR 5 [.int th, .int pl, .ref rEx, .ref rRd, .ref rTo, .int rs, .ref rMi, .ref rCl, .ref rSh, .ref rFa, .ref aS, .ref aH], xAI G rEx 10 ex]) (fun _ => rfl) rfl rfl rfl rfl (fun r7 u6 H locs hp8 hw => ?_)
    refine lv_if_eq (tgt := 28) hx hb dX5_isExit_21 (by decide) (fun c_10 => ?_) (fun c_10 => ?_)
    · refine lv_iconst (v := 0) hx hb dX5_isExit_28 (by decide) ?_
      exact xret_z () hc hw rfl (Eq.symm (xb hp3 (Eq.trans (if_neg c_5) (xb hp8 (if_pos c_10))))) ⟨Nat.le_of_ble_eq_true rfl, Nat.le_of_ble_eq_true rfl⟩ dX5_isExit_29
    · refine lv_iconst (v := 1) hx hb dX5_isExit_24 (by decide) ?_
      refine lv_goto (tgt := 29) hx hb dX5_isExit_25 (by decide) ?_
      exact xret_z () hc hw rfl (Eq.symm (xb hp3 (Eq.trans (if_neg c_5) (xb hp8 (if_neg c_10))))) ⟨Nat.le_of_ble_eq_true rfl, Nat.le_of_ble_eq_true rfl⟩ dX5_isExit_29
def FX5_no (w : Int32) : Int32 × (Int32) :=
  (0, w)
set_option maxHeartbeats 40000000 in
set_option maxRecDepth 100000 in
theorem metX5_no (l : Launch) (G : xG) (sz : Nat) (aR : Nat) (rEx : Nat) (rRd : Nat) (rTo : Nat) (rMi : Nat) (rCl : Nat) (rSh : Nat) (rFa : Nat) (aS : Nat) (aH : Nat) (th : Int32) (pl : Int32) (rs : Int32) (w : Int32) : xM l yX5_no wsX5_no ⟨0, 0, 0, 0⟩ G [.ref aR, .int w] [xO aR 5 [.int th, .int pl, .ref rEx, .ref rRd, .ref rTo, .int rs, .ref rMi, .ref rCl, .ref rSh, .ref rFa, .ref aS, .ref aH]] sz (xQi G [xO aR 5 [.int th, .int pl, .ref rEx, .ref rRd, .ref rTo, .int rs, .ref rMi, .ref rCl, .ref rSh, .ref rFa, .ref aS, .ref aH]] sz (fun (r : Int32) (u : (Int32)) => r = (FX5_no w).1 ∧ u = (FX5_no w).2) (fun u : (Int32) => [xO aR 5 [.int u, .int pl, .ref rEx, .ref rRd, .ref rTo, .int rs, .ref rMi, .ref rCl, .ref rSh, .ref rFa, .ref aS, .ref aH]])) := by
  refine xof (own := RX5) (cc := cX5_no) (maxL := 2) (ret := (some .int)) rfl (by decide) rfl (Nat.le_of_ble_eq_true rfl) ?_
  intro pg en s mi below meth cd hc hnm hw ls hl
  obtain ⟨hx, hb, -, hown, hts, -⟩ := id hc
  have hl : lv_has ls 2 [(0, .ref aR), (1, .int w)] := hl
  refine lv_aload_n hx hb dX5_no_0 rfl (lv_at hl 0 rfl) ?_
  refine lv_iload_n hx hb dX5_no_1 rfl (lv_at hl 1 rfl) ?_
  refine xput (C := RX5) (T := TX5) (N := 12) (ty := .int) hc hw inX5_no_X5 tyX5 tyX5_ok nmX5 0 [xO aR 5 [.int w, .int pl, .ref rEx, .ref rRd, .ref rTo, .int rs, .ref rMi, .ref rCl, .ref rSh, .ref rFa, .ref aS, .ref aH]] rfl rfl 0 (by decide) lkX5_no_f42 rfl rfl rfl rfl (Nat.le_of_ble_eq_true rfl) rfl dX5_no_2 (fun H locs hw => ?_)
  refine lv_iconst (v := 0) hx hb dX5_no_5 (by decide) ?_
  exact xret_i w hc hw (xe2 rfl) ⟨Nat.le_of_ble_eq_true rfl, Nat.le_of_ble_eq_true rfl⟩ dX5_no_6
def FX5_isNot (w : Int32) : Int32 × (Int32) :=
  (0, w)
set_option maxHeartbeats 40000000 in
set_option maxRecDepth 100000 in
theorem metX5_isNot (l : Launch) (G : xG) (sz : Nat) (aR : Nat) (rEx : Nat) (rRd : Nat) (rTo : Nat) (rMi : Nat) (rCl : Nat) (rSh : Nat) (rFa : Nat) (aS : Nat) (aH : Nat) (th : Int32) (pl : Int32) (rs : Int32) (w : Int32) : xM l yX5_isNot wsX5_isNot ⟨0, 0, 0, 0⟩ G [.ref aR, .int w] [xO aR 5 [.int th, .int pl, .ref rEx, .ref rRd, .ref rTo, .int rs, .ref rMi, .ref rCl, .ref rSh, .ref rFa, .ref aS, .ref aH]] sz (xQi G [xO aR 5 [.int th, .int pl, .ref rEx, .ref rRd, .ref rTo, .int rs, .ref rMi, .ref rCl, .ref rSh, .ref rFa, .ref aS, .ref aH]] sz (fun (r : Int32) (u : (Int32)) => r = (FX5_isNot w).1 ∧ u = (FX5_isNot w).2) (fun u : (Int32) => [xO aR 5 [.int u, .int pl, .ref rEx, .ref rRd, .ref rTo, .int rs, .ref rMi, .ref rCl, .ref rSh, .ref rFa, .ref aS, .ref aH]])) := by
  refine xof (own := RX5) (cc := cX5_isNot) (maxL := 2) (ret := (some .boolean)) rfl (by decide) rfl (Nat.le_of_ble_eq_true rfl) ?_
  intro pg en s mi below meth cd hc hnm hw ls hl
  obtain ⟨hx, hb, -, hown, hts, -⟩ := id hc
  have hl : lv_has ls 2 [(0, .ref aR), (1, .int w)] := hl
  refine lv_aload_n hx hb dX5_isNot_0 rfl (lv_at hl 0 rfl) ?_
  refine lv_iload_n hx hb dX5_isNot_1 rfl (lv_at hl 1 rfl) ?_
  refine xput (C := RX5) (T := TX5) (N := 12) (ty := .int) hc hw inX5_isNot_X5 tyX5 tyX5_ok nmX5 0 [xO aR 5 [.int w, .int pl, .ref rEx, .ref rRd, .ref rTo, .int rs, .ref rMi, .ref rCl, .ref rSh, .ref rFa, .ref aS, .ref aH]] rfl rfl 0 (by decide) lkX5_isNot_f42 rfl rfl rfl rfl (Nat.le_of_ble_eq_true rfl) rfl dX5_isNot_2 (fun H locs hw => ?_)
  refine lv_iconst (v := 0) hx hb dX5_isNot_5 (by decide) ?_
  exact xret_z w hc hw rfl (xe2 rfl) ⟨Nat.le_of_ble_eq_true rfl, Nat.le_of_ble_eq_true rfl⟩ dX5_isNot_6
def FX5_ok (w : Int32) : Int32 × (Int32) :=
  (w, 0)
set_option maxHeartbeats 40000000 in
set_option maxRecDepth 100000 in
theorem metX5_ok (l : Launch) (G : xG) (sz : Nat) (aR : Nat) (rEx : Nat) (rRd : Nat) (rTo : Nat) (rMi : Nat) (rCl : Nat) (rSh : Nat) (rFa : Nat) (aS : Nat) (aH : Nat) (th : Int32) (pl : Int32) (rs : Int32) (w : Int32) : xM l yX5_ok wsX5_ok ⟨0, 0, 0, 0⟩ G [.ref aR, .int w] [xO aR 5 [.int th, .int pl, .ref rEx, .ref rRd, .ref rTo, .int rs, .ref rMi, .ref rCl, .ref rSh, .ref rFa, .ref aS, .ref aH]] sz (xQi G [xO aR 5 [.int th, .int pl, .ref rEx, .ref rRd, .ref rTo, .int rs, .ref rMi, .ref rCl, .ref rSh, .ref rFa, .ref aS, .ref aH]] sz (fun (r : Int32) (u : (Int32)) => r = (FX5_ok w).1 ∧ u = (FX5_ok w).2) (fun u : (Int32) => [xO aR 5 [.int u, .int pl, .ref rEx, .ref rRd, .ref rTo, .int rs, .ref rMi, .ref rCl, .ref rSh, .ref rFa, .ref aS, .ref aH]])) := by
  refine xof (own := RX5) (cc := cX5_ok) (maxL := 2) (ret := (some .int)) rfl (by decide) rfl (Nat.le_of_ble_eq_true rfl) ?_
  intro pg en s mi below meth cd hc hnm hw ls hl
  obtain ⟨hx, hb, -, hown, hts, -⟩ := id hc
  have hl : lv_has ls 2 [(0, .ref aR), (1, .int w)] := hl
  refine lv_aload_n hx hb dX5_ok_0 rfl (lv_at hl 0 rfl) ?_
  refine lv_iconst (v := 0) hx hb dX5_ok_1 (by decide) ?_
  refine xput (C := RX5) (T := TX5) (N := 12) (ty := .int) hc hw inX5_ok_X5 tyX5 tyX5_ok nmX5 0 [xO aR 5 [.int 0, .int pl, .ref rEx, .ref rRd, .ref rTo, .int rs, .ref rMi, .ref rCl, .ref rSh, .ref rFa, .ref aS, .ref aH]] rfl rfl 0 (by decide) lkX5_ok_f42 rfl rfl rfl rfl (Nat.le_of_ble_eq_true rfl) rfl dX5_ok_2 (fun H locs hw => ?_)
  refine lv_iload_n hx hb dX5_ok_5 rfl (lv_at hl 1 rfl) ?_
  exact xret_i 0 hc hw (xe2 rfl) ⟨Nat.le_of_ble_eq_true rfl, Nat.le_of_ble_eq_true rfl⟩ dX5_ok_6
def FX5_thrown (th : Int32) : Int32 :=
  th
set_option maxHeartbeats 40000000 in
set_option maxRecDepth 100000 in
theorem metX5_thrown (l : Launch) (G : xG) (sz : Nat) (aR : Nat) (rEx : Nat) (rRd : Nat) (rTo : Nat) (rMi : Nat) (rCl : Nat) (rSh : Nat) (rFa : Nat) (aS : Nat) (aH : Nat) (th : Int32) (pl : Int32) (rs : Int32) : xM l yX5_thrown wsX5_thrown ⟨0, 0, 0, 0⟩ G [.ref aR] [xO aR 5 [.int th, .int pl, .ref rEx, .ref rRd, .ref rTo, .int rs, .ref rMi, .ref rCl, .ref rSh, .ref rFa, .ref aS, .ref aH]] sz (xQi G [xO aR 5 [.int th, .int pl, .ref rEx, .ref rRd, .ref rTo, .int rs, .ref rMi, .ref rCl, .ref rSh, .ref rFa, .ref aS, .ref aH]] sz (fun (r : Int32) (_ : Unit) => r = FX5_thrown th) (fun u : Unit => [xO aR 5 [.int th, .int pl, .ref rEx, .ref rRd, .ref rTo, .int rs, .ref rMi, .ref rCl, .ref rSh, .ref rFa, .ref aS, .ref aH]])) := by
  refine xof (own := RX5) (cc := cX5_thrown) (maxL := 1) (ret := (some .int)) rfl (by decide) rfl (Nat.le_of_ble_eq_true rfl) ?_
  intro pg en s mi below meth cd hc hnm hw ls hl
  obtain ⟨hx, hb, -, hown, hts, -⟩ := id hc
  have hl : lv_has ls 1 [(0, .ref aR)] := hl
  refine lv_aload_n hx hb dX5_thrown_0 rfl (lv_at hl 0 rfl) ?_
  refine xget (C := RX5) (T := TX5) (N := 12) hc hw inX5_thrown_X5 0 rfl rfl 0 (by decide) lkX5_thrown_f42 rfl rfl dX5_thrown_1 ?_
  exact xret_i () hc hw (Eq.symm rfl) ⟨Nat.le_of_ble_eq_true rfl, Nat.le_of_ble_eq_true rfl⟩ dX5_thrown_4
def FX5_one (b : Int32) : Int32 :=
  if b = 0 then (0) else (1)
set_option maxHeartbeats 40000000 in
set_option maxRecDepth 100000 in
theorem metX5_one (l : Launch) (G : xG) (sz : Nat) (b : Int32) : xM l yX5_one wsX5_one ⟨0, 0, 0, 0⟩ G [.int b] [] sz (xQi G [] sz (fun (r : Int32) (_ : Unit) => r = FX5_one b) (fun u : Unit => [])) := by
  refine xof (own := RX5) (cc := cX5_one) (maxL := 1) (ret := (some .int)) rfl (by decide) rfl (Nat.le_of_ble_eq_true rfl) ?_
  intro pg en s mi below meth cd hc hnm hw ls hl
  obtain ⟨hx, hb, -, hown, hts, -⟩ := id hc
  have hl : lv_has ls 1 [(0, .int b)] := hl
  refine lv_iload_n hx hb dX5_one_0 rfl (lv_at hl 0 rfl) ?_
  refine lv_if_eq (tgt := 8) hx hb dX5_one_1 (by decide) (fun c_1 => ?_) (fun c_1 => ?_)
  · refine lv_iconst (v := 0) hx hb dX5_one_8 (by decide) ?_
    exact xret_i () hc hw (Eq.symm (if_pos c_1)) ⟨Nat.le_of_ble_eq_true rfl, Nat.le_of_ble_eq_true rfl⟩ dX5_one_9
  · refine lv_iconst (v := 1) hx hb dX5_one_4 (by decide) ?_
    refine lv_goto (tgt := 9) hx hb dX5_one_5 (by decide) ?_
    exact xret_i () hc hw (Eq.symm (if_neg c_1)) ⟨Nat.le_of_ble_eq_true rfl, Nat.le_of_ble_eq_true rfl⟩ dX5_one_9
