def FX5_pay (co : Int32) (x : Int32) : Int32 × (Int32) × (Int32) :=
  xbind (FX5_isIn x 1 99) (fun r2 => if r2 = 0 then (xbind2 (FX5_no 1) (fun r7 u6 => (r7, u6, co))) else ((if co + x < 99 then co + x else 99, 0, if co + x < 99 then co + x else 99)))
set_option maxHeartbeats 40000000 in
set_option maxRecDepth 100000 in
theorem metX5_pay (l : Launch) (G : xG) (sz : Nat) (aR : Nat) (rEx : Nat) (rRd : Nat) (rTo : Nat) (rMi : Nat) (rCl : Nat) (rSh : Nat) (rFa : Nat) (aS : Nat) (aH : Nat) (sTr : Nat) (sAk : Nat) (sWy : Nat) (sXe : Nat) (sSg : Nat) (th : Int32) (pl : Int32) (rs : Int32) (po : Int32) (co : Int32) (go : Int32) (ln : Int32) (wk : Int32) (db : Int32) (dn : Int32) (iv : Int32) (qs : Int32) (x : Int32) : xM l yX5_pay wsX5_pay ⟨1, 0, 0, 22⟩ G [.ref aR, .int x] [xO aR 5 [.int th, .int pl, .ref rEx, .ref rRd, .ref rTo, .int rs, .ref rMi, .ref rCl, .ref rSh, .ref rFa, .ref aS, .ref aH], xO aS 4 [.int po, .int co, .int go, .ref sTr, .ref sAk, .ref sWy, .int ln, .ref sXe, .ref sSg, .int wk, .int db, .int dn, .int iv, .int qs]] sz (xQi G [xO aR 5 [.int th, .int pl, .ref rEx, .ref rRd, .ref rTo, .int rs, .ref rMi, .ref rCl, .ref rSh, .ref rFa, .ref aS, .ref aH], xO aS 4 [.int po, .int co, .int go, .ref sTr, .ref sAk, .ref sWy, .int ln, .ref sXe, .ref sSg, .int wk, .int db, .int dn, .int iv, .int qs]] sz (fun (r : Int32) (u : (Int32) × (Int32)) => r = (FX5_pay co x).1 ∧ u = (FX5_pay co x).2) (fun u : (Int32) × (Int32) => [xO aR 5 [.int u.1, .int pl, .ref rEx, .ref rRd, .ref rTo, .int rs, .ref rMi, .ref rCl, .ref rSh, .ref rFa, .ref aS, .ref aH], xO aS 4 [.int po, .int u.2, .int go, .ref sTr, .ref sAk, .ref sWy, .int ln, .ref sXe, .ref sSg, .int wk, .int db, .int dn, .int iv, .int qs]])) := by
  refine xof (own := RX5) (cc := cX5_pay) (maxL := 2) (ret := (some .int)) rfl (by decide) rfl (Nat.le_of_ble_eq_true rfl) ?_
  intro pg en s mi below meth cd hc hnm hw ls hl
  obtain ⟨hx, hb, -, hown, hts, -⟩ := id hc
  have hl : lv_has ls 2 [(0, .ref aR), (1, .int x)] := hl
  refine lv_aload_n hx hb dX5_pay_0 rfl (lv_at hl 0 rfl) ?_
  refine lv_iconst (v := 0) hx hb dX5_pay_1 (by decide) ?_
  refine xput (C := RX5) (T := TX5) (N := 12) (ty := .int) hc hw inX5_pay_X5 tyX5 tyX5_ok nmX5 0 [xO aR 5 [.int 0, .int pl, .ref rEx, .ref rRd, .ref rTo, .int rs, .ref rMi, .ref rCl, .ref rSh, .ref rFa, .ref aS, .ref aH], xO aS 4 [.int po, .int co, .int go, .ref sTr, .ref sAk, .ref sWy, .int ln, .ref sXe, .ref sSg, .int wk, .int db, .int dn, .int iv, .int qs]] rfl rfl 0 (by decide) lkX5_pay_f42 rfl rfl rfl rfl (Nat.le_of_ble_eq_true rfl) rfl dX5_pay_2 (fun H locs hw => ?_)
  refine lv_iload_n hx hb dX5_pay_5 rfl (lv_at hl 1 rfl) ?_
  refine lv_iconst (v := 1) hx hb dX5_pay_6 (by decide) ?_
  refine lv_bipush (v := 99) hx hb dX5_pay_7 (by decide) ?_
  refine xcall_i (isC := []) hc hw (xrunS (n := 3) (As := [.int x, .int 1, .int 99]) (rest := []) hc hw [] (metX5_isIn l G _ x 1 99) gX5_pay_X5_isIn rfl (by decide +kernel) ⟨Nat.le_of_ble_eq_true rfl, Nat.le_of_ble_eq_true rfl⟩ rfl rfl rfl rfl hl.1 (Nat.le_of_ble_eq_true rfl) dX5_pay_9 ⟨Nat.le_of_ble_eq_true rfl, Nat.le_of_ble_eq_true rfl⟩) rfl [0, 1] [0, 1] (fun u1 => [xO aR 5 [.int 0, .int pl, .ref rEx, .ref rRd, .ref rTo, .int rs, .ref rMi, .ref rCl, .ref rSh, .ref rFa, .ref aS, .ref aH], xO aS 4 [.int po, .int co, .int go, .ref sTr, .ref sAk, .ref sWy, .int ln, .ref sXe, .ref sSg, .int wk, .int db, .int dn, .int iv, .int qs]]) (fun _ => rfl) rfl rfl rfl rfl (fun r2 u1 H locs hp3 hw => ?_)
  refine lv_if_ne (tgt := 21) hx hb dX5_pay_12 (by decide) (fun c_5 => ?_) (fun c_5 => ?_)
  · refine lv_aload_n hx hb dX5_pay_21 rfl (lv_at hl 0 rfl) ?_
    refine xget (C := RX5) (T := TX5) (N := 12) hc hw inX5_pay_X5 0 rfl rfl 10 (by decide) lkX5_pay_f35 rfl rfl dX5_pay_22 ?_
    refine lv_bipush (v := 99) hx hb dX5_pay_25 (by decide) ?_
    refine lv_aload_n hx hb dX5_pay_27 rfl (lv_at hl 0 rfl) ?_
    refine xget (C := RX5) (T := TX5) (N := 12) hc hw inX5_pay_X5 0 rfl rfl 10 (by decide) lkX5_pay_f35 rfl rfl dX5_pay_28 ?_
    refine xgetN (C := RX4) (T := TX4) (N := 14) hc hw inX5_pay_X4 1 rfl rfl 1 (by decide) nkX5_97 rfl rfl dX5_pay_31 ?_
    refine lv_iload_n hx hb dX5_pay_34 rfl (lv_at hl 1 rfl) ?_
    refine lv_iadd hx hb dX5_pay_35 ?_
    refine va_mmin hx hb (hc.2.2.1.trans hl.1.symm) hown (hts _ lkX5_pay_m131) (hts _ lkX5_pay_msmin) (hts _ lkX5_pay_mi) (hts _ lkX5_pay_mcmin) (Nat.le_of_ble_eq_true rfl) (Nat.le_of_ble_eq_true rfl) (Nat.le_of_ble_eq_true rfl) (Nat.le_of_ble_eq_true rfl) dX5_pay_36 ?_
    refine xputN (C := RX4) (T := TX4) (N := 14) (ty := .int) hc hw inX5_pay_X4 tyX4 tyX4_ok nmX4 1 [xO aR 5 [.int 0, .int pl, .ref rEx, .ref rRd, .ref rTo, .int rs, .ref rMi, .ref rCl, .ref rSh, .ref rFa, .ref aS, .ref aH], xO aS 4 [.int po, .int (if co + x < 99 then co + x else 99), .int go, .ref sTr, .ref sAk, .ref sWy, .int ln, .ref sXe, .ref sSg, .int wk, .int db, .int dn, .int iv, .int qs]] rfl rfl 1 (by decide) nkX5_97 rfl rfl rfl rfl (Nat.le_of_ble_eq_true rfl) rfl dX5_pay_39 (fun H locs hw => ?_)
    refine lv_aload_n hx hb dX5_pay_42 rfl (lv_at hl 0 rfl) ?_
    refine xget (C := RX5) (T := TX5) (N := 12) hc hw inX5_pay_X5 0 rfl rfl 10 (by decide) lkX5_pay_f35 rfl rfl dX5_pay_43 ?_
    refine xgetN (C := RX4) (T := TX4) (N := 14) hc hw inX5_pay_X4 1 rfl rfl 1 (by decide) nkX5_97 rfl rfl dX5_pay_46 ?_
    obtain ⟨u0, hu0⟩ : ∃ z : (Int32) × (Int32), z = (0, if co + x < 99 then co + x else 99) := ⟨_, rfl⟩
    refine xret_i u0 hc ?_ ?_ ⟨Nat.le_of_ble_eq_true rfl, Nat.le_of_ble_eq_true rfl⟩ dX5_pay_49
    · subst hu0; dsimp only; exact hw
    · subst hu0; exact xe2 (xb hp3 (if_neg c_5))
  · refine lv_aload_n hx hb dX5_pay_15 rfl (lv_at hl 0 rfl) ?_
    refine lv_iconst (v := 1) hx hb dX5_pay_16 (by decide) ?_
    refine xcall_i (isC := [0]) hc hw (xrunV (n := 1) (As := [.int 1]) (rest := []) hc hw [0] (metX5_no l G _ aR rEx rRd rTo rMi rCl rSh rFa aS aH 0 pl rs 1) gX5_pay_X5_no rfl (by decide +kernel) ⟨Nat.le_of_ble_eq_true rfl, Nat.le_of_ble_eq_true rfl⟩ 0 rfl rfl rfl rfl rfl rfl hl.1 (Nat.le_of_ble_eq_true rfl) dX5_pay_17 ⟨Nat.le_of_ble_eq_true rfl, Nat.le_of_ble_eq_true rfl⟩) rfl [1] [1, 0] (fun u6 => [xO aR 5 [.int u6, .int pl, .ref rEx, .ref rRd, .ref rTo, .int rs, .ref rMi, .ref rCl, .ref rSh, .ref rFa, .ref aS, .ref aH], xO aS 4 [.int po, .int co, .int go, .ref sTr, .ref sAk, .ref sWy, .int ln, .ref sXe, .ref sSg, .int wk, .int db, .int dn, .int iv, .int qs]]) (fun _ => rfl) rfl rfl rfl rfl (fun r7 u6 H locs hp8 hw => ?_)
    obtain ⟨u0, hu0⟩ : ∃ z : (Int32) × (Int32), z = (u6, co) := ⟨_, rfl⟩
    refine xret_i u0 hc ?_ ?_ ⟨Nat.le_of_ble_eq_true rfl, Nat.le_of_ble_eq_true rfl⟩ dX5_pay_20
    · subst hu0; dsimp only; exact hw
    · subst hu0; exact xe2 (xb hp3 (Eq.trans (if_pos c_5) (xb2 hp8 rfl)))
def FX5_start (po : Int32) (go : Int32) (ln : Int32) (dn : Int32) (tr : Nat → Int32) (ak : Nat → Int32) (g : Int32) : (Int32) × (Int32) × (Int32) × (Nat → Int32) × (Nat → Int32) :=
  if g = po then ((go, ln, dn + 1, tr, ak)) else (xbind (FX4_begin tr ak g) (fun u2 => (u2.1, u2.2.1, dn, u2.2.2.1, u2.2.2.2)))
set_option maxHeartbeats 40000000 in
set_option maxRecDepth 100000 in
theorem metX5_start (l : Launch) (G : xG) (sz : Nat) (aO : Nat) (oTr : Nat) (oAk : Nat) (oWy : Nat) (oXe : Nat) (oSg : Nat) (po : Int32) (co : Int32) (go : Int32) (ln : Int32) (wk : Int32) (db : Int32) (dn : Int32) (iv : Int32) (qs : Int32) (tr : Nat → Int32) (ak : Nat → Int32) (g : Int32) : xM l yX5_start wsX5_start ⟨1, 0, 0, 22⟩ G [.ref aO, .int g] [xO aO 4 [.int po, .int co, .int go, .ref oTr, .ref oAk, .ref oWy, .int ln, .ref oXe, .ref oSg, .int wk, .int db, .int dn, .int iv, .int qs], xAZ G oTr 20 tr, xAZ G oAk 10 ak] sz (xQv G [xO aO 4 [.int po, .int co, .int go, .ref oTr, .ref oAk, .ref oWy, .int ln, .ref oXe, .ref oSg, .int wk, .int db, .int dn, .int iv, .int qs], xAZ G oTr 20 tr, xAZ G oAk 10 ak] sz (fun (u : (Int32) × (Int32) × (Int32) × (Nat → Int32) × (Nat → Int32)) => u = FX5_start po go ln dn tr ak g) (fun u : (Int32) × (Int32) × (Int32) × (Nat → Int32) × (Nat → Int32) => [xO aO 4 [.int po, .int co, .int u.1, .ref oTr, .ref oAk, .ref oWy, .int u.2.1, .ref oXe, .ref oSg, .int wk, .int db, .int u.2.2.1, .int iv, .int qs], xAZ G oTr 20 u.2.2.2.1, xAZ G oAk 10 u.2.2.2.2])) := by
  refine xof (own := RX5) (cc := cX5_start) (maxL := 2) (ret := none) rfl (by decide) rfl (Nat.le_of_ble_eq_true rfl) ?_
  intro pg en s mi below meth cd hc hnm hw ls hl
  obtain ⟨hx, hb, -, hown, hts, -⟩ := id hc
  have hl : lv_has ls 2 [(0, .ref aO), (1, .int g)] := hl
  refine lv_iload_n hx hb dX5_start_0 rfl (lv_at hl 1 rfl) ?_
  refine lv_aload_n hx hb dX5_start_1 rfl (lv_at hl 0 rfl) ?_
  refine xgetN (C := RX4) (T := TX4) (N := 14) hc hw inX5_start_X4 0 rfl rfl 0 (by decide) nkX5_61 rfl rfl dX5_start_2 ?_
  refine lv_icmp_ne (tgt := 21) hx hb dX5_start_5 (by decide) (fun c_1 => ?_) (fun c_1 => ?_)
  · refine lv_aload_n hx hb dX5_start_21 rfl (lv_at hl 0 rfl) ?_
    refine lv_iload_n hx hb dX5_start_22 rfl (lv_at hl 1 rfl) ?_
    refine xcall_v (isC := [0, 1, 2]) hc hw (xrunV (n := 1) (As := [.int g]) (rest := []) hc hw [0, 1, 2] (metX4_begin l G _ aO oTr oAk oWy oXe oSg po co go ln wk db dn iv qs tr ak g) gX5_start_X4_begin rfl (by decide +kernel) ⟨Nat.le_of_ble_eq_true rfl, Nat.le_of_ble_eq_true rfl⟩ 0 rfl rfl rfl rfl rfl rfl hl.1 (Nat.le_of_ble_eq_true rfl) dX5_start_23 ⟨Nat.le_of_ble_eq_true rfl, Nat.le_of_ble_eq_true rfl⟩) rfl [] [0, 1, 2] (fun u2 => [xO aO 4 [.int po, .int co, .int u2.1, .ref oTr, .ref oAk, .ref oWy, .int u2.2.1, .ref oXe, .ref oSg, .int wk, .int db, .int dn, .int iv, .int qs], xAZ G oTr 20 u2.2.2.1, xAZ G oAk 10 u2.2.2.2]) (fun _ => rfl) rfl rfl rfl rfl (fun u2 H locs hp4 hw => ?_)
    obtain ⟨u0, hu0⟩ : ∃ z : (Int32) × (Int32) × (Int32) × (Nat → Int32) × (Nat → Int32), z = (u2.1, u2.2.1, dn, u2.2.2.1, u2.2.2.2) := ⟨_, rfl⟩
    refine xret_v u0 hc ?_ ?_ ⟨Nat.le_of_ble_eq_true rfl, Nat.le_of_ble_eq_true rfl⟩ dX5_start_26
    · subst hu0; dsimp only; exact hw
    · subst hu0; exact Eq.symm (Eq.trans (if_neg c_1) (xb hp4 rfl))
  · refine lv_aload_n hx hb dX5_start_8 rfl (lv_at hl 0 rfl) ?_
    refine lv_dup hx hb dX5_start_9 rfl ?_
    refine xgetN (C := RX4) (T := TX4) (N := 14) hc hw inX5_start_X4 0 rfl rfl 11 (by decide) nkX5_156 rfl rfl dX5_start_10 ?_
    refine lv_iconst (v := 1) hx hb dX5_start_13 (by decide) ?_
    refine lv_iadd hx hb dX5_start_14 ?_
    refine xputN (C := RX4) (T := TX4) (N := 14) (ty := .int) hc hw inX5_start_X4 tyX4 tyX4_ok nmX4 0 [xO aO 4 [.int po, .int co, .int go, .ref oTr, .ref oAk, .ref oWy, .int ln, .ref oXe, .ref oSg, .int wk, .int db, .int (dn + 1), .int iv, .int qs], xAZ G oTr 20 tr, xAZ G oAk 10 ak] rfl rfl 11 (by decide) nkX5_156 rfl rfl rfl rfl (Nat.le_of_ble_eq_true rfl) rfl dX5_start_15 (fun H locs hw => ?_)
    refine lv_goto (tgt := 26) hx hb dX5_start_18 (by decide) ?_
    obtain ⟨u0, hu0⟩ : ∃ z : (Int32) × (Int32) × (Int32) × (Nat → Int32) × (Nat → Int32), z = (go, ln, dn + 1, tr, ak) := ⟨_, rfl⟩
    refine xret_v u0 hc ?_ ?_ ⟨Nat.le_of_ble_eq_true rfl, Nat.le_of_ble_eq_true rfl⟩ dX5_start_26
    · subst hu0; dsimp only; exact hw
    · subst hu0; exact Eq.symm (if_pos c_1)
def FX5_beginErrand (pl : Int32) (ex : Nat → Int32) (rd : Nat → Int32) (tt : Nat → Int32) (ml : Nat → Int32) (cz : Nat → Int32) (fa : Nat → Int32) (po : Int32) (go : Int32) (ln : Int32) (dn : Int32) (tr : Nat → Int32) (ak : Nat → Int32) (g : Int32) : Int32 × (Int32) × (Int32) × (Int32) × (Int32) × (Nat → Int32) × (Nat → Int32) × (Nat → Int32) :=
  xbind (FX5_isPlace pl g) (fun r2 => if r2 = 0 then (xbind2 (FX5_no 1) (fun r20 u19 => (r20, u19, go, ln, dn, tr, ak, fa))) else (if go = (-1) then (xbind (FX5_start po go ln dn tr ak g) (fun u7 => xbind2 (FX5_milesBetween pl ex rd tt ml cz fa po g) (fun r12 u11 => (r12, 0, u7.1, u7.2.1, u7.2.2.1, u7.2.2.2.1, u7.2.2.2.2, u11)))) else (xbind2 (FX5_no 2) (fun r16 u15 => (r16, u15, go, ln, dn, tr, ak, fa)))))
set_option maxHeartbeats 40000000 in
set_option maxRecDepth 100000 in
theorem metX5_beginErrand (l : Launch) (G : xG) (sz : Nat) (aR : Nat) (rEx : Nat) (rRd : Nat) (rTo : Nat) (rMi : Nat) (rCl : Nat) (rSh : Nat) (rFa : Nat) (aS : Nat) (aH : Nat) (sTr : Nat) (sAk : Nat) (sWy : Nat) (sXe : Nat) (sSg : Nat) (th : Int32) (pl : Int32) (rs : Int32) (ex : Nat → Int32) (rd : Nat → Int32) (tt : Nat → Int32) (ml : Nat → Int32) (cz : Nat → Int32) (fa : Nat → Int32) (po : Int32) (co : Int32) (go : Int32) (ln : Int32) (wk : Int32) (db : Int32) (dn : Int32) (iv : Int32) (qs : Int32) (tr : Nat → Int32) (ak : Nat → Int32) (g : Int32) (hpl : 0 ≤ pl.toInt ∧ pl.toInt ≤ 10) (hrd : ∀ k, k < 40 → 0 ≤ (rd k).toInt ∧ (rd k).toInt < 20) (htt : ∀ k, k < 40 → 0 ≤ (tt k).toInt ∧ (tt k).toInt < 10) (hpw : 0 < pl.toInt → 0 ≤ po.toInt ∧ po.toInt < 10) : xM l yX5_beginErrand wsX5_beginErrand ⟨2, 0, 0, 46⟩ G [.ref aR, .int g] [xO aR 5 [.int th, .int pl, .ref rEx, .ref rRd, .ref rTo, .int rs, .ref rMi, .ref rCl, .ref rSh, .ref rFa, .ref aS, .ref aH], xAI G rEx 10 ex, xAI G rRd 40 rd, xAI G rTo 40 tt, xAI G rMi 20 ml, xAZ G rCl 20 cz, xAI G rFa 10 fa, xO aS 4 [.int po, .int co, .int go, .ref sTr, .ref sAk, .ref sWy, .int ln, .ref sXe, .ref sSg, .int wk, .int db, .int dn, .int iv, .int qs], xAZ G sTr 20 tr, xAZ G sAk 10 ak] sz (xQi G [xO aR 5 [.int th, .int pl, .ref rEx, .ref rRd, .ref rTo, .int rs, .ref rMi, .ref rCl, .ref rSh, .ref rFa, .ref aS, .ref aH], xAI G rEx 10 ex, xAI G rRd 40 rd, xAI G rTo 40 tt, xAI G rMi 20 ml, xAZ G rCl 20 cz, xAI G rFa 10 fa, xO aS 4 [.int po, .int co, .int go, .ref sTr, .ref sAk, .ref sWy, .int ln, .ref sXe, .ref sSg, .int wk, .int db, .int dn, .int iv, .int qs], xAZ G sTr 20 tr, xAZ G sAk 10 ak] sz (fun (r : Int32) (u : (Int32) × (Int32) × (Int32) × (Int32) × (Nat → Int32) × (Nat → Int32) × (Nat → Int32)) => r = (FX5_beginErrand pl ex rd tt ml cz fa po go ln dn tr ak g).1 ∧ u = (FX5_beginErrand pl ex rd tt ml cz fa po go ln dn tr ak g).2) (fun u : (Int32) × (Int32) × (Int32) × (Int32) × (Nat → Int32) × (Nat → Int32) × (Nat → Int32) => [xO aR 5 [.int u.1, .int pl, .ref rEx, .ref rRd, .ref rTo, .int rs, .ref rMi, .ref rCl, .ref rSh, .ref rFa, .ref aS, .ref aH], xAI G rEx 10 ex, xAI G rRd 40 rd, xAI G rTo 40 tt, xAI G rMi 20 ml, xAZ G rCl 20 cz, xAI G rFa 10 u.2.2.2.2.2.2, xO aS 4 [.int po, .int co, .int u.2.1, .ref sTr, .ref sAk, .ref sWy, .int u.2.2.1, .ref sXe, .ref sSg, .int wk, .int db, .int u.2.2.2.1, .int iv, .int qs], xAZ G sTr 20 u.2.2.2.2.1, xAZ G sAk 10 u.2.2.2.2.2.1])) := by
  refine xof (own := RX5) (cc := cX5_beginErrand) (maxL := 2) (ret := (some .int)) rfl (by decide) rfl (Nat.le_of_ble_eq_true rfl) ?_
  intro pg en s mi below meth cd hc hnm hw ls hl
  obtain ⟨hx, hb, -, hown, hts, -⟩ := id hc
  have hl : lv_has ls 2 [(0, .ref aR), (1, .int g)] := hl
  refine lv_aload_n hx hb dX5_beginErrand_0 rfl (lv_at hl 0 rfl) ?_
  refine lv_iconst (v := 0) hx hb dX5_beginErrand_1 (by decide) ?_
  refine xput (C := RX5) (T := TX5) (N := 12) (ty := .int) hc hw inX5_beginErrand_X5 tyX5 tyX5_ok nmX5 0 [xO aR 5 [.int 0, .int pl, .ref rEx, .ref rRd, .ref rTo, .int rs, .ref rMi, .ref rCl, .ref rSh, .ref rFa, .ref aS, .ref aH], xAI G rEx 10 ex, xAI G rRd 40 rd, xAI G rTo 40 tt, xAI G rMi 20 ml, xAZ G rCl 20 cz, xAI G rFa 10 fa, xO aS 4 [.int po, .int co, .int go, .ref sTr, .ref sAk, .ref sWy, .int ln, .ref sXe, .ref sSg, .int wk, .int db, .int dn, .int iv, .int qs], xAZ G sTr 20 tr, xAZ G sAk 10 ak] rfl rfl 0 (by decide) lkX5_beginErrand_f42 rfl rfl rfl rfl (Nat.le_of_ble_eq_true rfl) rfl dX5_beginErrand_2 (fun H locs hw => ?_)
  refine lv_aload_n hx hb dX5_beginErrand_5 rfl (lv_at hl 0 rfl) ?_
  refine lv_iload_n hx hb dX5_beginErrand_6 rfl (lv_at hl 1 rfl) ?_
  refine xcall_i (isC := [0]) hc hw (xrunV (n := 1) (As := [.int g]) (rest := []) hc hw [0] (metX5_isPlace l G _ aR rEx rRd rTo rMi rCl rSh rFa aS aH 0 pl rs g) gX5_beginErrand_X5_isPlace rfl (by decide +kernel) ⟨Nat.le_of_ble_eq_true rfl, Nat.le_of_ble_eq_true rfl⟩ 0 rfl rfl rfl rfl rfl rfl hl.1 (Nat.le_of_ble_eq_true rfl) dX5_beginErrand_7 ⟨Nat.le_of_ble_eq_true rfl, Nat.le_of_ble_eq_true rfl⟩) rfl [1, 2, 3, 4, 5, 6, 7, 8, 9] [9, 0, 1, 2, 3, 4, 5, 6, 7, 8] (fun u1 => [xO aR 5 [.int 0, .int pl, .ref rEx, .ref rRd, .ref rTo, .int rs, .ref rMi, .ref rCl, .ref rSh, .ref rFa, .ref aS, .ref aH], xAI G rEx 10 ex, xAI G rRd 40 rd, xAI G rTo 40 tt, xAI G rMi 20 ml, xAZ G rCl 20 cz, xAI G rFa 10 fa, xO aS 4 [.int po, .int co, .int go, .ref sTr, .ref sAk, .ref sWy, .int ln, .ref sXe, .ref sSg, .int wk, .int db, .int dn, .int iv, .int qs], xAZ G sTr 20 tr, xAZ G sAk 10 ak]) (fun _ => rfl) rfl rfl rfl rfl (fun r2 u1 H locs hp3 hw => ?_)
  refine lv_if_ne (tgt := 19) hx hb dX5_beginErrand_10 (by decide) (fun c_5 => ?_) (fun c_5 => ?_)
  · refine lv_aload_n hx hb dX5_beginErrand_19 rfl (lv_at hl 0 rfl) ?_
    refine xget (C := RX5) (T := TX5) (N := 12) hc hw inX5_beginErrand_X5 0 rfl rfl 10 (by decide) lkX5_beginErrand_f35 rfl rfl dX5_beginErrand_20 ?_
    refine xgetN (C := RX4) (T := TX4) (N := 14) hc hw inX5_beginErrand_X4 7 rfl rfl 2 (by decide) nkX5_103 rfl rfl dX5_beginErrand_23 ?_
    refine lv_iconst (v := (-1)) hx hb dX5_beginErrand_26 (by decide) ?_
    refine lv_icmp_eq (tgt := 36) hx hb dX5_beginErrand_27 (by decide) (fun c_6 => ?_) (fun c_6 => ?_)
    · refine lv_aload_n hx hb dX5_beginErrand_36 rfl (lv_at hl 0 rfl) ?_
      refine xget (C := RX5) (T := TX5) (N := 12) hc hw inX5_beginErrand_X5 0 rfl rfl 10 (by decide) lkX5_beginErrand_f35 rfl rfl dX5_beginErrand_37 ?_
      refine lv_iload_n hx hb dX5_beginErrand_40 rfl (lv_at hl 1 rfl) ?_
      refine xcall_v (isC := [7, 8, 9]) hc hw (xrunS (n := 2) (As := [.ref aS, .int g]) (rest := []) hc hw [7, 8, 9] (metX5_start l G _ aS sTr sAk sWy sXe sSg po co go ln wk db dn iv qs tr ak g) gX5_beginErrand_X5_start rfl (by decide +kernel) ⟨Nat.le_of_ble_eq_true rfl, Nat.le_of_ble_eq_true rfl⟩ rfl rfl rfl rfl hl.1 (Nat.le_of_ble_eq_true rfl) dX5_beginErrand_41 ⟨Nat.le_of_ble_eq_true rfl, Nat.le_of_ble_eq_true rfl⟩) rfl [0, 1, 2, 3, 4, 5, 6] [0, 1, 2, 3, 4, 5, 6, 7, 8, 9] (fun u7 => [xO aR 5 [.int 0, .int pl, .ref rEx, .ref rRd, .ref rTo, .int rs, .ref rMi, .ref rCl, .ref rSh, .ref rFa, .ref aS, .ref aH], xAI G rEx 10 ex, xAI G rRd 40 rd, xAI G rTo 40 tt, xAI G rMi 20 ml, xAZ G rCl 20 cz, xAI G rFa 10 fa, xO aS 4 [.int po, .int co, .int u7.1, .ref sTr, .ref sAk, .ref sWy, .int u7.2.1, .ref sXe, .ref sSg, .int wk, .int db, .int u7.2.2.1, .int iv, .int qs], xAZ G sTr 20 u7.2.2.2.1, xAZ G sAk 10 u7.2.2.2.2]) (fun _ => rfl) rfl rfl rfl rfl (fun u7 H locs hp9 hw => ?_)
      refine lv_aload_n hx hb dX5_beginErrand_44 rfl (lv_at hl 0 rfl) ?_
      refine lv_aload_n hx hb dX5_beginErrand_45 rfl (lv_at hl 0 rfl) ?_
      refine xget (C := RX5) (T := TX5) (N := 12) hc hw inX5_beginErrand_X5 0 rfl rfl 10 (by decide) lkX5_beginErrand_f35 rfl rfl dX5_beginErrand_46 ?_
      refine xgetN (C := RX4) (T := TX4) (N := 14) hc hw inX5_beginErrand_X4 7 rfl rfl 0 (by decide) nkX5_61 rfl rfl dX5_beginErrand_49 ?_
      refine lv_iload_n hx hb dX5_beginErrand_52 rfl (lv_at hl 1 rfl) ?_
      refine xcall_i (isC := [0, 1, 2, 3, 4, 5, 6]) hc hw (xrunV (n := 2) (As := [.int po, .int g]) (rest := []) hc hw [0, 1, 2, 3, 4, 5, 6] (metX5_milesBetween l G _ aR rEx rRd rTo rMi rCl rSh rFa aS aH 0 pl rs ex rd tt ml cz fa po g hpl hrd htt (hpw (by have := pX5_isPlace hpl hp3 c_5; omega))) gX5_beginErrand_X5_milesBetween rfl (by decide +kernel) ⟨Nat.le_of_ble_eq_true rfl, Nat.le_of_ble_eq_true rfl⟩ 0 rfl rfl rfl rfl rfl rfl hl.1 (Nat.le_of_ble_eq_true rfl) dX5_beginErrand_53 ⟨Nat.le_of_ble_eq_true rfl, Nat.le_of_ble_eq_true rfl⟩) rfl [7, 8, 9] [3, 4, 5, 6, 7, 8, 9, 0, 1, 2] (fun u11 => [xO aR 5 [.int 0, .int pl, .ref rEx, .ref rRd, .ref rTo, .int rs, .ref rMi, .ref rCl, .ref rSh, .ref rFa, .ref aS, .ref aH], xAI G rEx 10 ex, xAI G rRd 40 rd, xAI G rTo 40 tt, xAI G rMi 20 ml, xAZ G rCl 20 cz, xAI G rFa 10 u11, xO aS 4 [.int po, .int co, .int u7.1, .ref sTr, .ref sAk, .ref sWy, .int u7.2.1, .ref sXe, .ref sSg, .int wk, .int db, .int u7.2.2.1, .int iv, .int qs], xAZ G sTr 20 u7.2.2.2.1, xAZ G sAk 10 u7.2.2.2.2]) (fun _ => rfl) rfl rfl rfl rfl (fun r12 u11 H locs hp13 hw => ?_)
      obtain ⟨u0, hu0⟩ : ∃ z : (Int32) × (Int32) × (Int32) × (Int32) × (Nat → Int32) × (Nat → Int32) × (Nat → Int32), z = (0, u7.1, u7.2.1, u7.2.2.1, u7.2.2.2.1, u7.2.2.2.2, u11) := ⟨_, rfl⟩
      refine xret_i u0 hc ?_ ?_ ⟨Nat.le_of_ble_eq_true rfl, Nat.le_of_ble_eq_true rfl⟩ dX5_beginErrand_56
      · subst hu0; dsimp only; exact hw
      · subst hu0; exact xe2 (xb hp3 (Eq.trans (if_neg c_5) (Eq.trans (if_pos c_6) (xb hp9 (xb2 hp13 rfl)))))
    · refine lv_aload_n hx hb dX5_beginErrand_30 rfl (lv_at hl 0 rfl) ?_
      refine lv_iconst (v := 2) hx hb dX5_beginErrand_31 (by decide) ?_
      refine xcall_i (isC := [0]) hc hw (xrunV (n := 1) (As := [.int 2]) (rest := []) hc hw [0] (metX5_no l G _ aR rEx rRd rTo rMi rCl rSh rFa aS aH 0 pl rs 2) gX5_beginErrand_X5_no rfl (by decide +kernel) ⟨Nat.le_of_ble_eq_true rfl, Nat.le_of_ble_eq_true rfl⟩ 0 rfl rfl rfl rfl rfl rfl hl.1 (Nat.le_of_ble_eq_true rfl) dX5_beginErrand_32 ⟨Nat.le_of_ble_eq_true rfl, Nat.le_of_ble_eq_true rfl⟩) rfl [1, 2, 3, 4, 5, 6, 7, 8, 9] [9, 0, 1, 2, 3, 4, 5, 6, 7, 8] (fun u15 => [xO aR 5 [.int u15, .int pl, .ref rEx, .ref rRd, .ref rTo, .int rs, .ref rMi, .ref rCl, .ref rSh, .ref rFa, .ref aS, .ref aH], xAI G rEx 10 ex, xAI G rRd 40 rd, xAI G rTo 40 tt, xAI G rMi 20 ml, xAZ G rCl 20 cz, xAI G rFa 10 fa, xO aS 4 [.int po, .int co, .int go, .ref sTr, .ref sAk, .ref sWy, .int ln, .ref sXe, .ref sSg, .int wk, .int db, .int dn, .int iv, .int qs], xAZ G sTr 20 tr, xAZ G sAk 10 ak]) (fun _ => rfl) rfl rfl rfl rfl (fun r16 u15 H locs hp17 hw => ?_)
      obtain ⟨u0, hu0⟩ : ∃ z : (Int32) × (Int32) × (Int32) × (Int32) × (Nat → Int32) × (Nat → Int32) × (Nat → Int32), z = (u15, go, ln, dn, tr, ak, fa) := ⟨_, rfl⟩
      refine xret_i u0 hc ?_ ?_ ⟨Nat.le_of_ble_eq_true rfl, Nat.le_of_ble_eq_true rfl⟩ dX5_beginErrand_35
      · subst hu0; dsimp only; exact hw
      · subst hu0; exact xe2 (xb hp3 (Eq.trans (if_neg c_5) (Eq.trans (if_neg c_6) (xb2 hp17 rfl))))
  · refine lv_aload_n hx hb dX5_beginErrand_13 rfl (lv_at hl 0 rfl) ?_
    refine lv_iconst (v := 1) hx hb dX5_beginErrand_14 (by decide) ?_
    refine xcall_i (isC := [0]) hc hw (xrunV (n := 1) (As := [.int 1]) (rest := []) hc hw [0] (metX5_no l G _ aR rEx rRd rTo rMi rCl rSh rFa aS aH 0 pl rs 1) gX5_beginErrand_X5_no rfl (by decide +kernel) ⟨Nat.le_of_ble_eq_true rfl, Nat.le_of_ble_eq_true rfl⟩ 0 rfl rfl rfl rfl rfl rfl hl.1 (Nat.le_of_ble_eq_true rfl) dX5_beginErrand_15 ⟨Nat.le_of_ble_eq_true rfl, Nat.le_of_ble_eq_true rfl⟩) rfl [1, 2, 3, 4, 5, 6, 7, 8, 9] [9, 0, 1, 2, 3, 4, 5, 6, 7, 8] (fun u19 => [xO aR 5 [.int u19, .int pl, .ref rEx, .ref rRd, .ref rTo, .int rs, .ref rMi, .ref rCl, .ref rSh, .ref rFa, .ref aS, .ref aH], xAI G rEx 10 ex, xAI G rRd 40 rd, xAI G rTo 40 tt, xAI G rMi 20 ml, xAZ G rCl 20 cz, xAI G rFa 10 fa, xO aS 4 [.int po, .int co, .int go, .ref sTr, .ref sAk, .ref sWy, .int ln, .ref sXe, .ref sSg, .int wk, .int db, .int dn, .int iv, .int qs], xAZ G sTr 20 tr, xAZ G sAk 10 ak]) (fun _ => rfl) rfl rfl rfl rfl (fun r20 u19 H locs hp21 hw => ?_)
    obtain ⟨u0, hu0⟩ : ∃ z : (Int32) × (Int32) × (Int32) × (Int32) × (Nat → Int32) × (Nat → Int32) × (Nat → Int32), z = (u19, go, ln, dn, tr, ak, fa) := ⟨_, rfl⟩
    refine xret_i u0 hc ?_ ?_ ⟨Nat.le_of_ble_eq_true rfl, Nat.le_of_ble_eq_true rfl⟩ dX5_beginErrand_18
    · subst hu0; dsimp only; exact hw
    · subst hu0; exact xe2 (xb hp3 (Eq.trans (if_pos c_5) (xb2 hp21 rfl)))
def FX5_goOn (pl : Int32) (ex : Nat → Int32) (rd : Nat → Int32) (tt : Nat → Int32) (ml : Nat → Int32) (cz : Nat → Int32) (sh : Nat → Int32) (fa : Nat → Int32) (po : Int32) (co : Int32) (go : Int32) (ln : Int32) (wk : Int32) (db : Int32) (dn : Int32) (iv : Int32) (qs : Int32) (tr : Nat → Int32) (ak : Nat → Int32) (wy : Nat → Int32) (xe : Nat → Int32) (sg : Nat → Int32) (nst : Int32) : Int32 × (Int32) × (Int32) × (Int32) × (Int32) × (Int32) × (Int32) × (Int32) × (Int32) × (Int32) × (Int32) × (Nat → Int32) × (Nat → Int32) × (Nat → Int32) × (Nat → Int32) × (Nat → Int32) × (Nat → Int32) :=
  xbind (FX5_isIn nst 1 100) (fun r2 => if r2 = 0 then (xbind2 (FX5_no 1) (fun r16 u15 => (r16, u15, po, co, go, ln, wk, db, dn, iv, qs, tr, ak, wy, xe, sg, fa))) else (if go = (-1) then (xbind2 (FX5_no 2) (fun r12 u11 => (r12, u11, po, co, go, ln, wk, db, dn, iv, qs, tr, ak, wy, xe, sg, fa))) else (xbind2 (FX5_stepsOn pl ex rd tt ml cz sh fa po co go ln wk db dn iv qs tr ak wy xe sg nst) (fun r8 u7 => (r8, 0, u7.1, u7.2.1, u7.2.2.1, u7.2.2.2.1, u7.2.2.2.2.1, u7.2.2.2.2.2.1, u7.2.2.2.2.2.2.1, u7.2.2.2.2.2.2.2.1, u7.2.2.2.2.2.2.2.2.1, u7.2.2.2.2.2.2.2.2.2.1, u7.2.2.2.2.2.2.2.2.2.2.1, u7.2.2.2.2.2.2.2.2.2.2.2.1, u7.2.2.2.2.2.2.2.2.2.2.2.2.1, u7.2.2.2.2.2.2.2.2.2.2.2.2.2.1, u7.2.2.2.2.2.2.2.2.2.2.2.2.2.2)))))
set_option maxHeartbeats 40000000 in
set_option maxRecDepth 100000 in
theorem metX5_goOn (l : Launch) (G : xG) (sz : Nat) (aR : Nat) (rEx : Nat) (rRd : Nat) (rTo : Nat) (rMi : Nat) (rCl : Nat) (rSh : Nat) (rFa : Nat) (aS : Nat) (aH : Nat) (sTr : Nat) (sAk : Nat) (sWy : Nat) (sXe : Nat) (sSg : Nat) (th : Int32) (pl : Int32) (rs : Int32) (ex : Nat → Int32) (rd : Nat → Int32) (tt : Nat → Int32) (ml : Nat → Int32) (cz : Nat → Int32) (sh : Nat → Int32) (fa : Nat → Int32) (po : Int32) (co : Int32) (go : Int32) (ln : Int32) (wk : Int32) (db : Int32) (dn : Int32) (iv : Int32) (qs : Int32) (tr : Nat → Int32) (ak : Nat → Int32) (wy : Nat → Int32) (xe : Nat → Int32) (sg : Nat → Int32) (nst : Int32) (hpl : 0 ≤ pl.toInt ∧ pl.toInt ≤ 10) (hex4 : ∀ k, k < 10 → 0 ≤ (ex k).toInt ∧ (ex k).toInt ≤ 4) (hrd : ∀ k, k < 40 → 0 ≤ (rd k).toInt ∧ (rd k).toInt < 20) (htt : ∀ k, k < 40 → 0 ≤ (tt k).toInt ∧ (tt k).toInt < 10) (hkg : ¬ go = -1 → YK po go ln tr wy xe) : xM l yX5_goOn wsX5_goOn ⟨5, 0, 0, 119⟩ G [.ref aR, .int nst] [xO aR 5 [.int th, .int pl, .ref rEx, .ref rRd, .ref rTo, .int rs, .ref rMi, .ref rCl, .ref rSh, .ref rFa, .ref aS, .ref aH], xAI G rEx 10 ex, xAI G rRd 40 rd, xAI G rTo 40 tt, xAI G rMi 20 ml, xAZ G rCl 20 cz, xAZ G rSh 10 sh, xAI G rFa 10 fa, xO aS 4 [.int po, .int co, .int go, .ref sTr, .ref sAk, .ref sWy, .int ln, .ref sXe, .ref sSg, .int wk, .int db, .int dn, .int iv, .int qs], xAZ G sTr 20 tr, xAZ G sAk 10 ak, xAI G sWy 40 wy, xAI G sXe 100 xe, xAI G sSg 100 sg] sz (xQi G [xO aR 5 [.int th, .int pl, .ref rEx, .ref rRd, .ref rTo, .int rs, .ref rMi, .ref rCl, .ref rSh, .ref rFa, .ref aS, .ref aH], xAI G rEx 10 ex, xAI G rRd 40 rd, xAI G rTo 40 tt, xAI G rMi 20 ml, xAZ G rCl 20 cz, xAZ G rSh 10 sh, xAI G rFa 10 fa, xO aS 4 [.int po, .int co, .int go, .ref sTr, .ref sAk, .ref sWy, .int ln, .ref sXe, .ref sSg, .int wk, .int db, .int dn, .int iv, .int qs], xAZ G sTr 20 tr, xAZ G sAk 10 ak, xAI G sWy 40 wy, xAI G sXe 100 xe, xAI G sSg 100 sg] sz (fun (r : Int32) (u : (Int32) × (Int32) × (Int32) × (Int32) × (Int32) × (Int32) × (Int32) × (Int32) × (Int32) × (Int32) × (Nat → Int32) × (Nat → Int32) × (Nat → Int32) × (Nat → Int32) × (Nat → Int32) × (Nat → Int32)) => r = (FX5_goOn pl ex rd tt ml cz sh fa po co go ln wk db dn iv qs tr ak wy xe sg nst).1 ∧ u = (FX5_goOn pl ex rd tt ml cz sh fa po co go ln wk db dn iv qs tr ak wy xe sg nst).2) (fun u : (Int32) × (Int32) × (Int32) × (Int32) × (Int32) × (Int32) × (Int32) × (Int32) × (Int32) × (Int32) × (Nat → Int32) × (Nat → Int32) × (Nat → Int32) × (Nat → Int32) × (Nat → Int32) × (Nat → Int32) => [xO aR 5 [.int u.1, .int pl, .ref rEx, .ref rRd, .ref rTo, .int rs, .ref rMi, .ref rCl, .ref rSh, .ref rFa, .ref aS, .ref aH], xAI G rEx 10 ex, xAI G rRd 40 rd, xAI G rTo 40 tt, xAI G rMi 20 ml, xAZ G rCl 20 cz, xAZ G rSh 10 sh, xAI G rFa 10 u.2.2.2.2.2.2.2.2.2.2.2.2.2.2.2, xO aS 4 [.int u.2.1, .int u.2.2.1, .int u.2.2.2.1, .ref sTr, .ref sAk, .ref sWy, .int u.2.2.2.2.1, .ref sXe, .ref sSg, .int u.2.2.2.2.2.1, .int u.2.2.2.2.2.2.1, .int u.2.2.2.2.2.2.2.1, .int u.2.2.2.2.2.2.2.2.1, .int u.2.2.2.2.2.2.2.2.2.1], xAZ G sTr 20 u.2.2.2.2.2.2.2.2.2.2.1, xAZ G sAk 10 u.2.2.2.2.2.2.2.2.2.2.2.1, xAI G sWy 40 u.2.2.2.2.2.2.2.2.2.2.2.2.1, xAI G sXe 100 u.2.2.2.2.2.2.2.2.2.2.2.2.2.1, xAI G sSg 100 u.2.2.2.2.2.2.2.2.2.2.2.2.2.2.1])) := by
  refine xof (own := RX5) (cc := cX5_goOn) (maxL := 2) (ret := (some .int)) rfl (by decide) rfl (Nat.le_of_ble_eq_true rfl) ?_
  intro pg en s mi below meth cd hc hnm hw ls hl
  obtain ⟨hx, hb, -, hown, hts, -⟩ := id hc
  have hl : lv_has ls 2 [(0, .ref aR), (1, .int nst)] := hl
  refine lv_aload_n hx hb dX5_goOn_0 rfl (lv_at hl 0 rfl) ?_
  refine lv_iconst (v := 0) hx hb dX5_goOn_1 (by decide) ?_
  refine xput (C := RX5) (T := TX5) (N := 12) (ty := .int) hc hw inX5_goOn_X5 tyX5 tyX5_ok nmX5 0 [xO aR 5 [.int 0, .int pl, .ref rEx, .ref rRd, .ref rTo, .int rs, .ref rMi, .ref rCl, .ref rSh, .ref rFa, .ref aS, .ref aH], xAI G rEx 10 ex, xAI G rRd 40 rd, xAI G rTo 40 tt, xAI G rMi 20 ml, xAZ G rCl 20 cz, xAZ G rSh 10 sh, xAI G rFa 10 fa, xO aS 4 [.int po, .int co, .int go, .ref sTr, .ref sAk, .ref sWy, .int ln, .ref sXe, .ref sSg, .int wk, .int db, .int dn, .int iv, .int qs], xAZ G sTr 20 tr, xAZ G sAk 10 ak, xAI G sWy 40 wy, xAI G sXe 100 xe, xAI G sSg 100 sg] rfl rfl 0 (by decide) lkX5_goOn_f42 rfl rfl rfl rfl (Nat.le_of_ble_eq_true rfl) rfl dX5_goOn_2 (fun H locs hw => ?_)
  refine lv_iload_n hx hb dX5_goOn_5 rfl (lv_at hl 1 rfl) ?_
  refine lv_iconst (v := 1) hx hb dX5_goOn_6 (by decide) ?_
  refine lv_bipush (v := 100) hx hb dX5_goOn_7 (by decide) ?_
  refine xcall_i (isC := []) hc hw (xrunS (n := 3) (As := [.int nst, .int 1, .int 100]) (rest := []) hc hw [] (metX5_isIn l G _ nst 1 100) gX5_goOn_X5_isIn rfl (by decide +kernel) ⟨Nat.le_of_ble_eq_true rfl, Nat.le_of_ble_eq_true rfl⟩ rfl rfl rfl rfl hl.1 (Nat.le_of_ble_eq_true rfl) dX5_goOn_9 ⟨Nat.le_of_ble_eq_true rfl, Nat.le_of_ble_eq_true rfl⟩) rfl [0, 1, 2, 3, 4, 5, 6, 7, 8, 9, 10, 11, 12, 13] [0, 1, 2, 3, 4, 5, 6, 7, 8, 9, 10, 11, 12, 13] (fun u1 => [xO aR 5 [.int 0, .int pl, .ref rEx, .ref rRd, .ref rTo, .int rs, .ref rMi, .ref rCl, .ref rSh, .ref rFa, .ref aS, .ref aH], xAI G rEx 10 ex, xAI G rRd 40 rd, xAI G rTo 40 tt, xAI G rMi 20 ml, xAZ G rCl 20 cz, xAZ G rSh 10 sh, xAI G rFa 10 fa, xO aS 4 [.int po, .int co, .int go, .ref sTr, .ref sAk, .ref sWy, .int ln, .ref sXe, .ref sSg, .int wk, .int db, .int dn, .int iv, .int qs], xAZ G sTr 20 tr, xAZ G sAk 10 ak, xAI G sWy 40 wy, xAI G sXe 100 xe, xAI G sSg 100 sg]) (fun _ => rfl) rfl rfl rfl rfl (fun r2 u1 H locs hp3 hw => ?_)
  refine lv_if_ne (tgt := 21) hx hb dX5_goOn_12 (by decide) (fun c_5 => ?_) (fun c_5 => ?_)
  · refine lv_aload_n hx hb dX5_goOn_21 rfl (lv_at hl 0 rfl) ?_
    refine xget (C := RX5) (T := TX5) (N := 12) hc hw inX5_goOn_X5 0 rfl rfl 10 (by decide) lkX5_goOn_f35 rfl rfl dX5_goOn_22 ?_
    refine xgetN (C := RX4) (T := TX4) (N := 14) hc hw inX5_goOn_X4 8 rfl rfl 2 (by decide) nkX5_103 rfl rfl dX5_goOn_25 ?_
    refine lv_iconst (v := (-1)) hx hb dX5_goOn_28 (by decide) ?_
    refine lv_icmp_ne (tgt := 40) hx hb dX5_goOn_29 (by decide) (fun c_6 => ?_) (fun c_6 => ?_)
    · refine lv_aload_n hx hb dX5_goOn_40 rfl (lv_at hl 0 rfl) ?_
      refine lv_aload_n hx hb dX5_goOn_41 rfl (lv_at hl 0 rfl) ?_
      refine xget (C := RX5) (T := TX5) (N := 12) hc hw inX5_goOn_X5 0 rfl rfl 10 (by decide) lkX5_goOn_f35 rfl rfl dX5_goOn_42 ?_
      refine lv_iload_n hx hb dX5_goOn_45 rfl (lv_at hl 1 rfl) ?_
      refine xcall_i (isC := [0, 1, 2, 3, 4, 5, 6, 7, 8, 9, 10, 11, 12, 13]) hc hw (xrunV (n := 2) (As := [.ref aS, .int nst]) (rest := []) hc hw [0, 1, 2, 3, 4, 5, 6, 7, 8, 9, 10, 11, 12, 13] (metX5_stepsOn l G _ aR rEx rRd rTo rMi rCl rSh rFa aS aH aS sTr sAk sWy sXe sSg 0 pl rs ex rd tt ml cz sh fa po co go ln wk db dn iv qs tr ak wy xe sg nst hpl hex4 hrd htt (hkg c_6) (by have h9 := pX5_isIn hp3 c_5; rw [show (1 : Int32).toInt = 1 from rfl, show (100 : Int32).toInt = 100 from rfl] at h9; omega)) gX5_goOn_X5_stepsOn rfl (by decide +kernel) ⟨Nat.le_of_ble_eq_true rfl, Nat.le_of_ble_eq_true rfl⟩ 0 rfl rfl rfl rfl rfl rfl hl.1 (Nat.le_of_ble_eq_true rfl) dX5_goOn_46 ⟨Nat.le_of_ble_eq_true rfl, Nat.le_of_ble_eq_true rfl⟩) rfl [] [0, 1, 2, 3, 4, 5, 6, 7, 8, 9, 10, 11, 12, 13] (fun u7 => [xO aR 5 [.int 0, .int pl, .ref rEx, .ref rRd, .ref rTo, .int rs, .ref rMi, .ref rCl, .ref rSh, .ref rFa, .ref aS, .ref aH], xAI G rEx 10 ex, xAI G rRd 40 rd, xAI G rTo 40 tt, xAI G rMi 20 ml, xAZ G rCl 20 cz, xAZ G rSh 10 sh, xAI G rFa 10 u7.2.2.2.2.2.2.2.2.2.2.2.2.2.2, xO aS 4 [.int u7.1, .int u7.2.1, .int u7.2.2.1, .ref sTr, .ref sAk, .ref sWy, .int u7.2.2.2.1, .ref sXe, .ref sSg, .int u7.2.2.2.2.1, .int u7.2.2.2.2.2.1, .int u7.2.2.2.2.2.2.1, .int u7.2.2.2.2.2.2.2.1, .int u7.2.2.2.2.2.2.2.2.1], xAZ G sTr 20 u7.2.2.2.2.2.2.2.2.2.1, xAZ G sAk 10 u7.2.2.2.2.2.2.2.2.2.2.1, xAI G sWy 40 u7.2.2.2.2.2.2.2.2.2.2.2.1, xAI G sXe 100 u7.2.2.2.2.2.2.2.2.2.2.2.2.1, xAI G sSg 100 u7.2.2.2.2.2.2.2.2.2.2.2.2.2.1]) (fun _ => rfl) rfl rfl rfl rfl (fun r8 u7 H locs hp9 hw => ?_)
      obtain ⟨u0, hu0⟩ : ∃ z : (Int32) × (Int32) × (Int32) × (Int32) × (Int32) × (Int32) × (Int32) × (Int32) × (Int32) × (Int32) × (Nat → Int32) × (Nat → Int32) × (Nat → Int32) × (Nat → Int32) × (Nat → Int32) × (Nat → Int32), z = (0, u7.1, u7.2.1, u7.2.2.1, u7.2.2.2.1, u7.2.2.2.2.1, u7.2.2.2.2.2.1, u7.2.2.2.2.2.2.1, u7.2.2.2.2.2.2.2.1, u7.2.2.2.2.2.2.2.2.1, u7.2.2.2.2.2.2.2.2.2.1, u7.2.2.2.2.2.2.2.2.2.2.1, u7.2.2.2.2.2.2.2.2.2.2.2.1, u7.2.2.2.2.2.2.2.2.2.2.2.2.1, u7.2.2.2.2.2.2.2.2.2.2.2.2.2.1, u7.2.2.2.2.2.2.2.2.2.2.2.2.2.2) := ⟨_, rfl⟩
      refine xret_i u0 hc ?_ ?_ ⟨Nat.le_of_ble_eq_true rfl, Nat.le_of_ble_eq_true rfl⟩ dX5_goOn_49
      · subst hu0; dsimp only; exact hw
      · subst hu0; exact xe2 (xb hp3 (Eq.trans (if_neg c_5) (Eq.trans (if_neg c_6) (xb2 hp9 rfl))))
    · refine lv_aload_n hx hb dX5_goOn_32 rfl (lv_at hl 0 rfl) ?_
      refine lv_iconst (v := 2) hx hb dX5_goOn_33 (by decide) ?_
      refine xcall_i (isC := [0]) hc hw (xrunV (n := 1) (As := [.int 2]) (rest := []) hc hw [0] (metX5_no l G _ aR rEx rRd rTo rMi rCl rSh rFa aS aH 0 pl rs 2) gX5_goOn_X5_no rfl (by decide +kernel) ⟨Nat.le_of_ble_eq_true rfl, Nat.le_of_ble_eq_true rfl⟩ 0 rfl rfl rfl rfl rfl rfl hl.1 (Nat.le_of_ble_eq_true rfl) dX5_goOn_34 ⟨Nat.le_of_ble_eq_true rfl, Nat.le_of_ble_eq_true rfl⟩) rfl [1, 2, 3, 4, 5, 6, 7, 8, 9, 10, 11, 12, 13] [13, 0, 1, 2, 3, 4, 5, 6, 7, 8, 9, 10, 11, 12] (fun u11 => [xO aR 5 [.int u11, .int pl, .ref rEx, .ref rRd, .ref rTo, .int rs, .ref rMi, .ref rCl, .ref rSh, .ref rFa, .ref aS, .ref aH], xAI G rEx 10 ex, xAI G rRd 40 rd, xAI G rTo 40 tt, xAI G rMi 20 ml, xAZ G rCl 20 cz, xAZ G rSh 10 sh, xAI G rFa 10 fa, xO aS 4 [.int po, .int co, .int go, .ref sTr, .ref sAk, .ref sWy, .int ln, .ref sXe, .ref sSg, .int wk, .int db, .int dn, .int iv, .int qs], xAZ G sTr 20 tr, xAZ G sAk 10 ak, xAI G sWy 40 wy, xAI G sXe 100 xe, xAI G sSg 100 sg]) (fun _ => rfl) rfl rfl rfl rfl (fun r12 u11 H locs hp13 hw => ?_)
      refine lv_goto (tgt := 49) hx hb dX5_goOn_37 (by decide) ?_
      obtain ⟨u0, hu0⟩ : ∃ z : (Int32) × (Int32) × (Int32) × (Int32) × (Int32) × (Int32) × (Int32) × (Int32) × (Int32) × (Int32) × (Nat → Int32) × (Nat → Int32) × (Nat → Int32) × (Nat → Int32) × (Nat → Int32) × (Nat → Int32), z = (u11, po, co, go, ln, wk, db, dn, iv, qs, tr, ak, wy, xe, sg, fa) := ⟨_, rfl⟩
      refine xret_i u0 hc ?_ ?_ ⟨Nat.le_of_ble_eq_true rfl, Nat.le_of_ble_eq_true rfl⟩ dX5_goOn_49
      · subst hu0; dsimp only; exact hw
      · subst hu0; exact xe2 (xb hp3 (Eq.trans (if_neg c_5) (Eq.trans (if_pos c_6) (xb2 hp13 rfl))))
  · refine lv_aload_n hx hb dX5_goOn_15 rfl (lv_at hl 0 rfl) ?_
    refine lv_iconst (v := 1) hx hb dX5_goOn_16 (by decide) ?_
    refine xcall_i (isC := [0]) hc hw (xrunV (n := 1) (As := [.int 1]) (rest := []) hc hw [0] (metX5_no l G _ aR rEx rRd rTo rMi rCl rSh rFa aS aH 0 pl rs 1) gX5_goOn_X5_no rfl (by decide +kernel) ⟨Nat.le_of_ble_eq_true rfl, Nat.le_of_ble_eq_true rfl⟩ 0 rfl rfl rfl rfl rfl rfl hl.1 (Nat.le_of_ble_eq_true rfl) dX5_goOn_17 ⟨Nat.le_of_ble_eq_true rfl, Nat.le_of_ble_eq_true rfl⟩) rfl [1, 2, 3, 4, 5, 6, 7, 8, 9, 10, 11, 12, 13] [13, 0, 1, 2, 3, 4, 5, 6, 7, 8, 9, 10, 11, 12] (fun u15 => [xO aR 5 [.int u15, .int pl, .ref rEx, .ref rRd, .ref rTo, .int rs, .ref rMi, .ref rCl, .ref rSh, .ref rFa, .ref aS, .ref aH], xAI G rEx 10 ex, xAI G rRd 40 rd, xAI G rTo 40 tt, xAI G rMi 20 ml, xAZ G rCl 20 cz, xAZ G rSh 10 sh, xAI G rFa 10 fa, xO aS 4 [.int po, .int co, .int go, .ref sTr, .ref sAk, .ref sWy, .int ln, .ref sXe, .ref sSg, .int wk, .int db, .int dn, .int iv, .int qs], xAZ G sTr 20 tr, xAZ G sAk 10 ak, xAI G sWy 40 wy, xAI G sXe 100 xe, xAI G sSg 100 sg]) (fun _ => rfl) rfl rfl rfl rfl (fun r16 u15 H locs hp17 hw => ?_)
    obtain ⟨u0, hu0⟩ : ∃ z : (Int32) × (Int32) × (Int32) × (Int32) × (Int32) × (Int32) × (Int32) × (Int32) × (Int32) × (Int32) × (Nat → Int32) × (Nat → Int32) × (Nat → Int32) × (Nat → Int32) × (Nat → Int32) × (Nat → Int32), z = (u15, po, co, go, ln, wk, db, dn, iv, qs, tr, ak, wy, xe, sg, fa) := ⟨_, rfl⟩
    refine xret_i u0 hc ?_ ?_ ⟨Nat.le_of_ble_eq_true rfl, Nat.le_of_ble_eq_true rfl⟩ dX5_goOn_20
    · subst hu0; dsimp only; exact hw
    · subst hu0; exact xe2 (xb hp3 (Eq.trans (if_pos c_5) (xb2 hp17 rfl)))
def FX5_giveUp (go : Int32) (ln : Int32) (tr : Nat → Int32) (ak : Nat → Int32) : Int32 × (Int32) × (Int32) × (Int32) × (Nat → Int32) × (Nat → Int32) :=
  if go = (-1) then (xbind2 (FX5_no 1) (fun r7 u6 => (r7, u6, go, ln, tr, ak))) else (xbind (FX4_end tr ak) (fun u2 => (ln, 0, u2.1, u2.2.1, u2.2.2.1, u2.2.2.2)))
set_option maxHeartbeats 40000000 in
set_option maxRecDepth 100000 in
theorem metX5_giveUp (l : Launch) (G : xG) (sz : Nat) (aR : Nat) (rEx : Nat) (rRd : Nat) (rTo : Nat) (rMi : Nat) (rCl : Nat) (rSh : Nat) (rFa : Nat) (aS : Nat) (aH : Nat) (sTr : Nat) (sAk : Nat) (sWy : Nat) (sXe : Nat) (sSg : Nat) (th : Int32) (pl : Int32) (rs : Int32) (po : Int32) (co : Int32) (go : Int32) (ln : Int32) (wk : Int32) (db : Int32) (dn : Int32) (iv : Int32) (qs : Int32) (tr : Nat → Int32) (ak : Nat → Int32) : xM l yX5_giveUp wsX5_giveUp ⟨2, 0, 0, 42⟩ G [.ref aR] [xO aR 5 [.int th, .int pl, .ref rEx, .ref rRd, .ref rTo, .int rs, .ref rMi, .ref rCl, .ref rSh, .ref rFa, .ref aS, .ref aH], xO aS 4 [.int po, .int co, .int go, .ref sTr, .ref sAk, .ref sWy, .int ln, .ref sXe, .ref sSg, .int wk, .int db, .int dn, .int iv, .int qs], xAZ G sTr 20 tr, xAZ G sAk 10 ak] sz (xQi G [xO aR 5 [.int th, .int pl, .ref rEx, .ref rRd, .ref rTo, .int rs, .ref rMi, .ref rCl, .ref rSh, .ref rFa, .ref aS, .ref aH], xO aS 4 [.int po, .int co, .int go, .ref sTr, .ref sAk, .ref sWy, .int ln, .ref sXe, .ref sSg, .int wk, .int db, .int dn, .int iv, .int qs], xAZ G sTr 20 tr, xAZ G sAk 10 ak] sz (fun (r : Int32) (u : (Int32) × (Int32) × (Int32) × (Nat → Int32) × (Nat → Int32)) => r = (FX5_giveUp go ln tr ak).1 ∧ u = (FX5_giveUp go ln tr ak).2) (fun u : (Int32) × (Int32) × (Int32) × (Nat → Int32) × (Nat → Int32) => [xO aR 5 [.int u.1, .int pl, .ref rEx, .ref rRd, .ref rTo, .int rs, .ref rMi, .ref rCl, .ref rSh, .ref rFa, .ref aS, .ref aH], xO aS 4 [.int po, .int co, .int u.2.1, .ref sTr, .ref sAk, .ref sWy, .int u.2.2.1, .ref sXe, .ref sSg, .int wk, .int db, .int dn, .int iv, .int qs], xAZ G sTr 20 u.2.2.2.1, xAZ G sAk 10 u.2.2.2.2])) := by
  refine xof (own := RX5) (cc := cX5_giveUp) (maxL := 2) (ret := (some .int)) rfl (by decide) rfl (Nat.le_of_ble_eq_true rfl) ?_
  intro pg en s mi below meth cd hc hnm hw ls hl
  obtain ⟨hx, hb, -, hown, hts, -⟩ := id hc
  have hl : lv_has ls 2 [(0, .ref aR)] := hl
  refine lv_aload_n hx hb dX5_giveUp_0 rfl (lv_at hl 0 rfl) ?_
  refine lv_iconst (v := 0) hx hb dX5_giveUp_1 (by decide) ?_
  refine xput (C := RX5) (T := TX5) (N := 12) (ty := .int) hc hw inX5_giveUp_X5 tyX5 tyX5_ok nmX5 0 [xO aR 5 [.int 0, .int pl, .ref rEx, .ref rRd, .ref rTo, .int rs, .ref rMi, .ref rCl, .ref rSh, .ref rFa, .ref aS, .ref aH], xO aS 4 [.int po, .int co, .int go, .ref sTr, .ref sAk, .ref sWy, .int ln, .ref sXe, .ref sSg, .int wk, .int db, .int dn, .int iv, .int qs], xAZ G sTr 20 tr, xAZ G sAk 10 ak] rfl rfl 0 (by decide) lkX5_giveUp_f42 rfl rfl rfl rfl (Nat.le_of_ble_eq_true rfl) rfl dX5_giveUp_2 (fun H locs hw => ?_)
  refine lv_aload_n hx hb dX5_giveUp_5 rfl (lv_at hl 0 rfl) ?_
  refine xget (C := RX5) (T := TX5) (N := 12) hc hw inX5_giveUp_X5 0 rfl rfl 10 (by decide) lkX5_giveUp_f35 rfl rfl dX5_giveUp_6 ?_
  refine xgetN (C := RX4) (T := TX4) (N := 14) hc hw inX5_giveUp_X4 1 rfl rfl 2 (by decide) nkX5_103 rfl rfl dX5_giveUp_9 ?_
  refine lv_iconst (v := (-1)) hx hb dX5_giveUp_12 (by decide) ?_
  refine lv_icmp_ne (tgt := 22) hx hb dX5_giveUp_13 (by decide) (fun c_1 => ?_) (fun c_1 => ?_)
  · refine lv_aload_n hx hb dX5_giveUp_22 rfl (lv_at hl 0 rfl) ?_
    refine xget (C := RX5) (T := TX5) (N := 12) hc hw inX5_giveUp_X5 0 rfl rfl 10 (by decide) lkX5_giveUp_f35 rfl rfl dX5_giveUp_23 ?_
    refine xgetN (C := RX4) (T := TX4) (N := 14) hc hw inX5_giveUp_X4 1 rfl rfl 6 (by decide) nkX5_84 rfl rfl dX5_giveUp_26 ?_
    refine lv_istore_n (lv' := [(1, .int ln), (0, .ref aR)]) hx hb dX5_giveUp_29 rfl hl (by decide) rfl (fun ls hl => ?_)
    refine lv_aload_n hx hb dX5_giveUp_30 rfl (lv_at hl 1 rfl) ?_
    refine xget (C := RX5) (T := TX5) (N := 12) hc hw inX5_giveUp_X5 0 rfl rfl 10 (by decide) lkX5_giveUp_f35 rfl rfl dX5_giveUp_31 ?_
    refine xcall_v (isC := [1, 2, 3]) hc hw (xrunV (n := 0) (As := []) (rest := []) hc hw [1, 2, 3] (metX4_end l G _ aS sTr sAk sWy sXe sSg po co go ln wk db dn iv qs tr ak) gX5_giveUp_X4_end rfl (by decide +kernel) ⟨Nat.le_of_ble_eq_true rfl, Nat.le_of_ble_eq_true rfl⟩ 1 rfl rfl rfl rfl rfl rfl hl.1 (Nat.le_of_ble_eq_true rfl) dX5_giveUp_34 ⟨Nat.le_of_ble_eq_true rfl, Nat.le_of_ble_eq_true rfl⟩) rfl [0] [0, 1, 2, 3] (fun u2 => [xO aR 5 [.int 0, .int pl, .ref rEx, .ref rRd, .ref rTo, .int rs, .ref rMi, .ref rCl, .ref rSh, .ref rFa, .ref aS, .ref aH], xO aS 4 [.int po, .int co, .int u2.1, .ref sTr, .ref sAk, .ref sWy, .int u2.2.1, .ref sXe, .ref sSg, .int wk, .int db, .int dn, .int iv, .int qs], xAZ G sTr 20 u2.2.2.1, xAZ G sAk 10 u2.2.2.2]) (fun _ => rfl) rfl rfl rfl rfl (fun u2 H locs hp4 hw => ?_)
    refine lv_iload_n hx hb dX5_giveUp_37 rfl (lv_at hl 0 rfl) ?_
    obtain ⟨u0, hu0⟩ : ∃ z : (Int32) × (Int32) × (Int32) × (Nat → Int32) × (Nat → Int32), z = (0, u2.1, u2.2.1, u2.2.2.1, u2.2.2.2) := ⟨_, rfl⟩
    refine xret_i u0 hc ?_ ?_ ⟨Nat.le_of_ble_eq_true rfl, Nat.le_of_ble_eq_true rfl⟩ dX5_giveUp_38
    · subst hu0; dsimp only; exact hw
    · subst hu0; exact xe2 (Eq.trans (if_neg c_1) (xb hp4 rfl))
  · refine lv_aload_n hx hb dX5_giveUp_16 rfl (lv_at hl 0 rfl) ?_
    refine lv_iconst (v := 1) hx hb dX5_giveUp_17 (by decide) ?_
    refine xcall_i (isC := [0]) hc hw (xrunV (n := 1) (As := [.int 1]) (rest := []) hc hw [0] (metX5_no l G _ aR rEx rRd rTo rMi rCl rSh rFa aS aH 0 pl rs 1) gX5_giveUp_X5_no rfl (by decide +kernel) ⟨Nat.le_of_ble_eq_true rfl, Nat.le_of_ble_eq_true rfl⟩ 0 rfl rfl rfl rfl rfl rfl hl.1 (Nat.le_of_ble_eq_true rfl) dX5_giveUp_18 ⟨Nat.le_of_ble_eq_true rfl, Nat.le_of_ble_eq_true rfl⟩) rfl [1, 2, 3] [3, 0, 1, 2] (fun u6 => [xO aR 5 [.int u6, .int pl, .ref rEx, .ref rRd, .ref rTo, .int rs, .ref rMi, .ref rCl, .ref rSh, .ref rFa, .ref aS, .ref aH], xO aS 4 [.int po, .int co, .int go, .ref sTr, .ref sAk, .ref sWy, .int ln, .ref sXe, .ref sSg, .int wk, .int db, .int dn, .int iv, .int qs], xAZ G sTr 20 tr, xAZ G sAk 10 ak]) (fun _ => rfl) rfl rfl rfl rfl (fun r7 u6 H locs hp8 hw => ?_)
    obtain ⟨u0, hu0⟩ : ∃ z : (Int32) × (Int32) × (Int32) × (Nat → Int32) × (Nat → Int32), z = (u6, go, ln, tr, ak) := ⟨_, rfl⟩
    refine xret_i u0 hc ?_ ?_ ⟨Nat.le_of_ble_eq_true rfl, Nat.le_of_ble_eq_true rfl⟩ dX5_giveUp_21
    · subst hu0; dsimp only; exact hw
    · subst hu0; exact xe2 (Eq.trans (if_pos c_1) (xb2 hp8 rfl))
def LX5_night_t : Nat → Nat → (Int32) → (Nat → Int32) → (Nat → Int32) → (Int32) × (Nat → Int32) × (Nat → Int32)
  | 0, i, many, xe, sg => (many, xe, sg)
  | n + 1, i, many, xe, sg =>
    if 100 ≤ (nI i) then ((many, xe, sg)) else (if (xe (nI i).toNatClampNeg) = (-1) then (LX5_night_t n (i + 1) many xe sg) else (if ((upd sg (nI i).toNatClampNeg ((sg (nI i).toNatClampNeg) - 1)) (nI i).toNatClampNeg) ≤ 0 then (LX5_night_t n (i + 1) (many + 1) (upd xe (nI i).toNatClampNeg (-1)) (upd sg (nI i).toNatClampNeg ((sg (nI i).toNatClampNeg) - 1))) else (LX5_night_t n (i + 1) many xe (upd sg (nI i).toNatClampNeg ((sg (nI i).toNatClampNeg) - 1)))))
set_option maxHeartbeats 40000000 in
set_option maxRecDepth 100000 in
theorem lpX5_night_t {pg : Program} {l : Launch} {en : Env} {s : State} {mi : MethodId} {args : Array Value} {below : List Frame} {meth : Method} {cd : Code} {A : Nat → Prop} {Q : State → Prop} (G : xG) (hc : xC pg s mi args meth cd cX5_night 3 RX5 wsX5_night (some .int) G A) (aR : Nat) (rEx : Nat) (rRd : Nat) (rTo : Nat) (rMi : Nat) (rCl : Nat) (rSh : Nat) (rFa : Nat) (aS : Nat) (aH : Nat) (sTr : Nat) (sAk : Nat) (sWy : Nat) (sXe : Nat) (sSg : Nat) (th : Int32) (pl : Int32) (rs : Int32) (po : Int32) (co : Int32) (go : Int32) (ln : Int32) (wk : Int32) (db : Int32) (dn : Int32) (iv : Int32) (qs : Int32) :
    ∀ (n i : Nat) (many : Int32) (xe : Nat → Int32) (sg : Nat → Int32), ((i : Nat) : Int) ≤ (100 : Int32).toInt → (100 : Int32).toInt < ((i + n : Nat) : Int) → ∀ (H : Heap) (locs : List Loc) (ls : Array Slot), xW G A s.heap [xO aR 5 [.int th, .int pl, .ref rEx, .ref rRd, .ref rTo, .int rs, .ref rMi, .ref rCl, .ref rSh, .ref rFa, .ref aS, .ref aH], xO aS 4 [.int po, .int co, .int go, .ref sTr, .ref sAk, .ref sWy, .int ln, .ref sXe, .ref sSg, .int wk, .int db, .int dn, .int iv, .int qs], xAI G sXe 100 xe, xAI G sSg 100 sg] H locs → lv_has ls 3 [(0, .ref aR), (1, .int many), (2, .int (nI i))] → (∀ (z : (Int32) × (Nat → Int32) × (Nat → Int32)), z = LX5_night_t n i many xe sg → ∀ (H1 : Heap) (locs1 : List Loc) (ls1 : Array Slot), xW G A s.heap [xO aR 5 [.int th, .int pl, .ref rEx, .ref rRd, .ref rTo, .int rs, .ref rMi, .ref rCl, .ref rSh, .ref rFa, .ref aS, .ref aH], xO aS 4 [.int po, .int co, .int go, .ref sTr, .ref sAk, .ref sWy, .int ln, .ref sXe, .ref sSg, .int wk, .int db, .int dn, .int iv, .int qs], xAI G sXe 100 z.2.1, xAI G sSg 100 z.2.2] H1 locs1 → lv_has ls1 3 [(0, .ref aR), (1, .int z.1)] → W pg l en ⟨0, 0, 0, 0⟩ s mi args below meth cd H1 locs1 0 0 Q (F0 mi 73 ls1 [])) → W pg l en ⟨0, 0, 0, 0⟩ s mi args below meth cd H locs 0 0 Q (F0 mi 4 ls []) := by
  obtain ⟨hx, hb, -, hown, hts, -⟩ := id hc
  intro n
  induction n with
  | zero =>
    intro i many xe sg hlo hfu
    intros; exact absurd hfu (by omega)
  | succ n ih =>
    intro i many xe sg hlo hfu  H locs ls hw hl K
    refine lv_iload_n hx hb dX5_night_4 rfl (lv_at hl 2 rfl) ?_
    refine lv_bipush (v := 100) hx hb dX5_night_5 (by decide) ?_
    refine lv_icmp_ge (tgt := 73) hx hb dX5_night_7 (by decide) (fun c_1 => ?_) (fun c_1 => ?_)
    · exact K (many, xe, sg) (Eq.symm (if_pos c_1)) H locs ls (by first | (dsimp only; exact hw) | exact hw) (by first | exact lv_sub hl [0, 1] rfl | (dsimp only; exact lv_sub hl [0, 1] rfl))
    · refine lv_aload_n hx hb dX5_night_10 rfl (lv_at hl 0 rfl) ?_
      refine xget (C := RX5) (T := TX5) (N := 12) hc hw inX5_night_X5 0 rfl rfl 10 (by decide) lkX5_night_f35 rfl rfl dX5_night_11 ?_
      refine xgetN (C := RX4) (T := TX4) (N := 14) hc hw inX5_night_X4 1 rfl rfl 7 (by decide) nkX5_175 rfl rfl dX5_night_14 ?_
      refine lv_iload_n hx hb dX5_night_17 rfl (lv_at hl 2 rfl) ?_
      refine xiald hc hw 2 rfl (xinB hlo c_1 (by decide)) dX5_night_18 ?_
      refine lv_iconst (v := (-1)) hx hb dX5_night_19 (by decide) ?_
      refine lv_icmp_ne (tgt := 26) hx hb dX5_night_20 (by decide) (fun c_2 => ?_) (fun c_2 => ?_)
      · refine lv_aload_n hx hb dX5_night_26 rfl (lv_at hl 0 rfl) ?_
        refine xget (C := RX5) (T := TX5) (N := 12) hc hw inX5_night_X5 0 rfl rfl 10 (by decide) lkX5_night_f35 rfl rfl dX5_night_27 ?_
        refine xgetN (C := RX4) (T := TX4) (N := 14) hc hw inX5_night_X4 1 rfl rfl 8 (by decide) nkX5_128 rfl rfl dX5_night_30 ?_
        refine lv_iload_n hx hb dX5_night_33 rfl (lv_at hl 2 rfl) ?_
        refine lv_dup2_11 hx hb dX5_night_34 rfl rfl ?_
        refine xiald hc hw 3 rfl (xinB hlo c_1 (by decide)) dX5_night_35 ?_
        refine lv_iconst (v := 1) hx hb dX5_night_36 (by decide) ?_
        refine lv_isub hx hb dX5_night_37 ?_
        refine xiast hc hw 3 [xO aR 5 [.int th, .int pl, .ref rEx, .ref rRd, .ref rTo, .int rs, .ref rMi, .ref rCl, .ref rSh, .ref rFa, .ref aS, .ref aH], xO aS 4 [.int po, .int co, .int go, .ref sTr, .ref sAk, .ref sWy, .int ln, .ref sXe, .ref sSg, .int wk, .int db, .int dn, .int iv, .int qs], xAI G sXe 100 xe, xAI G sSg 100 (upd sg (nI i).toNatClampNeg ((sg (nI i).toNatClampNeg) - 1))] rfl (xinB hlo c_1 (by decide)) rfl dX5_night_38 (fun H locs hw => ?_)
        refine lv_aload_n hx hb dX5_night_39 rfl (lv_at hl 0 rfl) ?_
        refine xget (C := RX5) (T := TX5) (N := 12) hc hw inX5_night_X5 0 rfl rfl 10 (by decide) lkX5_night_f35 rfl rfl dX5_night_40 ?_
        refine xgetN (C := RX4) (T := TX4) (N := 14) hc hw inX5_night_X4 1 rfl rfl 8 (by decide) nkX5_128 rfl rfl dX5_night_43 ?_
        refine lv_iload_n hx hb dX5_night_46 rfl (lv_at hl 2 rfl) ?_
        refine xiald hc hw 3 rfl (xinB hlo c_1 (by decide)) dX5_night_47 ?_
        refine lv_if_le (tgt := 54) hx hb dX5_night_48 (by decide) (fun c_3 => ?_) (fun c_3 => ?_)
        · refine lv_aload_n hx hb dX5_night_54 rfl (lv_at hl 0 rfl) ?_
          refine xget (C := RX5) (T := TX5) (N := 12) hc hw inX5_night_X5 0 rfl rfl 10 (by decide) lkX5_night_f35 rfl rfl dX5_night_55 ?_
          refine xgetN (C := RX4) (T := TX4) (N := 14) hc hw inX5_night_X4 1 rfl rfl 7 (by decide) nkX5_175 rfl rfl dX5_night_58 ?_
          refine lv_iload_n hx hb dX5_night_61 rfl (lv_at hl 2 rfl) ?_
          refine lv_iconst (v := (-1)) hx hb dX5_night_62 (by decide) ?_
          refine xiast hc hw 2 [xO aR 5 [.int th, .int pl, .ref rEx, .ref rRd, .ref rTo, .int rs, .ref rMi, .ref rCl, .ref rSh, .ref rFa, .ref aS, .ref aH], xO aS 4 [.int po, .int co, .int go, .ref sTr, .ref sAk, .ref sWy, .int ln, .ref sXe, .ref sSg, .int wk, .int db, .int dn, .int iv, .int qs], xAI G sXe 100 (upd xe (nI i).toNatClampNeg (-1)), xAI G sSg 100 (upd sg (nI i).toNatClampNeg ((sg (nI i).toNatClampNeg) - 1))] rfl (xinB hlo c_1 (by decide)) rfl dX5_night_63 (fun H locs hw => ?_)
          refine lv_iinc (v := many + 1) (lv' := [(1, .int (many + 1)), (0, .ref aR), (2, .int (nI i))]) hx hb dX5_night_64 hl (k := 1) rfl (rfl) (by decide) rfl (fun ls hl => ?_)
          refine lv_iinc (v := nI (i + 1)) (lv' := [(2, .int (nI (i + 1))), (1, .int (many + 1)), (0, .ref aR)]) hx hb dX5_night_67 hl (k := 2) rfl (nI_1 _) (by decide) rfl (fun ls hl => ?_)
          refine lv_goto (tgt := 4) hx hb dX5_night_70 (by decide) ?_
          exact ih (i + 1) (many + 1) (upd xe (nI i).toNatClampNeg (-1)) (upd sg (nI i).toNatClampNeg ((sg (nI i).toNatClampNeg) - 1)) (xlt hlo c_1) (by omega) H locs ls hw (lv_sub hl [2, 1, 0] rfl) (fun z e => K z (xtr1 (Eq.trans (if_neg c_1) (Eq.trans (if_neg c_2) (if_pos c_3))) e))
        · refine lv_goto (tgt := 67) hx hb dX5_night_51 (by decide) ?_
          refine lv_iinc (v := nI (i + 1)) (lv' := [(2, .int (nI (i + 1))), (0, .ref aR), (1, .int many)]) hx hb dX5_night_67 hl (k := 2) rfl (nI_1 _) (by decide) rfl (fun ls hl => ?_)
          refine lv_goto (tgt := 4) hx hb dX5_night_70 (by decide) ?_
          exact ih (i + 1) many xe (upd sg (nI i).toNatClampNeg ((sg (nI i).toNatClampNeg) - 1)) (xlt hlo c_1) (by omega) H locs ls hw (lv_sub hl [1, 2, 0] rfl) (fun z e => K z (xtr1 (Eq.trans (if_neg c_1) (Eq.trans (if_neg c_2) (if_neg c_3))) e))
      · refine lv_goto (tgt := 67) hx hb dX5_night_23 (by decide) ?_
        refine lv_iinc (v := nI (i + 1)) (lv' := [(2, .int (nI (i + 1))), (0, .ref aR), (1, .int many)]) hx hb dX5_night_67 hl (k := 2) rfl (nI_1 _) (by decide) rfl (fun ls hl => ?_)
        refine lv_goto (tgt := 4) hx hb dX5_night_70 (by decide) ?_
        exact ih (i + 1) many xe sg (xlt hlo c_1) (by omega) H locs ls hw (lv_sub hl [1, 2, 0] rfl) (fun z e => K z (xtr1 (Eq.trans (if_neg c_1) (if_pos c_2)) e))
def FX5_night (xe : Nat → Int32) (sg : Nat → Int32) : Int32 × (Nat → Int32) × (Nat → Int32) :=
  xbind (LX5_night_t 101 0 0 xe sg) (fun z4 => (z4.1, z4.2.1, z4.2.2))
set_option maxHeartbeats 40000000 in
set_option maxRecDepth 100000 in
theorem metX5_night (l : Launch) (G : xG) (sz : Nat) (aR : Nat) (rEx : Nat) (rRd : Nat) (rTo : Nat) (rMi : Nat) (rCl : Nat) (rSh : Nat) (rFa : Nat) (aS : Nat) (aH : Nat) (sTr : Nat) (sAk : Nat) (sWy : Nat) (sXe : Nat) (sSg : Nat) (th : Int32) (pl : Int32) (rs : Int32) (po : Int32) (co : Int32) (go : Int32) (ln : Int32) (wk : Int32) (db : Int32) (dn : Int32) (iv : Int32) (qs : Int32) (xe : Nat → Int32) (sg : Nat → Int32) : xM l yX5_night wsX5_night ⟨0, 0, 0, 0⟩ G [.ref aR] [xO aR 5 [.int th, .int pl, .ref rEx, .ref rRd, .ref rTo, .int rs, .ref rMi, .ref rCl, .ref rSh, .ref rFa, .ref aS, .ref aH], xO aS 4 [.int po, .int co, .int go, .ref sTr, .ref sAk, .ref sWy, .int ln, .ref sXe, .ref sSg, .int wk, .int db, .int dn, .int iv, .int qs], xAI G sXe 100 xe, xAI G sSg 100 sg] sz (xQi G [xO aR 5 [.int th, .int pl, .ref rEx, .ref rRd, .ref rTo, .int rs, .ref rMi, .ref rCl, .ref rSh, .ref rFa, .ref aS, .ref aH], xO aS 4 [.int po, .int co, .int go, .ref sTr, .ref sAk, .ref sWy, .int ln, .ref sXe, .ref sSg, .int wk, .int db, .int dn, .int iv, .int qs], xAI G sXe 100 xe, xAI G sSg 100 sg] sz (fun (r : Int32) (u : (Nat → Int32) × (Nat → Int32)) => r = (FX5_night xe sg).1 ∧ u = (FX5_night xe sg).2) (fun u : (Nat → Int32) × (Nat → Int32) => [xO aR 5 [.int th, .int pl, .ref rEx, .ref rRd, .ref rTo, .int rs, .ref rMi, .ref rCl, .ref rSh, .ref rFa, .ref aS, .ref aH], xO aS 4 [.int po, .int co, .int go, .ref sTr, .ref sAk, .ref sWy, .int ln, .ref sXe, .ref sSg, .int wk, .int db, .int dn, .int iv, .int qs], xAI G sXe 100 u.1, xAI G sSg 100 u.2])) := by
  refine xof (own := RX5) (cc := cX5_night) (maxL := 3) (ret := (some .int)) rfl (by decide) rfl (Nat.le_of_ble_eq_true rfl) ?_
  intro pg en s mi below meth cd hc hnm hw ls hl
  obtain ⟨hx, hb, -, hown, hts, -⟩ := id hc
  have hl : lv_has ls 3 [(0, .ref aR)] := hl
  refine lv_iconst (v := 0) hx hb dX5_night_0 (by decide) ?_
  refine lv_istore_n (lv' := [(1, .int 0), (0, .ref aR)]) hx hb dX5_night_1 rfl hl (by decide) rfl (fun ls hl => ?_)
  refine lv_iconst (v := 0) hx hb dX5_night_2 (by decide) ?_
  refine lv_istore_n (lv' := [(2, .int 0), (1, .int 0), (0, .ref aR)]) hx hb dX5_night_3 rfl hl (by decide) rfl (fun ls hl => ?_)
  refine lpX5_night_t G hc aR rEx rRd rTo rMi rCl rSh rFa aS aH sTr sAk sWy sXe sSg th pl rs po co go ln wk db dn iv qs 101 0 0 xe sg (by decide) (by decide) _ _ _ hw (lv_sub hl [2, 1, 0] rfl) (fun z4 ek5 H locs ls hw hl => ?_)
  refine lv_iload_n hx hb dX5_night_73 rfl (lv_at hl 1 rfl) ?_
  obtain ⟨u0, hu0⟩ : ∃ z : (Nat → Int32) × (Nat → Int32), z = (z4.2.1, z4.2.2) := ⟨_, rfl⟩
  refine xret_i u0 hc ?_ ?_ ⟨Nat.le_of_ble_eq_true rfl, Nat.le_of_ble_eq_true rfl⟩ dX5_night_74
  · subst hu0; dsimp only; exact hw
  · subst hu0; exact xe2 (xb ek5 rfl)
def LX5_sleep_t (nn : Int32) : Nat → Nat → (Int32) → (Nat → Int32) → (Nat → Int32) → (Int32) × (Nat → Int32) × (Nat → Int32)
  | 0, i, many, xe, sg => (many, xe, sg)
  | n + 1, i, many, xe, sg =>
    if nn ≤ (nI i) then ((many, xe, sg)) else (xbind2 (FX5_night xe sg) (fun r8 u7 => LX5_sleep_t nn n (i + 1) (many + r8) u7.1 u7.2))
set_option maxHeartbeats 40000000 in
set_option maxRecDepth 100000 in
theorem lpX5_sleep_t {pg : Program} {l : Launch} {en : Env} {s : State} {mi : MethodId} {args : Array Value} {below : List Frame} {meth : Method} {cd : Code} {A : Nat → Prop} {Q : State → Prop} (G : xG) (hc : xC pg s mi args meth cd cX5_sleep 4 RX5 wsX5_sleep (some .int) G A) (aR : Nat) (rEx : Nat) (rRd : Nat) (rTo : Nat) (rMi : Nat) (rCl : Nat) (rSh : Nat) (rFa : Nat) (aS : Nat) (aH : Nat) (sTr : Nat) (sAk : Nat) (sWy : Nat) (sXe : Nat) (sSg : Nat) (th : Int32) (pl : Int32) (rs : Int32) (po : Int32) (co : Int32) (go : Int32) (ln : Int32) (wk : Int32) (db : Int32) (dn : Int32) (iv : Int32) (qs : Int32) (nn : Int32) :
    ∀ (n i : Nat) (many : Int32) (xe : Nat → Int32) (sg : Nat → Int32), ((i : Nat) : Int) ≤ (nn : Int32).toInt → (nn : Int32).toInt < ((i + n : Nat) : Int) → ∀ (H : Heap) (locs : List Loc) (ls : Array Slot), xW G A s.heap [xO aR 5 [.int th, .int pl, .ref rEx, .ref rRd, .ref rTo, .int rs, .ref rMi, .ref rCl, .ref rSh, .ref rFa, .ref aS, .ref aH], xO aS 4 [.int po, .int co, .int go, .ref sTr, .ref sAk, .ref sWy, .int ln, .ref sXe, .ref sSg, .int wk, .int db, .int dn, .int iv, .int qs], xAI G sXe 100 xe, xAI G sSg 100 sg] H locs → lv_has ls 4 [(0, .ref aR), (1, .int nn), (2, .int many), (3, .int (nI i))] → (∀ (z : (Int32) × (Nat → Int32) × (Nat → Int32)), z = LX5_sleep_t nn n i many xe sg → ∀ (H1 : Heap) (locs1 : List Loc) (ls1 : Array Slot), xW G A s.heap [xO aR 5 [.int th, .int pl, .ref rEx, .ref rRd, .ref rTo, .int rs, .ref rMi, .ref rCl, .ref rSh, .ref rFa, .ref aS, .ref aH], xO aS 4 [.int po, .int co, .int go, .ref sTr, .ref sAk, .ref sWy, .int ln, .ref sXe, .ref sSg, .int wk, .int db, .int dn, .int iv, .int qs], xAI G sXe 100 z.2.1, xAI G sSg 100 z.2.2] H1 locs1 → lv_has ls1 4 [(0, .ref aR), (1, .int nn), (2, .int z.1)] → W pg l en ⟨1, 0, 0, 22⟩ s mi args below meth cd H1 locs1 0 0 Q (F0 mi 43 ls1 [])) → W pg l en ⟨1, 0, 0, 22⟩ s mi args below meth cd H locs 0 0 Q (F0 mi 25 ls []) := by
  obtain ⟨hx, hb, -, hown, hts, -⟩ := id hc
  intro n
  induction n with
  | zero =>
    intro i many xe sg hlo hfu
    intros; exact absurd hfu (by omega)
  | succ n ih =>
    intro i many xe sg hlo hfu  H locs ls hw hl K
    refine lv_iload_n hx hb dX5_sleep_25 rfl (lv_at hl 3 rfl) ?_
    refine lv_iload_n hx hb dX5_sleep_26 rfl (lv_at hl 1 rfl) ?_
    refine lv_icmp_ge (tgt := 43) hx hb dX5_sleep_27 (by decide) (fun c_6 => ?_) (fun c_6 => ?_)
    · exact K (many, xe, sg) (Eq.symm (if_pos c_6)) H locs ls (by first | (dsimp only; exact hw) | exact hw) (by first | exact lv_sub hl [0, 1, 2] rfl | (dsimp only; exact lv_sub hl [0, 1, 2] rfl))
    · refine lv_iload_n hx hb dX5_sleep_30 rfl (lv_at hl 2 rfl) ?_
      refine lv_aload_n hx hb dX5_sleep_31 rfl (lv_at hl 0 rfl) ?_
      refine xcall_i (isC := [0, 1, 2, 3]) hc hw (xrunV (n := 0) (As := []) (rest := [.int many]) hc hw [0, 1, 2, 3] (metX5_night l G _ aR rEx rRd rTo rMi rCl rSh rFa aS aH sTr sAk sWy sXe sSg th pl rs po co go ln wk db dn iv qs xe sg) gX5_sleep_X5_night rfl (by decide +kernel) ⟨Nat.le_of_ble_eq_true rfl, Nat.le_of_ble_eq_true rfl⟩ 0 rfl rfl rfl rfl rfl rfl hl.1 (Nat.le_of_ble_eq_true rfl) dX5_sleep_32 ⟨Nat.le_of_ble_eq_true rfl, Nat.le_of_ble_eq_true rfl⟩) rfl [] [0, 1, 2, 3] (fun u7 => [xO aR 5 [.int th, .int pl, .ref rEx, .ref rRd, .ref rTo, .int rs, .ref rMi, .ref rCl, .ref rSh, .ref rFa, .ref aS, .ref aH], xO aS 4 [.int po, .int co, .int go, .ref sTr, .ref sAk, .ref sWy, .int ln, .ref sXe, .ref sSg, .int wk, .int db, .int dn, .int iv, .int qs], xAI G sXe 100 u7.1, xAI G sSg 100 u7.2]) (fun _ => rfl) rfl rfl rfl rfl (fun r8 u7 H locs hp9 hw => ?_)
      refine lv_iadd hx hb dX5_sleep_35 ?_
      refine lv_istore_n (lv' := [(2, .int (many + r8)), (0, .ref aR), (1, .int nn), (3, .int (nI i))]) hx hb dX5_sleep_36 rfl hl (by decide) rfl (fun ls hl => ?_)
      refine lv_iinc (v := nI (i + 1)) (lv' := [(3, .int (nI (i + 1))), (2, .int (many + r8)), (0, .ref aR), (1, .int nn)]) hx hb dX5_sleep_37 hl (k := 3) rfl (nI_1 _) (by decide) rfl (fun ls hl => ?_)
      refine lv_goto (tgt := 25) hx hb dX5_sleep_40 (by decide) ?_
      exact ih (i + 1) (many + r8) u7.1 u7.2 (xlt hlo c_6) (by omega) H locs ls hw (lv_sub hl [2, 3, 1, 0] rfl) (fun z e => K z (xtr1 (Eq.trans (if_neg c_6) (xb2 hp9 rfl)) e))
def FX5_sleep (xe : Nat → Int32) (sg : Nat → Int32) (nn : Int32) : Int32 × (Int32) × (Nat → Int32) × (Nat → Int32) :=
  xbind (FX5_isIn nn 1 9) (fun r2 => if r2 = 0 then (xbind2 (FX5_no 1) (fun r14 u13 => (r14, u13, xe, sg))) else (xbind (LX5_sleep_t nn 10 0 0 xe sg) (fun z11 => (z11.1, 0, z11.2.1, z11.2.2))))
set_option maxHeartbeats 40000000 in
set_option maxRecDepth 100000 in
theorem metX5_sleep (l : Launch) (G : xG) (sz : Nat) (aR : Nat) (rEx : Nat) (rRd : Nat) (rTo : Nat) (rMi : Nat) (rCl : Nat) (rSh : Nat) (rFa : Nat) (aS : Nat) (aH : Nat) (sTr : Nat) (sAk : Nat) (sWy : Nat) (sXe : Nat) (sSg : Nat) (th : Int32) (pl : Int32) (rs : Int32) (po : Int32) (co : Int32) (go : Int32) (ln : Int32) (wk : Int32) (db : Int32) (dn : Int32) (iv : Int32) (qs : Int32) (xe : Nat → Int32) (sg : Nat → Int32) (nn : Int32) : xM l yX5_sleep wsX5_sleep ⟨1, 0, 0, 22⟩ G [.ref aR, .int nn] [xO aR 5 [.int th, .int pl, .ref rEx, .ref rRd, .ref rTo, .int rs, .ref rMi, .ref rCl, .ref rSh, .ref rFa, .ref aS, .ref aH], xO aS 4 [.int po, .int co, .int go, .ref sTr, .ref sAk, .ref sWy, .int ln, .ref sXe, .ref sSg, .int wk, .int db, .int dn, .int iv, .int qs], xAI G sXe 100 xe, xAI G sSg 100 sg] sz (xQi G [xO aR 5 [.int th, .int pl, .ref rEx, .ref rRd, .ref rTo, .int rs, .ref rMi, .ref rCl, .ref rSh, .ref rFa, .ref aS, .ref aH], xO aS 4 [.int po, .int co, .int go, .ref sTr, .ref sAk, .ref sWy, .int ln, .ref sXe, .ref sSg, .int wk, .int db, .int dn, .int iv, .int qs], xAI G sXe 100 xe, xAI G sSg 100 sg] sz (fun (r : Int32) (u : (Int32) × (Nat → Int32) × (Nat → Int32)) => r = (FX5_sleep xe sg nn).1 ∧ u = (FX5_sleep xe sg nn).2) (fun u : (Int32) × (Nat → Int32) × (Nat → Int32) => [xO aR 5 [.int u.1, .int pl, .ref rEx, .ref rRd, .ref rTo, .int rs, .ref rMi, .ref rCl, .ref rSh, .ref rFa, .ref aS, .ref aH], xO aS 4 [.int po, .int co, .int go, .ref sTr, .ref sAk, .ref sWy, .int ln, .ref sXe, .ref sSg, .int wk, .int db, .int dn, .int iv, .int qs], xAI G sXe 100 u.2.1, xAI G sSg 100 u.2.2])) := by
  refine xof (own := RX5) (cc := cX5_sleep) (maxL := 4) (ret := (some .int)) rfl (by decide) rfl (Nat.le_of_ble_eq_true rfl) ?_
  intro pg en s mi below meth cd hc hnm hw ls hl
  obtain ⟨hx, hb, -, hown, hts, -⟩ := id hc
  have hl : lv_has ls 4 [(0, .ref aR), (1, .int nn)] := hl
  refine lv_aload_n hx hb dX5_sleep_0 rfl (lv_at hl 0 rfl) ?_
  refine lv_iconst (v := 0) hx hb dX5_sleep_1 (by decide) ?_
  refine xput (C := RX5) (T := TX5) (N := 12) (ty := .int) hc hw inX5_sleep_X5 tyX5 tyX5_ok nmX5 0 [xO aR 5 [.int 0, .int pl, .ref rEx, .ref rRd, .ref rTo, .int rs, .ref rMi, .ref rCl, .ref rSh, .ref rFa, .ref aS, .ref aH], xO aS 4 [.int po, .int co, .int go, .ref sTr, .ref sAk, .ref sWy, .int ln, .ref sXe, .ref sSg, .int wk, .int db, .int dn, .int iv, .int qs], xAI G sXe 100 xe, xAI G sSg 100 sg] rfl rfl 0 (by decide) lkX5_sleep_f42 rfl rfl rfl rfl (Nat.le_of_ble_eq_true rfl) rfl dX5_sleep_2 (fun H locs hw => ?_)
  refine lv_iload_n hx hb dX5_sleep_5 rfl (lv_at hl 1 rfl) ?_
  refine lv_iconst (v := 1) hx hb dX5_sleep_6 (by decide) ?_
  refine lv_bipush (v := 9) hx hb dX5_sleep_7 (by decide) ?_
  refine xcall_i (isC := []) hc hw (xrunS (n := 3) (As := [.int nn, .int 1, .int 9]) (rest := []) hc hw [] (metX5_isIn l G _ nn 1 9) gX5_sleep_X5_isIn rfl (by decide +kernel) ⟨Nat.le_of_ble_eq_true rfl, Nat.le_of_ble_eq_true rfl⟩ rfl rfl rfl rfl hl.1 (Nat.le_of_ble_eq_true rfl) dX5_sleep_9 ⟨Nat.le_of_ble_eq_true rfl, Nat.le_of_ble_eq_true rfl⟩) rfl [0, 1, 2, 3] [0, 1, 2, 3] (fun u1 => [xO aR 5 [.int 0, .int pl, .ref rEx, .ref rRd, .ref rTo, .int rs, .ref rMi, .ref rCl, .ref rSh, .ref rFa, .ref aS, .ref aH], xO aS 4 [.int po, .int co, .int go, .ref sTr, .ref sAk, .ref sWy, .int ln, .ref sXe, .ref sSg, .int wk, .int db, .int dn, .int iv, .int qs], xAI G sXe 100 xe, xAI G sSg 100 sg]) (fun _ => rfl) rfl rfl rfl rfl (fun r2 u1 H locs hp3 hw => ?_)
  refine lv_if_ne (tgt := 21) hx hb dX5_sleep_12 (by decide) (fun c_5 => ?_) (fun c_5 => ?_)
  · refine lv_iconst (v := 0) hx hb dX5_sleep_21 (by decide) ?_
    refine lv_istore_n (lv' := [(2, .int 0), (0, .ref aR), (1, .int nn)]) hx hb dX5_sleep_22 rfl hl (by decide) rfl (fun ls hl => ?_)
    refine lv_iconst (v := 0) hx hb dX5_sleep_23 (by decide) ?_
    refine lv_istore_n (lv' := [(3, .int 0), (2, .int 0), (0, .ref aR), (1, .int nn)]) hx hb dX5_sleep_24 rfl hl (by decide) rfl (fun ls hl => ?_)
    refine lpX5_sleep_t G hc aR rEx rRd rTo rMi rCl rSh rFa aS aH sTr sAk sWy sXe sSg 0 pl rs po co go ln wk db dn iv qs nn 10 0 0 xe sg (by have h9 := pX5_isIn hp3 c_5; rw [show (1 : Int32).toInt = 1 from rfl, show (9 : Int32).toInt = 9 from rfl] at h9; omega) (by have h9 := pX5_isIn hp3 c_5; rw [show (1 : Int32).toInt = 1 from rfl, show (9 : Int32).toInt = 9 from rfl] at h9; omega) _ _ _ hw (lv_sub hl [2, 3, 1, 0] rfl) (fun z11 ek12 H locs ls hw hl => ?_)
    refine lv_iload_n hx hb dX5_sleep_43 rfl (lv_at hl 2 rfl) ?_
    obtain ⟨u0, hu0⟩ : ∃ z : (Int32) × (Nat → Int32) × (Nat → Int32), z = (0, z11.2.1, z11.2.2) := ⟨_, rfl⟩
    refine xret_i u0 hc ?_ ?_ ⟨Nat.le_of_ble_eq_true rfl, Nat.le_of_ble_eq_true rfl⟩ dX5_sleep_44
    · subst hu0; dsimp only; exact hw
    · subst hu0; exact xe2 (xb hp3 (Eq.trans (if_neg c_5) (xb ek12 rfl)))
  · refine lv_aload_n hx hb dX5_sleep_15 rfl (lv_at hl 0 rfl) ?_
    refine lv_iconst (v := 1) hx hb dX5_sleep_16 (by decide) ?_
    refine xcall_i (isC := [0]) hc hw (xrunV (n := 1) (As := [.int 1]) (rest := []) hc hw [0] (metX5_no l G _ aR rEx rRd rTo rMi rCl rSh rFa aS aH 0 pl rs 1) gX5_sleep_X5_no rfl (by decide +kernel) ⟨Nat.le_of_ble_eq_true rfl, Nat.le_of_ble_eq_true rfl⟩ 0 rfl rfl rfl rfl rfl rfl hl.1 (Nat.le_of_ble_eq_true rfl) dX5_sleep_17 ⟨Nat.le_of_ble_eq_true rfl, Nat.le_of_ble_eq_true rfl⟩) rfl [1, 2, 3] [3, 0, 1, 2] (fun u13 => [xO aR 5 [.int u13, .int pl, .ref rEx, .ref rRd, .ref rTo, .int rs, .ref rMi, .ref rCl, .ref rSh, .ref rFa, .ref aS, .ref aH], xO aS 4 [.int po, .int co, .int go, .ref sTr, .ref sAk, .ref sWy, .int ln, .ref sXe, .ref sSg, .int wk, .int db, .int dn, .int iv, .int qs], xAI G sXe 100 xe, xAI G sSg 100 sg]) (fun _ => rfl) rfl rfl rfl rfl (fun r14 u13 H locs hp15 hw => ?_)
    obtain ⟨u0, hu0⟩ : ∃ z : (Int32) × (Nat → Int32) × (Nat → Int32), z = (u13, xe, sg) := ⟨_, rfl⟩
    refine xret_i u0 hc ?_ ?_ ⟨Nat.le_of_ble_eq_true rfl, Nat.le_of_ble_eq_true rfl⟩ dX5_sleep_20
    · subst hu0; dsimp only; exact hw
    · subst hu0; exact xe2 (xb hp3 (Eq.trans (if_pos c_5) (xb2 hp15 rfl)))
theorem yadd_p {pl q r : Int32} (hpl : 0 ≤ pl.toInt ∧ pl.toInt ≤ 10) (h : r = FX5_isPlace pl q) (c : ¬ r = 0) : 0 < pl.toInt := by
  have := pX5_isPlace hpl h c
  omega
