def FX5_places (pl : Int32) : Int32 × (Int32) :=
  xbind2 (FX5_ok pl) (fun r2 u1 => (r2, u1))
set_option maxHeartbeats 40000000 in
set_option maxRecDepth 100000 in
theorem metX5_places (l : Launch) (G : xG) (sz : Nat) (aR : Nat) (rEx : Nat) (rRd : Nat) (rTo : Nat) (rMi : Nat) (rCl : Nat) (rSh : Nat) (rFa : Nat) (aS : Nat) (aH : Nat) (th : Int32) (pl : Int32) (rs : Int32) : xM l yX5_places wsX5_places ⟨1, 0, 0, 21⟩ G [.ref aR] [xO aR 5 [.int th, .int pl, .ref rEx, .ref rRd, .ref rTo, .int rs, .ref rMi, .ref rCl, .ref rSh, .ref rFa, .ref aS, .ref aH]] sz (xQi G [xO aR 5 [.int th, .int pl, .ref rEx, .ref rRd, .ref rTo, .int rs, .ref rMi, .ref rCl, .ref rSh, .ref rFa, .ref aS, .ref aH]] sz (fun (r : Int32) (u : (Int32)) => r = (FX5_places pl).1 ∧ u = (FX5_places pl).2) (fun u : (Int32) => [xO aR 5 [.int u, .int pl, .ref rEx, .ref rRd, .ref rTo, .int rs, .ref rMi, .ref rCl, .ref rSh, .ref rFa, .ref aS, .ref aH]])) := by
  refine xof (own := RX5) (cc := cX5_places) (maxL := 1) (ret := (some .int)) rfl (by decide) rfl (Nat.le_of_ble_eq_true rfl) ?_
  intro pg en s mi below meth cd hc hnm hw ls hl
  obtain ⟨hx, hb, -, hown, hts, -⟩ := id hc
  have hl : lv_has ls 1 [(0, .ref aR)] := hl
  refine lv_aload_n hx hb dX5_places_0 rfl (lv_at hl 0 rfl) ?_
  refine lv_aload_n hx hb dX5_places_1 rfl (lv_at hl 0 rfl) ?_
  refine xget (C := RX5) (T := TX5) (N := 12) hc hw inX5_places_X5 0 rfl rfl 1 (by decide) lkX5_places_f46 rfl rfl dX5_places_2 ?_
  refine xcall_i (isC := [0]) hc hw (xrunV (n := 1) (As := [.int pl]) (rest := []) hc hw [0] (metX5_ok l G _ aR rEx rRd rTo rMi rCl rSh rFa aS aH th pl rs pl) gX5_places_X5_ok rfl (by decide +kernel) ⟨Nat.le_of_ble_eq_true rfl, Nat.le_of_ble_eq_true rfl⟩ 0 rfl rfl rfl rfl rfl rfl hl.1 (Nat.le_of_ble_eq_true rfl) dX5_places_5 ⟨Nat.le_of_ble_eq_true rfl, Nat.le_of_ble_eq_true rfl⟩) rfl [] [0] (fun u1 => [xO aR 5 [.int u1, .int pl, .ref rEx, .ref rRd, .ref rTo, .int rs, .ref rMi, .ref rCl, .ref rSh, .ref rFa, .ref aS, .ref aH]]) (fun _ => rfl) rfl rfl rfl rfl (fun r2 u1 H locs hp3 hw => ?_)
  exact xret_i u1 hc hw (xe2 (xb2 hp3 rfl)) ⟨Nat.le_of_ble_eq_true rfl, Nat.le_of_ble_eq_true rfl⟩ dX5_places_8
def FX5_whereIs (po : Int32) : Int32 × (Int32) :=
  xbind2 (FX5_ok po) (fun r2 u1 => (r2, u1))
set_option maxHeartbeats 40000000 in
set_option maxRecDepth 100000 in
theorem metX5_whereIs (l : Launch) (G : xG) (sz : Nat) (aR : Nat) (rEx : Nat) (rRd : Nat) (rTo : Nat) (rMi : Nat) (rCl : Nat) (rSh : Nat) (rFa : Nat) (aS : Nat) (aH : Nat) (sTr : Nat) (sAk : Nat) (sWy : Nat) (sXe : Nat) (sSg : Nat) (th : Int32) (pl : Int32) (rs : Int32) (po : Int32) (co : Int32) (go : Int32) (ln : Int32) (wk : Int32) (db : Int32) (dn : Int32) (iv : Int32) (qs : Int32) : xM l yX5_whereIs wsX5_whereIs ⟨1, 0, 0, 21⟩ G [.ref aR] [xO aR 5 [.int th, .int pl, .ref rEx, .ref rRd, .ref rTo, .int rs, .ref rMi, .ref rCl, .ref rSh, .ref rFa, .ref aS, .ref aH], xO aS 4 [.int po, .int co, .int go, .ref sTr, .ref sAk, .ref sWy, .int ln, .ref sXe, .ref sSg, .int wk, .int db, .int dn, .int iv, .int qs]] sz (xQi G [xO aR 5 [.int th, .int pl, .ref rEx, .ref rRd, .ref rTo, .int rs, .ref rMi, .ref rCl, .ref rSh, .ref rFa, .ref aS, .ref aH], xO aS 4 [.int po, .int co, .int go, .ref sTr, .ref sAk, .ref sWy, .int ln, .ref sXe, .ref sSg, .int wk, .int db, .int dn, .int iv, .int qs]] sz (fun (r : Int32) (u : (Int32)) => r = (FX5_whereIs po).1 ∧ u = (FX5_whereIs po).2) (fun u : (Int32) => [xO aR 5 [.int u, .int pl, .ref rEx, .ref rRd, .ref rTo, .int rs, .ref rMi, .ref rCl, .ref rSh, .ref rFa, .ref aS, .ref aH], xO aS 4 [.int po, .int co, .int go, .ref sTr, .ref sAk, .ref sWy, .int ln, .ref sXe, .ref sSg, .int wk, .int db, .int dn, .int iv, .int qs]])) := by
  refine xof (own := RX5) (cc := cX5_whereIs) (maxL := 1) (ret := (some .int)) rfl (by decide) rfl (Nat.le_of_ble_eq_true rfl) ?_
  intro pg en s mi below meth cd hc hnm hw ls hl
  obtain ⟨hx, hb, -, hown, hts, -⟩ := id hc
  have hl : lv_has ls 1 [(0, .ref aR)] := hl
  refine lv_aload_n hx hb dX5_whereIs_0 rfl (lv_at hl 0 rfl) ?_
  refine lv_aload_n hx hb dX5_whereIs_1 rfl (lv_at hl 0 rfl) ?_
  refine xget (C := RX5) (T := TX5) (N := 12) hc hw inX5_whereIs_X5 0 rfl rfl 10 (by decide) lkX5_whereIs_f35 rfl rfl dX5_whereIs_2 ?_
  refine xgetN (C := RX4) (T := TX4) (N := 14) hc hw inX5_whereIs_X4 1 rfl rfl 0 (by decide) nkX5_61 rfl rfl dX5_whereIs_5 ?_
  refine xcall_i (isC := [0]) hc hw (xrunV (n := 1) (As := [.int po]) (rest := []) hc hw [0] (metX5_ok l G _ aR rEx rRd rTo rMi rCl rSh rFa aS aH th pl rs po) gX5_whereIs_X5_ok rfl (by decide +kernel) ⟨Nat.le_of_ble_eq_true rfl, Nat.le_of_ble_eq_true rfl⟩ 0 rfl rfl rfl rfl rfl rfl hl.1 (Nat.le_of_ble_eq_true rfl) dX5_whereIs_8 ⟨Nat.le_of_ble_eq_true rfl, Nat.le_of_ble_eq_true rfl⟩) rfl [1] [1, 0] (fun u1 => [xO aR 5 [.int u1, .int pl, .ref rEx, .ref rRd, .ref rTo, .int rs, .ref rMi, .ref rCl, .ref rSh, .ref rFa, .ref aS, .ref aH], xO aS 4 [.int po, .int co, .int go, .ref sTr, .ref sAk, .ref sWy, .int ln, .ref sXe, .ref sSg, .int wk, .int db, .int dn, .int iv, .int qs]]) (fun _ => rfl) rfl rfl rfl rfl (fun r2 u1 H locs hp3 hw => ?_)
  exact xret_i u1 hc hw (xe2 (xb2 hp3 rfl)) ⟨Nat.le_of_ble_eq_true rfl, Nat.le_of_ble_eq_true rfl⟩ dX5_whereIs_11
def FX5_coins (co : Int32) : Int32 × (Int32) :=
  xbind2 (FX5_ok co) (fun r2 u1 => (r2, u1))
set_option maxHeartbeats 40000000 in
set_option maxRecDepth 100000 in
theorem metX5_coins (l : Launch) (G : xG) (sz : Nat) (aR : Nat) (rEx : Nat) (rRd : Nat) (rTo : Nat) (rMi : Nat) (rCl : Nat) (rSh : Nat) (rFa : Nat) (aS : Nat) (aH : Nat) (sTr : Nat) (sAk : Nat) (sWy : Nat) (sXe : Nat) (sSg : Nat) (th : Int32) (pl : Int32) (rs : Int32) (po : Int32) (co : Int32) (go : Int32) (ln : Int32) (wk : Int32) (db : Int32) (dn : Int32) (iv : Int32) (qs : Int32) : xM l yX5_coins wsX5_coins ⟨1, 0, 0, 21⟩ G [.ref aR] [xO aR 5 [.int th, .int pl, .ref rEx, .ref rRd, .ref rTo, .int rs, .ref rMi, .ref rCl, .ref rSh, .ref rFa, .ref aS, .ref aH], xO aS 4 [.int po, .int co, .int go, .ref sTr, .ref sAk, .ref sWy, .int ln, .ref sXe, .ref sSg, .int wk, .int db, .int dn, .int iv, .int qs]] sz (xQi G [xO aR 5 [.int th, .int pl, .ref rEx, .ref rRd, .ref rTo, .int rs, .ref rMi, .ref rCl, .ref rSh, .ref rFa, .ref aS, .ref aH], xO aS 4 [.int po, .int co, .int go, .ref sTr, .ref sAk, .ref sWy, .int ln, .ref sXe, .ref sSg, .int wk, .int db, .int dn, .int iv, .int qs]] sz (fun (r : Int32) (u : (Int32)) => r = (FX5_coins co).1 ∧ u = (FX5_coins co).2) (fun u : (Int32) => [xO aR 5 [.int u, .int pl, .ref rEx, .ref rRd, .ref rTo, .int rs, .ref rMi, .ref rCl, .ref rSh, .ref rFa, .ref aS, .ref aH], xO aS 4 [.int po, .int co, .int go, .ref sTr, .ref sAk, .ref sWy, .int ln, .ref sXe, .ref sSg, .int wk, .int db, .int dn, .int iv, .int qs]])) := by
  refine xof (own := RX5) (cc := cX5_coins) (maxL := 1) (ret := (some .int)) rfl (by decide) rfl (Nat.le_of_ble_eq_true rfl) ?_
  intro pg en s mi below meth cd hc hnm hw ls hl
  obtain ⟨hx, hb, -, hown, hts, -⟩ := id hc
  have hl : lv_has ls 1 [(0, .ref aR)] := hl
  refine lv_aload_n hx hb dX5_coins_0 rfl (lv_at hl 0 rfl) ?_
  refine lv_aload_n hx hb dX5_coins_1 rfl (lv_at hl 0 rfl) ?_
  refine xget (C := RX5) (T := TX5) (N := 12) hc hw inX5_coins_X5 0 rfl rfl 10 (by decide) lkX5_coins_f35 rfl rfl dX5_coins_2 ?_
  refine xgetN (C := RX4) (T := TX4) (N := 14) hc hw inX5_coins_X4 1 rfl rfl 1 (by decide) nkX5_97 rfl rfl dX5_coins_5 ?_
  refine xcall_i (isC := [0]) hc hw (xrunV (n := 1) (As := [.int co]) (rest := []) hc hw [0] (metX5_ok l G _ aR rEx rRd rTo rMi rCl rSh rFa aS aH th pl rs co) gX5_coins_X5_ok rfl (by decide +kernel) ⟨Nat.le_of_ble_eq_true rfl, Nat.le_of_ble_eq_true rfl⟩ 0 rfl rfl rfl rfl rfl rfl hl.1 (Nat.le_of_ble_eq_true rfl) dX5_coins_8 ⟨Nat.le_of_ble_eq_true rfl, Nat.le_of_ble_eq_true rfl⟩) rfl [1] [1, 0] (fun u1 => [xO aR 5 [.int u1, .int pl, .ref rEx, .ref rRd, .ref rTo, .int rs, .ref rMi, .ref rCl, .ref rSh, .ref rFa, .ref aS, .ref aH], xO aS 4 [.int po, .int co, .int go, .ref sTr, .ref sAk, .ref sWy, .int ln, .ref sXe, .ref sSg, .int wk, .int db, .int dn, .int iv, .int qs]]) (fun _ => rfl) rfl rfl rfl rfl (fun r2 u1 H locs hp3 hw => ?_)
  exact xret_i u1 hc hw (xe2 (xb2 hp3 rfl)) ⟨Nat.le_of_ble_eq_true rfl, Nat.le_of_ble_eq_true rfl⟩ dX5_coins_11
def FX5_goal (go : Int32) : Int32 × (Int32) :=
  xbind2 (FX5_ok go) (fun r2 u1 => (r2, u1))
set_option maxHeartbeats 40000000 in
set_option maxRecDepth 100000 in
theorem metX5_goal (l : Launch) (G : xG) (sz : Nat) (aR : Nat) (rEx : Nat) (rRd : Nat) (rTo : Nat) (rMi : Nat) (rCl : Nat) (rSh : Nat) (rFa : Nat) (aS : Nat) (aH : Nat) (sTr : Nat) (sAk : Nat) (sWy : Nat) (sXe : Nat) (sSg : Nat) (th : Int32) (pl : Int32) (rs : Int32) (po : Int32) (co : Int32) (go : Int32) (ln : Int32) (wk : Int32) (db : Int32) (dn : Int32) (iv : Int32) (qs : Int32) : xM l yX5_goal wsX5_goal ⟨1, 0, 0, 21⟩ G [.ref aR] [xO aR 5 [.int th, .int pl, .ref rEx, .ref rRd, .ref rTo, .int rs, .ref rMi, .ref rCl, .ref rSh, .ref rFa, .ref aS, .ref aH], xO aS 4 [.int po, .int co, .int go, .ref sTr, .ref sAk, .ref sWy, .int ln, .ref sXe, .ref sSg, .int wk, .int db, .int dn, .int iv, .int qs]] sz (xQi G [xO aR 5 [.int th, .int pl, .ref rEx, .ref rRd, .ref rTo, .int rs, .ref rMi, .ref rCl, .ref rSh, .ref rFa, .ref aS, .ref aH], xO aS 4 [.int po, .int co, .int go, .ref sTr, .ref sAk, .ref sWy, .int ln, .ref sXe, .ref sSg, .int wk, .int db, .int dn, .int iv, .int qs]] sz (fun (r : Int32) (u : (Int32)) => r = (FX5_goal go).1 ∧ u = (FX5_goal go).2) (fun u : (Int32) => [xO aR 5 [.int u, .int pl, .ref rEx, .ref rRd, .ref rTo, .int rs, .ref rMi, .ref rCl, .ref rSh, .ref rFa, .ref aS, .ref aH], xO aS 4 [.int po, .int co, .int go, .ref sTr, .ref sAk, .ref sWy, .int ln, .ref sXe, .ref sSg, .int wk, .int db, .int dn, .int iv, .int qs]])) := by
  refine xof (own := RX5) (cc := cX5_goal) (maxL := 1) (ret := (some .int)) rfl (by decide) rfl (Nat.le_of_ble_eq_true rfl) ?_
  intro pg en s mi below meth cd hc hnm hw ls hl
  obtain ⟨hx, hb, -, hown, hts, -⟩ := id hc
  have hl : lv_has ls 1 [(0, .ref aR)] := hl
  refine lv_aload_n hx hb dX5_goal_0 rfl (lv_at hl 0 rfl) ?_
  refine lv_aload_n hx hb dX5_goal_1 rfl (lv_at hl 0 rfl) ?_
  refine xget (C := RX5) (T := TX5) (N := 12) hc hw inX5_goal_X5 0 rfl rfl 10 (by decide) lkX5_goal_f35 rfl rfl dX5_goal_2 ?_
  refine xgetN (C := RX4) (T := TX4) (N := 14) hc hw inX5_goal_X4 1 rfl rfl 2 (by decide) nkX5_103 rfl rfl dX5_goal_5 ?_
  refine xcall_i (isC := [0]) hc hw (xrunV (n := 1) (As := [.int go]) (rest := []) hc hw [0] (metX5_ok l G _ aR rEx rRd rTo rMi rCl rSh rFa aS aH th pl rs go) gX5_goal_X5_ok rfl (by decide +kernel) ⟨Nat.le_of_ble_eq_true rfl, Nat.le_of_ble_eq_true rfl⟩ 0 rfl rfl rfl rfl rfl rfl hl.1 (Nat.le_of_ble_eq_true rfl) dX5_goal_8 ⟨Nat.le_of_ble_eq_true rfl, Nat.le_of_ble_eq_true rfl⟩) rfl [1] [1, 0] (fun u1 => [xO aR 5 [.int u1, .int pl, .ref rEx, .ref rRd, .ref rTo, .int rs, .ref rMi, .ref rCl, .ref rSh, .ref rFa, .ref aS, .ref aH], xO aS 4 [.int po, .int co, .int go, .ref sTr, .ref sAk, .ref sWy, .int ln, .ref sXe, .ref sSg, .int wk, .int db, .int dn, .int iv, .int qs]]) (fun _ => rfl) rfl rfl rfl rfl (fun r2 u1 H locs hp3 hw => ?_)
  exact xret_i u1 hc hw (xe2 (xb2 hp3 rfl)) ⟨Nat.le_of_ble_eq_true rfl, Nat.le_of_ble_eq_true rfl⟩ dX5_goal_11
def FX5_wayLength (ln : Int32) : Int32 × (Int32) :=
  xbind2 (FX5_ok ln) (fun r2 u1 => (r2, u1))
set_option maxHeartbeats 40000000 in
set_option maxRecDepth 100000 in
theorem metX5_wayLength (l : Launch) (G : xG) (sz : Nat) (aR : Nat) (rEx : Nat) (rRd : Nat) (rTo : Nat) (rMi : Nat) (rCl : Nat) (rSh : Nat) (rFa : Nat) (aS : Nat) (aH : Nat) (sTr : Nat) (sAk : Nat) (sWy : Nat) (sXe : Nat) (sSg : Nat) (th : Int32) (pl : Int32) (rs : Int32) (po : Int32) (co : Int32) (go : Int32) (ln : Int32) (wk : Int32) (db : Int32) (dn : Int32) (iv : Int32) (qs : Int32) : xM l yX5_wayLength wsX5_wayLength ⟨1, 0, 0, 21⟩ G [.ref aR] [xO aR 5 [.int th, .int pl, .ref rEx, .ref rRd, .ref rTo, .int rs, .ref rMi, .ref rCl, .ref rSh, .ref rFa, .ref aS, .ref aH], xO aS 4 [.int po, .int co, .int go, .ref sTr, .ref sAk, .ref sWy, .int ln, .ref sXe, .ref sSg, .int wk, .int db, .int dn, .int iv, .int qs]] sz (xQi G [xO aR 5 [.int th, .int pl, .ref rEx, .ref rRd, .ref rTo, .int rs, .ref rMi, .ref rCl, .ref rSh, .ref rFa, .ref aS, .ref aH], xO aS 4 [.int po, .int co, .int go, .ref sTr, .ref sAk, .ref sWy, .int ln, .ref sXe, .ref sSg, .int wk, .int db, .int dn, .int iv, .int qs]] sz (fun (r : Int32) (u : (Int32)) => r = (FX5_wayLength ln).1 ∧ u = (FX5_wayLength ln).2) (fun u : (Int32) => [xO aR 5 [.int u, .int pl, .ref rEx, .ref rRd, .ref rTo, .int rs, .ref rMi, .ref rCl, .ref rSh, .ref rFa, .ref aS, .ref aH], xO aS 4 [.int po, .int co, .int go, .ref sTr, .ref sAk, .ref sWy, .int ln, .ref sXe, .ref sSg, .int wk, .int db, .int dn, .int iv, .int qs]])) := by
  refine xof (own := RX5) (cc := cX5_wayLength) (maxL := 1) (ret := (some .int)) rfl (by decide) rfl (Nat.le_of_ble_eq_true rfl) ?_
  intro pg en s mi below meth cd hc hnm hw ls hl
  obtain ⟨hx, hb, -, hown, hts, -⟩ := id hc
  have hl : lv_has ls 1 [(0, .ref aR)] := hl
  refine lv_aload_n hx hb dX5_wayLength_0 rfl (lv_at hl 0 rfl) ?_
  refine lv_aload_n hx hb dX5_wayLength_1 rfl (lv_at hl 0 rfl) ?_
  refine xget (C := RX5) (T := TX5) (N := 12) hc hw inX5_wayLength_X5 0 rfl rfl 10 (by decide) lkX5_wayLength_f35 rfl rfl dX5_wayLength_2 ?_
  refine xgetN (C := RX4) (T := TX4) (N := 14) hc hw inX5_wayLength_X4 1 rfl rfl 6 (by decide) nkX5_84 rfl rfl dX5_wayLength_5 ?_
  refine xcall_i (isC := [0]) hc hw (xrunV (n := 1) (As := [.int ln]) (rest := []) hc hw [0] (metX5_ok l G _ aR rEx rRd rTo rMi rCl rSh rFa aS aH th pl rs ln) gX5_wayLength_X5_ok rfl (by decide +kernel) ⟨Nat.le_of_ble_eq_true rfl, Nat.le_of_ble_eq_true rfl⟩ 0 rfl rfl rfl rfl rfl rfl hl.1 (Nat.le_of_ble_eq_true rfl) dX5_wayLength_8 ⟨Nat.le_of_ble_eq_true rfl, Nat.le_of_ble_eq_true rfl⟩) rfl [1] [1, 0] (fun u1 => [xO aR 5 [.int u1, .int pl, .ref rEx, .ref rRd, .ref rTo, .int rs, .ref rMi, .ref rCl, .ref rSh, .ref rFa, .ref aS, .ref aH], xO aS 4 [.int po, .int co, .int go, .ref sTr, .ref sAk, .ref sWy, .int ln, .ref sXe, .ref sSg, .int wk, .int db, .int dn, .int iv, .int qs]]) (fun _ => rfl) rfl rfl rfl rfl (fun r2 u1 H locs hp3 hw => ?_)
  exact xret_i u1 hc hw (xe2 (xb2 hp3 rfl)) ⟨Nat.le_of_ble_eq_true rfl, Nat.le_of_ble_eq_true rfl⟩ dX5_wayLength_11
def FX5_milesWalked (wk : Int32) : Int32 × (Int32) :=
  xbind2 (FX5_ok wk) (fun r2 u1 => (r2, u1))
set_option maxHeartbeats 40000000 in
set_option maxRecDepth 100000 in
theorem metX5_milesWalked (l : Launch) (G : xG) (sz : Nat) (aR : Nat) (rEx : Nat) (rRd : Nat) (rTo : Nat) (rMi : Nat) (rCl : Nat) (rSh : Nat) (rFa : Nat) (aS : Nat) (aH : Nat) (sTr : Nat) (sAk : Nat) (sWy : Nat) (sXe : Nat) (sSg : Nat) (th : Int32) (pl : Int32) (rs : Int32) (po : Int32) (co : Int32) (go : Int32) (ln : Int32) (wk : Int32) (db : Int32) (dn : Int32) (iv : Int32) (qs : Int32) : xM l yX5_milesWalked wsX5_milesWalked ⟨1, 0, 0, 21⟩ G [.ref aR] [xO aR 5 [.int th, .int pl, .ref rEx, .ref rRd, .ref rTo, .int rs, .ref rMi, .ref rCl, .ref rSh, .ref rFa, .ref aS, .ref aH], xO aS 4 [.int po, .int co, .int go, .ref sTr, .ref sAk, .ref sWy, .int ln, .ref sXe, .ref sSg, .int wk, .int db, .int dn, .int iv, .int qs]] sz (xQi G [xO aR 5 [.int th, .int pl, .ref rEx, .ref rRd, .ref rTo, .int rs, .ref rMi, .ref rCl, .ref rSh, .ref rFa, .ref aS, .ref aH], xO aS 4 [.int po, .int co, .int go, .ref sTr, .ref sAk, .ref sWy, .int ln, .ref sXe, .ref sSg, .int wk, .int db, .int dn, .int iv, .int qs]] sz (fun (r : Int32) (u : (Int32)) => r = (FX5_milesWalked wk).1 ∧ u = (FX5_milesWalked wk).2) (fun u : (Int32) => [xO aR 5 [.int u, .int pl, .ref rEx, .ref rRd, .ref rTo, .int rs, .ref rMi, .ref rCl, .ref rSh, .ref rFa, .ref aS, .ref aH], xO aS 4 [.int po, .int co, .int go, .ref sTr, .ref sAk, .ref sWy, .int ln, .ref sXe, .ref sSg, .int wk, .int db, .int dn, .int iv, .int qs]])) := by
  refine xof (own := RX5) (cc := cX5_milesWalked) (maxL := 1) (ret := (some .int)) rfl (by decide) rfl (Nat.le_of_ble_eq_true rfl) ?_
  intro pg en s mi below meth cd hc hnm hw ls hl
  obtain ⟨hx, hb, -, hown, hts, -⟩ := id hc
  have hl : lv_has ls 1 [(0, .ref aR)] := hl
  refine lv_aload_n hx hb dX5_milesWalked_0 rfl (lv_at hl 0 rfl) ?_
  refine lv_aload_n hx hb dX5_milesWalked_1 rfl (lv_at hl 0 rfl) ?_
  refine xget (C := RX5) (T := TX5) (N := 12) hc hw inX5_milesWalked_X5 0 rfl rfl 10 (by decide) lkX5_milesWalked_f35 rfl rfl dX5_milesWalked_2 ?_
  refine xgetN (C := RX4) (T := TX4) (N := 14) hc hw inX5_milesWalked_X4 1 rfl rfl 9 (by decide) nkX5_87 rfl rfl dX5_milesWalked_5 ?_
  refine xcall_i (isC := [0]) hc hw (xrunV (n := 1) (As := [.int wk]) (rest := []) hc hw [0] (metX5_ok l G _ aR rEx rRd rTo rMi rCl rSh rFa aS aH th pl rs wk) gX5_milesWalked_X5_ok rfl (by decide +kernel) ⟨Nat.le_of_ble_eq_true rfl, Nat.le_of_ble_eq_true rfl⟩ 0 rfl rfl rfl rfl rfl rfl hl.1 (Nat.le_of_ble_eq_true rfl) dX5_milesWalked_8 ⟨Nat.le_of_ble_eq_true rfl, Nat.le_of_ble_eq_true rfl⟩) rfl [1] [1, 0] (fun u1 => [xO aR 5 [.int u1, .int pl, .ref rEx, .ref rRd, .ref rTo, .int rs, .ref rMi, .ref rCl, .ref rSh, .ref rFa, .ref aS, .ref aH], xO aS 4 [.int po, .int co, .int go, .ref sTr, .ref sAk, .ref sWy, .int ln, .ref sXe, .ref sSg, .int wk, .int db, .int dn, .int iv, .int qs]]) (fun _ => rfl) rfl rfl rfl rfl (fun r2 u1 H locs hp3 hw => ?_)
  exact xret_i u1 hc hw (xe2 (xb2 hp3 rfl)) ⟨Nat.le_of_ble_eq_true rfl, Nat.le_of_ble_eq_true rfl⟩ dX5_milesWalked_11
def FX5_milesDoubled (db : Int32) : Int32 × (Int32) :=
  xbind2 (FX5_ok db) (fun r2 u1 => (r2, u1))
set_option maxHeartbeats 40000000 in
set_option maxRecDepth 100000 in
theorem metX5_milesDoubled (l : Launch) (G : xG) (sz : Nat) (aR : Nat) (rEx : Nat) (rRd : Nat) (rTo : Nat) (rMi : Nat) (rCl : Nat) (rSh : Nat) (rFa : Nat) (aS : Nat) (aH : Nat) (sTr : Nat) (sAk : Nat) (sWy : Nat) (sXe : Nat) (sSg : Nat) (th : Int32) (pl : Int32) (rs : Int32) (po : Int32) (co : Int32) (go : Int32) (ln : Int32) (wk : Int32) (db : Int32) (dn : Int32) (iv : Int32) (qs : Int32) : xM l yX5_milesDoubled wsX5_milesDoubled ⟨1, 0, 0, 21⟩ G [.ref aR] [xO aR 5 [.int th, .int pl, .ref rEx, .ref rRd, .ref rTo, .int rs, .ref rMi, .ref rCl, .ref rSh, .ref rFa, .ref aS, .ref aH], xO aS 4 [.int po, .int co, .int go, .ref sTr, .ref sAk, .ref sWy, .int ln, .ref sXe, .ref sSg, .int wk, .int db, .int dn, .int iv, .int qs]] sz (xQi G [xO aR 5 [.int th, .int pl, .ref rEx, .ref rRd, .ref rTo, .int rs, .ref rMi, .ref rCl, .ref rSh, .ref rFa, .ref aS, .ref aH], xO aS 4 [.int po, .int co, .int go, .ref sTr, .ref sAk, .ref sWy, .int ln, .ref sXe, .ref sSg, .int wk, .int db, .int dn, .int iv, .int qs]] sz (fun (r : Int32) (u : (Int32)) => r = (FX5_milesDoubled db).1 ∧ u = (FX5_milesDoubled db).2) (fun u : (Int32) => [xO aR 5 [.int u, .int pl, .ref rEx, .ref rRd, .ref rTo, .int rs, .ref rMi, .ref rCl, .ref rSh, .ref rFa, .ref aS, .ref aH], xO aS 4 [.int po, .int co, .int go, .ref sTr, .ref sAk, .ref sWy, .int ln, .ref sXe, .ref sSg, .int wk, .int db, .int dn, .int iv, .int qs]])) := by
  refine xof (own := RX5) (cc := cX5_milesDoubled) (maxL := 1) (ret := (some .int)) rfl (by decide) rfl (Nat.le_of_ble_eq_true rfl) ?_
  intro pg en s mi below meth cd hc hnm hw ls hl
  obtain ⟨hx, hb, -, hown, hts, -⟩ := id hc
  have hl : lv_has ls 1 [(0, .ref aR)] := hl
  refine lv_aload_n hx hb dX5_milesDoubled_0 rfl (lv_at hl 0 rfl) ?_
  refine lv_aload_n hx hb dX5_milesDoubled_1 rfl (lv_at hl 0 rfl) ?_
  refine xget (C := RX5) (T := TX5) (N := 12) hc hw inX5_milesDoubled_X5 0 rfl rfl 10 (by decide) lkX5_milesDoubled_f35 rfl rfl dX5_milesDoubled_2 ?_
  refine xgetN (C := RX4) (T := TX4) (N := 14) hc hw inX5_milesDoubled_X4 1 rfl rfl 10 (by decide) nkX5_122 rfl rfl dX5_milesDoubled_5 ?_
  refine xcall_i (isC := [0]) hc hw (xrunV (n := 1) (As := [.int db]) (rest := []) hc hw [0] (metX5_ok l G _ aR rEx rRd rTo rMi rCl rSh rFa aS aH th pl rs db) gX5_milesDoubled_X5_ok rfl (by decide +kernel) ⟨Nat.le_of_ble_eq_true rfl, Nat.le_of_ble_eq_true rfl⟩ 0 rfl rfl rfl rfl rfl rfl hl.1 (Nat.le_of_ble_eq_true rfl) dX5_milesDoubled_8 ⟨Nat.le_of_ble_eq_true rfl, Nat.le_of_ble_eq_true rfl⟩) rfl [1] [1, 0] (fun u1 => [xO aR 5 [.int u1, .int pl, .ref rEx, .ref rRd, .ref rTo, .int rs, .ref rMi, .ref rCl, .ref rSh, .ref rFa, .ref aS, .ref aH], xO aS 4 [.int po, .int co, .int go, .ref sTr, .ref sAk, .ref sWy, .int ln, .ref sXe, .ref sSg, .int wk, .int db, .int dn, .int iv, .int qs]]) (fun _ => rfl) rfl rfl rfl rfl (fun r2 u1 H locs hp3 hw => ?_)
  exact xret_i u1 hc hw (xe2 (xb2 hp3 rfl)) ⟨Nat.le_of_ble_eq_true rfl, Nat.le_of_ble_eq_true rfl⟩ dX5_milesDoubled_11
def FX5_errandsDone (dn : Int32) : Int32 × (Int32) :=
  xbind2 (FX5_ok dn) (fun r2 u1 => (r2, u1))
set_option maxHeartbeats 40000000 in
set_option maxRecDepth 100000 in
theorem metX5_errandsDone (l : Launch) (G : xG) (sz : Nat) (aR : Nat) (rEx : Nat) (rRd : Nat) (rTo : Nat) (rMi : Nat) (rCl : Nat) (rSh : Nat) (rFa : Nat) (aS : Nat) (aH : Nat) (sTr : Nat) (sAk : Nat) (sWy : Nat) (sXe : Nat) (sSg : Nat) (th : Int32) (pl : Int32) (rs : Int32) (po : Int32) (co : Int32) (go : Int32) (ln : Int32) (wk : Int32) (db : Int32) (dn : Int32) (iv : Int32) (qs : Int32) : xM l yX5_errandsDone wsX5_errandsDone ⟨1, 0, 0, 21⟩ G [.ref aR] [xO aR 5 [.int th, .int pl, .ref rEx, .ref rRd, .ref rTo, .int rs, .ref rMi, .ref rCl, .ref rSh, .ref rFa, .ref aS, .ref aH], xO aS 4 [.int po, .int co, .int go, .ref sTr, .ref sAk, .ref sWy, .int ln, .ref sXe, .ref sSg, .int wk, .int db, .int dn, .int iv, .int qs]] sz (xQi G [xO aR 5 [.int th, .int pl, .ref rEx, .ref rRd, .ref rTo, .int rs, .ref rMi, .ref rCl, .ref rSh, .ref rFa, .ref aS, .ref aH], xO aS 4 [.int po, .int co, .int go, .ref sTr, .ref sAk, .ref sWy, .int ln, .ref sXe, .ref sSg, .int wk, .int db, .int dn, .int iv, .int qs]] sz (fun (r : Int32) (u : (Int32)) => r = (FX5_errandsDone dn).1 ∧ u = (FX5_errandsDone dn).2) (fun u : (Int32) => [xO aR 5 [.int u, .int pl, .ref rEx, .ref rRd, .ref rTo, .int rs, .ref rMi, .ref rCl, .ref rSh, .ref rFa, .ref aS, .ref aH], xO aS 4 [.int po, .int co, .int go, .ref sTr, .ref sAk, .ref sWy, .int ln, .ref sXe, .ref sSg, .int wk, .int db, .int dn, .int iv, .int qs]])) := by
  refine xof (own := RX5) (cc := cX5_errandsDone) (maxL := 1) (ret := (some .int)) rfl (by decide) rfl (Nat.le_of_ble_eq_true rfl) ?_
  intro pg en s mi below meth cd hc hnm hw ls hl
  obtain ⟨hx, hb, -, hown, hts, -⟩ := id hc
  have hl : lv_has ls 1 [(0, .ref aR)] := hl
  refine lv_aload_n hx hb dX5_errandsDone_0 rfl (lv_at hl 0 rfl) ?_
  refine lv_aload_n hx hb dX5_errandsDone_1 rfl (lv_at hl 0 rfl) ?_
  refine xget (C := RX5) (T := TX5) (N := 12) hc hw inX5_errandsDone_X5 0 rfl rfl 10 (by decide) lkX5_errandsDone_f35 rfl rfl dX5_errandsDone_2 ?_
  refine xgetN (C := RX4) (T := TX4) (N := 14) hc hw inX5_errandsDone_X4 1 rfl rfl 11 (by decide) nkX5_156 rfl rfl dX5_errandsDone_5 ?_
  refine xcall_i (isC := [0]) hc hw (xrunV (n := 1) (As := [.int dn]) (rest := []) hc hw [0] (metX5_ok l G _ aR rEx rRd rTo rMi rCl rSh rFa aS aH th pl rs dn) gX5_errandsDone_X5_ok rfl (by decide +kernel) ⟨Nat.le_of_ble_eq_true rfl, Nat.le_of_ble_eq_true rfl⟩ 0 rfl rfl rfl rfl rfl rfl hl.1 (Nat.le_of_ble_eq_true rfl) dX5_errandsDone_8 ⟨Nat.le_of_ble_eq_true rfl, Nat.le_of_ble_eq_true rfl⟩) rfl [1] [1, 0] (fun u1 => [xO aR 5 [.int u1, .int pl, .ref rEx, .ref rRd, .ref rTo, .int rs, .ref rMi, .ref rCl, .ref rSh, .ref rFa, .ref aS, .ref aH], xO aS 4 [.int po, .int co, .int go, .ref sTr, .ref sAk, .ref sWy, .int ln, .ref sXe, .ref sSg, .int wk, .int db, .int dn, .int iv, .int qs]]) (fun _ => rfl) rfl rfl rfl rfl (fun r2 u1 H locs hp3 hw => ?_)
  exact xret_i u1 hc hw (xe2 (xb2 hp3 rfl)) ⟨Nat.le_of_ble_eq_true rfl, Nat.le_of_ble_eq_true rfl⟩ dX5_errandsDone_11
def FX5_errandsInVain (iv : Int32) : Int32 × (Int32) :=
  xbind2 (FX5_ok iv) (fun r2 u1 => (r2, u1))
set_option maxHeartbeats 40000000 in
set_option maxRecDepth 100000 in
theorem metX5_errandsInVain (l : Launch) (G : xG) (sz : Nat) (aR : Nat) (rEx : Nat) (rRd : Nat) (rTo : Nat) (rMi : Nat) (rCl : Nat) (rSh : Nat) (rFa : Nat) (aS : Nat) (aH : Nat) (sTr : Nat) (sAk : Nat) (sWy : Nat) (sXe : Nat) (sSg : Nat) (th : Int32) (pl : Int32) (rs : Int32) (po : Int32) (co : Int32) (go : Int32) (ln : Int32) (wk : Int32) (db : Int32) (dn : Int32) (iv : Int32) (qs : Int32) : xM l yX5_errandsInVain wsX5_errandsInVain ⟨1, 0, 0, 21⟩ G [.ref aR] [xO aR 5 [.int th, .int pl, .ref rEx, .ref rRd, .ref rTo, .int rs, .ref rMi, .ref rCl, .ref rSh, .ref rFa, .ref aS, .ref aH], xO aS 4 [.int po, .int co, .int go, .ref sTr, .ref sAk, .ref sWy, .int ln, .ref sXe, .ref sSg, .int wk, .int db, .int dn, .int iv, .int qs]] sz (xQi G [xO aR 5 [.int th, .int pl, .ref rEx, .ref rRd, .ref rTo, .int rs, .ref rMi, .ref rCl, .ref rSh, .ref rFa, .ref aS, .ref aH], xO aS 4 [.int po, .int co, .int go, .ref sTr, .ref sAk, .ref sWy, .int ln, .ref sXe, .ref sSg, .int wk, .int db, .int dn, .int iv, .int qs]] sz (fun (r : Int32) (u : (Int32)) => r = (FX5_errandsInVain iv).1 ∧ u = (FX5_errandsInVain iv).2) (fun u : (Int32) => [xO aR 5 [.int u, .int pl, .ref rEx, .ref rRd, .ref rTo, .int rs, .ref rMi, .ref rCl, .ref rSh, .ref rFa, .ref aS, .ref aH], xO aS 4 [.int po, .int co, .int go, .ref sTr, .ref sAk, .ref sWy, .int ln, .ref sXe, .ref sSg, .int wk, .int db, .int dn, .int iv, .int qs]])) := by
  refine xof (own := RX5) (cc := cX5_errandsInVain) (maxL := 1) (ret := (some .int)) rfl (by decide) rfl (Nat.le_of_ble_eq_true rfl) ?_
  intro pg en s mi below meth cd hc hnm hw ls hl
  obtain ⟨hx, hb, -, hown, hts, -⟩ := id hc
  have hl : lv_has ls 1 [(0, .ref aR)] := hl
  refine lv_aload_n hx hb dX5_errandsInVain_0 rfl (lv_at hl 0 rfl) ?_
  refine lv_aload_n hx hb dX5_errandsInVain_1 rfl (lv_at hl 0 rfl) ?_
  refine xget (C := RX5) (T := TX5) (N := 12) hc hw inX5_errandsInVain_X5 0 rfl rfl 10 (by decide) lkX5_errandsInVain_f35 rfl rfl dX5_errandsInVain_2 ?_
  refine xgetN (C := RX4) (T := TX4) (N := 14) hc hw inX5_errandsInVain_X4 1 rfl rfl 12 (by decide) nkX5_146 rfl rfl dX5_errandsInVain_5 ?_
  refine xcall_i (isC := [0]) hc hw (xrunV (n := 1) (As := [.int iv]) (rest := []) hc hw [0] (metX5_ok l G _ aR rEx rRd rTo rMi rCl rSh rFa aS aH th pl rs iv) gX5_errandsInVain_X5_ok rfl (by decide +kernel) ⟨Nat.le_of_ble_eq_true rfl, Nat.le_of_ble_eq_true rfl⟩ 0 rfl rfl rfl rfl rfl rfl hl.1 (Nat.le_of_ble_eq_true rfl) dX5_errandsInVain_8 ⟨Nat.le_of_ble_eq_true rfl, Nat.le_of_ble_eq_true rfl⟩) rfl [1] [1, 0] (fun u1 => [xO aR 5 [.int u1, .int pl, .ref rEx, .ref rRd, .ref rTo, .int rs, .ref rMi, .ref rCl, .ref rSh, .ref rFa, .ref aS, .ref aH], xO aS 4 [.int po, .int co, .int go, .ref sTr, .ref sAk, .ref sWy, .int ln, .ref sXe, .ref sSg, .int wk, .int db, .int dn, .int iv, .int qs]]) (fun _ => rfl) rfl rfl rfl rfl (fun r2 u1 H locs hp3 hw => ?_)
  exact xret_i u1 hc hw (xe2 (xb2 hp3 rfl)) ⟨Nat.le_of_ble_eq_true rfl, Nat.le_of_ble_eq_true rfl⟩ dX5_errandsInVain_11
def FX5_asked (qs : Int32) : Int32 × (Int32) :=
  xbind2 (FX5_ok qs) (fun r2 u1 => (r2, u1))
set_option maxHeartbeats 40000000 in
set_option maxRecDepth 100000 in
theorem metX5_asked (l : Launch) (G : xG) (sz : Nat) (aR : Nat) (rEx : Nat) (rRd : Nat) (rTo : Nat) (rMi : Nat) (rCl : Nat) (rSh : Nat) (rFa : Nat) (aS : Nat) (aH : Nat) (sTr : Nat) (sAk : Nat) (sWy : Nat) (sXe : Nat) (sSg : Nat) (th : Int32) (pl : Int32) (rs : Int32) (po : Int32) (co : Int32) (go : Int32) (ln : Int32) (wk : Int32) (db : Int32) (dn : Int32) (iv : Int32) (qs : Int32) : xM l yX5_asked wsX5_asked ⟨1, 0, 0, 21⟩ G [.ref aR] [xO aR 5 [.int th, .int pl, .ref rEx, .ref rRd, .ref rTo, .int rs, .ref rMi, .ref rCl, .ref rSh, .ref rFa, .ref aS, .ref aH], xO aS 4 [.int po, .int co, .int go, .ref sTr, .ref sAk, .ref sWy, .int ln, .ref sXe, .ref sSg, .int wk, .int db, .int dn, .int iv, .int qs]] sz (xQi G [xO aR 5 [.int th, .int pl, .ref rEx, .ref rRd, .ref rTo, .int rs, .ref rMi, .ref rCl, .ref rSh, .ref rFa, .ref aS, .ref aH], xO aS 4 [.int po, .int co, .int go, .ref sTr, .ref sAk, .ref sWy, .int ln, .ref sXe, .ref sSg, .int wk, .int db, .int dn, .int iv, .int qs]] sz (fun (r : Int32) (u : (Int32)) => r = (FX5_asked qs).1 ∧ u = (FX5_asked qs).2) (fun u : (Int32) => [xO aR 5 [.int u, .int pl, .ref rEx, .ref rRd, .ref rTo, .int rs, .ref rMi, .ref rCl, .ref rSh, .ref rFa, .ref aS, .ref aH], xO aS 4 [.int po, .int co, .int go, .ref sTr, .ref sAk, .ref sWy, .int ln, .ref sXe, .ref sSg, .int wk, .int db, .int dn, .int iv, .int qs]])) := by
  refine xof (own := RX5) (cc := cX5_asked) (maxL := 1) (ret := (some .int)) rfl (by decide) rfl (Nat.le_of_ble_eq_true rfl) ?_
  intro pg en s mi below meth cd hc hnm hw ls hl
  obtain ⟨hx, hb, -, hown, hts, -⟩ := id hc
  have hl : lv_has ls 1 [(0, .ref aR)] := hl
  refine lv_aload_n hx hb dX5_asked_0 rfl (lv_at hl 0 rfl) ?_
  refine lv_aload_n hx hb dX5_asked_1 rfl (lv_at hl 0 rfl) ?_
  refine xget (C := RX5) (T := TX5) (N := 12) hc hw inX5_asked_X5 0 rfl rfl 10 (by decide) lkX5_asked_f35 rfl rfl dX5_asked_2 ?_
  refine xgetN (C := RX4) (T := TX4) (N := 14) hc hw inX5_asked_X4 1 rfl rfl 13 (by decide) nkX5_100 rfl rfl dX5_asked_5 ?_
  refine xcall_i (isC := [0]) hc hw (xrunV (n := 1) (As := [.int qs]) (rest := []) hc hw [0] (metX5_ok l G _ aR rEx rRd rTo rMi rCl rSh rFa aS aH th pl rs qs) gX5_asked_X5_ok rfl (by decide +kernel) ⟨Nat.le_of_ble_eq_true rfl, Nat.le_of_ble_eq_true rfl⟩ 0 rfl rfl rfl rfl rfl rfl hl.1 (Nat.le_of_ble_eq_true rfl) dX5_asked_8 ⟨Nat.le_of_ble_eq_true rfl, Nat.le_of_ble_eq_true rfl⟩) rfl [1] [1, 0] (fun u1 => [xO aR 5 [.int u1, .int pl, .ref rEx, .ref rRd, .ref rTo, .int rs, .ref rMi, .ref rCl, .ref rSh, .ref rFa, .ref aS, .ref aH], xO aS 4 [.int po, .int co, .int go, .ref sTr, .ref sAk, .ref sWy, .int ln, .ref sXe, .ref sSg, .int wk, .int db, .int dn, .int iv, .int qs]]) (fun _ => rfl) rfl rfl rfl rfl (fun r2 u1 H locs hp3 hw => ?_)
  exact xret_i u1 hc hw (xe2 (xb2 hp3 rfl)) ⟨Nat.le_of_ble_eq_true rfl, Nat.le_of_ble_eq_true rfl⟩ dX5_asked_11
def FX5_exitsOf (pl : Int32) (ex : Nat → Int32) (q : Int32) : Int32 × (Int32) :=
  xbind (FX5_isPlace pl q) (fun r2 => if r2 = 0 then (xbind2 (FX5_no 1) (fun r7 u6 => (r7, u6))) else ((ex q.toNatClampNeg, 0)))
set_option maxHeartbeats 40000000 in
set_option maxRecDepth 100000 in
theorem metX5_exitsOf (l : Launch) (G : xG) (sz : Nat) (aR : Nat) (rEx : Nat) (rRd : Nat) (rTo : Nat) (rMi : Nat) (rCl : Nat) (rSh : Nat) (rFa : Nat) (aS : Nat) (aH : Nat) (th : Int32) (pl : Int32) (rs : Int32) (ex : Nat → Int32) (q : Int32) (hpl : 0 ≤ pl.toInt ∧ pl.toInt ≤ 10) : xM l yX5_exitsOf wsX5_exitsOf ⟨2, 0, 0, 43⟩ G [.ref aR, .int q] [xO aR 5 [.int th, .int pl, .ref rEx, .ref rRd, .ref rTo, .int rs, .ref rMi, .ref rCl, .ref rSh, .ref rFa, .ref aS, .ref aH], xAI G rEx 10 ex] sz (xQi G [xO aR 5 [.int th, .int pl, .ref rEx, .ref rRd, .ref rTo, .int rs, .ref rMi, .ref rCl, .ref rSh, .ref rFa, .ref aS, .ref aH], xAI G rEx 10 ex] sz (fun (r : Int32) (u : (Int32)) => r = (FX5_exitsOf pl ex q).1 ∧ u = (FX5_exitsOf pl ex q).2) (fun u : (Int32) => [xO aR 5 [.int u, .int pl, .ref rEx, .ref rRd, .ref rTo, .int rs, .ref rMi, .ref rCl, .ref rSh, .ref rFa, .ref aS, .ref aH], xAI G rEx 10 ex])) := by
  refine xof (own := RX5) (cc := cX5_exitsOf) (maxL := 2) (ret := (some .int)) rfl (by decide) rfl (Nat.le_of_ble_eq_true rfl) ?_
  intro pg en s mi below meth cd hc hnm hw ls hl
  obtain ⟨hx, hb, -, hown, hts, -⟩ := id hc
  have hl : lv_has ls 2 [(0, .ref aR), (1, .int q)] := hl
  refine lv_aload_n hx hb dX5_exitsOf_0 rfl (lv_at hl 0 rfl) ?_
  refine lv_iconst (v := 0) hx hb dX5_exitsOf_1 (by decide) ?_
  refine xput (C := RX5) (T := TX5) (N := 12) (ty := .int) hc hw inX5_exitsOf_X5 tyX5 tyX5_ok nmX5 0 [xO aR 5 [.int 0, .int pl, .ref rEx, .ref rRd, .ref rTo, .int rs, .ref rMi, .ref rCl, .ref rSh, .ref rFa, .ref aS, .ref aH], xAI G rEx 10 ex] rfl rfl 0 (by decide) lkX5_exitsOf_f42 rfl rfl rfl rfl (Nat.le_of_ble_eq_true rfl) rfl dX5_exitsOf_2 (fun H locs hw => ?_)
  refine lv_aload_n hx hb dX5_exitsOf_5 rfl (lv_at hl 0 rfl) ?_
  refine lv_iload_n hx hb dX5_exitsOf_6 rfl (lv_at hl 1 rfl) ?_
  refine xcall_i (isC := [0]) hc hw (xrunV (n := 1) (As := [.int q]) (rest := []) hc hw [0] (metX5_isPlace l G _ aR rEx rRd rTo rMi rCl rSh rFa aS aH 0 pl rs q) gX5_exitsOf_X5_isPlace rfl (by decide +kernel) ⟨Nat.le_of_ble_eq_true rfl, Nat.le_of_ble_eq_true rfl⟩ 0 rfl rfl rfl rfl rfl rfl hl.1 (Nat.le_of_ble_eq_true rfl) dX5_exitsOf_7 ⟨Nat.le_of_ble_eq_true rfl, Nat.le_of_ble_eq_true rfl⟩) rfl [1] [1, 0] (fun u1 => [xO aR 5 [.int 0, .int pl, .ref rEx, .ref rRd, .ref rTo, .int rs, .ref rMi, .ref rCl, .ref rSh, .ref rFa, .ref aS, .ref aH], xAI G rEx 10 ex]) (fun _ => rfl) rfl rfl rfl rfl (fun r2 u1 H locs hp3 hw => ?_)
  refine lv_if_eq (tgt := 22) hx hb dX5_exitsOf_10 (by decide) (fun c_5 => ?_) (fun c_5 => ?_)
  · refine lv_aload_n hx hb dX5_exitsOf_22 rfl (lv_at hl 0 rfl) ?_
    refine lv_iconst (v := 1) hx hb dX5_exitsOf_23 (by decide) ?_
    refine xcall_i (isC := [0]) hc hw (xrunV (n := 1) (As := [.int 1]) (rest := []) hc hw [0] (metX5_no l G _ aR rEx rRd rTo rMi rCl rSh rFa aS aH 0 pl rs 1) gX5_exitsOf_X5_no rfl (by decide +kernel) ⟨Nat.le_of_ble_eq_true rfl, Nat.le_of_ble_eq_true rfl⟩ 0 rfl rfl rfl rfl rfl rfl hl.1 (Nat.le_of_ble_eq_true rfl) dX5_exitsOf_24 ⟨Nat.le_of_ble_eq_true rfl, Nat.le_of_ble_eq_true rfl⟩) rfl [1] [1, 0] (fun u6 => [xO aR 5 [.int u6, .int pl, .ref rEx, .ref rRd, .ref rTo, .int rs, .ref rMi, .ref rCl, .ref rSh, .ref rFa, .ref aS, .ref aH], xAI G rEx 10 ex]) (fun _ => rfl) rfl rfl rfl rfl (fun r7 u6 H locs hp8 hw => ?_)
    exact xret_i u6 hc hw (xe2 (xb hp3 (Eq.trans (if_pos c_5) (xb2 hp8 rfl)))) ⟨Nat.le_of_ble_eq_true rfl, Nat.le_of_ble_eq_true rfl⟩ dX5_exitsOf_27
  · refine lv_aload_n hx hb dX5_exitsOf_13 rfl (lv_at hl 0 rfl) ?_
    refine xget (C := RX5) (T := TX5) (N := 12) hc hw inX5_exitsOf_X5 0 rfl rfl 2 (by decide) lkX5_exitsOf_f9 rfl rfl dX5_exitsOf_14 ?_
    refine lv_iload_n hx hb dX5_exitsOf_17 rfl (lv_at hl 1 rfl) ?_
    refine xiald hc hw 1 rfl (xin (pX5_isPlace10 hpl hp3 c_5)) dX5_exitsOf_18 ?_
    refine lv_goto (tgt := 27) hx hb dX5_exitsOf_19 (by decide) ?_
    exact xret_i 0 hc hw (xe2 (xb hp3 (if_neg c_5))) ⟨Nat.le_of_ble_eq_true rfl, Nat.le_of_ble_eq_true rfl⟩ dX5_exitsOf_27
def FX5_leadsTo (pl : Int32) (ex : Nat → Int32) (tt : Nat → Int32) (q : Int32) (x : Int32) : Int32 × (Int32) :=
  xbind (FX5_isExit pl ex q x) (fun r2 => if r2 = 0 then (xbind2 (FX5_no 1) (fun r7 u6 => (r7, u6))) else ((tt ((4 * q) + x).toNatClampNeg, 0)))
set_option maxHeartbeats 40000000 in
set_option maxRecDepth 100000 in
theorem metX5_leadsTo (l : Launch) (G : xG) (sz : Nat) (aR : Nat) (rEx : Nat) (rRd : Nat) (rTo : Nat) (rMi : Nat) (rCl : Nat) (rSh : Nat) (rFa : Nat) (aS : Nat) (aH : Nat) (th : Int32) (pl : Int32) (rs : Int32) (ex : Nat → Int32) (tt : Nat → Int32) (q : Int32) (x : Int32) (hpl : 0 ≤ pl.toInt ∧ pl.toInt ≤ 10) (hex4 : ∀ k, k < 10 → 0 ≤ (ex k).toInt ∧ (ex k).toInt ≤ 4) : xM l yX5_leadsTo wsX5_leadsTo ⟨3, 0, 0, 65⟩ G [.ref aR, .int q, .int x] [xO aR 5 [.int th, .int pl, .ref rEx, .ref rRd, .ref rTo, .int rs, .ref rMi, .ref rCl, .ref rSh, .ref rFa, .ref aS, .ref aH], xAI G rEx 10 ex, xAI G rTo 40 tt] sz (xQi G [xO aR 5 [.int th, .int pl, .ref rEx, .ref rRd, .ref rTo, .int rs, .ref rMi, .ref rCl, .ref rSh, .ref rFa, .ref aS, .ref aH], xAI G rEx 10 ex, xAI G rTo 40 tt] sz (fun (r : Int32) (u : (Int32)) => r = (FX5_leadsTo pl ex tt q x).1 ∧ u = (FX5_leadsTo pl ex tt q x).2) (fun u : (Int32) => [xO aR 5 [.int u, .int pl, .ref rEx, .ref rRd, .ref rTo, .int rs, .ref rMi, .ref rCl, .ref rSh, .ref rFa, .ref aS, .ref aH], xAI G rEx 10 ex, xAI G rTo 40 tt])) := by
  refine xof (own := RX5) (cc := cX5_leadsTo) (maxL := 3) (ret := (some .int)) rfl (by decide) rfl (Nat.le_of_ble_eq_true rfl) ?_
  intro pg en s mi below meth cd hc hnm hw ls hl
  obtain ⟨hx, hb, -, hown, hts, -⟩ := id hc
  have hl : lv_has ls 3 [(0, .ref aR), (1, .int q), (2, .int x)] := hl
  refine lv_aload_n hx hb dX5_leadsTo_0 rfl (lv_at hl 0 rfl) ?_
  refine lv_iconst (v := 0) hx hb dX5_leadsTo_1 (by decide) ?_
  refine xput (C := RX5) (T := TX5) (N := 12) (ty := .int) hc hw inX5_leadsTo_X5 tyX5 tyX5_ok nmX5 0 [xO aR 5 [.int 0, .int pl, .ref rEx, .ref rRd, .ref rTo, .int rs, .ref rMi, .ref rCl, .ref rSh, .ref rFa, .ref aS, .ref aH], xAI G rEx 10 ex, xAI G rTo 40 tt] rfl rfl 0 (by decide) lkX5_leadsTo_f42 rfl rfl rfl rfl (Nat.le_of_ble_eq_true rfl) rfl dX5_leadsTo_2 (fun H locs hw => ?_)
  refine lv_aload_n hx hb dX5_leadsTo_5 rfl (lv_at hl 0 rfl) ?_
  refine lv_iload_n hx hb dX5_leadsTo_6 rfl (lv_at hl 1 rfl) ?_
  refine lv_iload_n hx hb dX5_leadsTo_7 rfl (lv_at hl 2 rfl) ?_
  refine xcall_i (isC := [0, 1]) hc hw (xrunV (n := 2) (As := [.int q, .int x]) (rest := []) hc hw [0, 1] (metX5_isExit l G _ aR rEx rRd rTo rMi rCl rSh rFa aS aH 0 pl rs ex q x hpl) gX5_leadsTo_X5_isExit rfl (by decide +kernel) ⟨Nat.le_of_ble_eq_true rfl, Nat.le_of_ble_eq_true rfl⟩ 0 rfl rfl rfl rfl rfl rfl hl.1 (Nat.le_of_ble_eq_true rfl) dX5_leadsTo_8 ⟨Nat.le_of_ble_eq_true rfl, Nat.le_of_ble_eq_true rfl⟩) rfl [2] [1, 2, 0] (fun u1 => [xO aR 5 [.int 0, .int pl, .ref rEx, .ref rRd, .ref rTo, .int rs, .ref rMi, .ref rCl, .ref rSh, .ref rFa, .ref aS, .ref aH], xAI G rEx 10 ex, xAI G rTo 40 tt]) (fun _ => rfl) rfl rfl rfl rfl (fun r2 u1 H locs hp3 hw => ?_)
  refine lv_if_eq (tgt := 27) hx hb dX5_leadsTo_11 (by decide) (fun c_5 => ?_) (fun c_5 => ?_)
  · refine lv_aload_n hx hb dX5_leadsTo_27 rfl (lv_at hl 0 rfl) ?_
    refine lv_iconst (v := 1) hx hb dX5_leadsTo_28 (by decide) ?_
    refine xcall_i (isC := [0]) hc hw (xrunV (n := 1) (As := [.int 1]) (rest := []) hc hw [0] (metX5_no l G _ aR rEx rRd rTo rMi rCl rSh rFa aS aH 0 pl rs 1) gX5_leadsTo_X5_no rfl (by decide +kernel) ⟨Nat.le_of_ble_eq_true rfl, Nat.le_of_ble_eq_true rfl⟩ 0 rfl rfl rfl rfl rfl rfl hl.1 (Nat.le_of_ble_eq_true rfl) dX5_leadsTo_29 ⟨Nat.le_of_ble_eq_true rfl, Nat.le_of_ble_eq_true rfl⟩) rfl [1, 2] [2, 0, 1] (fun u6 => [xO aR 5 [.int u6, .int pl, .ref rEx, .ref rRd, .ref rTo, .int rs, .ref rMi, .ref rCl, .ref rSh, .ref rFa, .ref aS, .ref aH], xAI G rEx 10 ex, xAI G rTo 40 tt]) (fun _ => rfl) rfl rfl rfl rfl (fun r7 u6 H locs hp8 hw => ?_)
    exact xret_i u6 hc hw (xe2 (xb hp3 (Eq.trans (if_pos c_5) (xb2 hp8 rfl)))) ⟨Nat.le_of_ble_eq_true rfl, Nat.le_of_ble_eq_true rfl⟩ dX5_leadsTo_32
  · refine lv_aload_n hx hb dX5_leadsTo_14 rfl (lv_at hl 0 rfl) ?_
    refine xget (C := RX5) (T := TX5) (N := 12) hc hw inX5_leadsTo_X5 0 rfl rfl 4 (by decide) lkX5_leadsTo_f16 rfl rfl dX5_leadsTo_15 ?_
    refine lv_iconst (v := 4) hx hb dX5_leadsTo_18 (by decide) ?_
    refine lv_iload_n hx hb dX5_leadsTo_19 rfl (lv_at hl 1 rfl) ?_
    refine lv_imul hx hb dX5_leadsTo_20 ?_
    refine lv_iload_n hx hb dX5_leadsTo_21 rfl (lv_at hl 2 rfl) ?_
    refine lv_iadd hx hb dX5_leadsTo_22 ?_
    refine xiald hc hw 2 rfl (xin (yq4in (pX5_isExit hpl hex4 hp3 c_5).1 ⟨(pX5_isExit hpl hex4 hp3 c_5).2.1, (pX5_isExit hpl hex4 hp3 c_5).2.2.1⟩)) dX5_leadsTo_23 ?_
    refine lv_goto (tgt := 32) hx hb dX5_leadsTo_24 (by decide) ?_
    exact xret_i 0 hc hw (xe2 (xb hp3 (if_neg c_5))) ⟨Nat.le_of_ble_eq_true rfl, Nat.le_of_ble_eq_true rfl⟩ dX5_leadsTo_32
def FX5_milesOf (pl : Int32) (ex : Nat → Int32) (rd : Nat → Int32) (ml : Nat → Int32) (q : Int32) (x : Int32) : Int32 × (Int32) :=
  xbind (FX5_isExit pl ex q x) (fun r2 => if r2 = 0 then (xbind2 (FX5_no 1) (fun r7 u6 => (r7, u6))) else ((ml (rd ((4 * q) + x).toNatClampNeg).toNatClampNeg, 0)))
set_option maxHeartbeats 40000000 in
set_option maxRecDepth 100000 in
theorem metX5_milesOf (l : Launch) (G : xG) (sz : Nat) (aR : Nat) (rEx : Nat) (rRd : Nat) (rTo : Nat) (rMi : Nat) (rCl : Nat) (rSh : Nat) (rFa : Nat) (aS : Nat) (aH : Nat) (th : Int32) (pl : Int32) (rs : Int32) (ex : Nat → Int32) (rd : Nat → Int32) (ml : Nat → Int32) (q : Int32) (x : Int32) (hpl : 0 ≤ pl.toInt ∧ pl.toInt ≤ 10) (hex4 : ∀ k, k < 10 → 0 ≤ (ex k).toInt ∧ (ex k).toInt ≤ 4) (hrd : ∀ k, k < 40 → 0 ≤ (rd k).toInt ∧ (rd k).toInt < 20) : xM l yX5_milesOf wsX5_milesOf ⟨3, 0, 0, 65⟩ G [.ref aR, .int q, .int x] [xO aR 5 [.int th, .int pl, .ref rEx, .ref rRd, .ref rTo, .int rs, .ref rMi, .ref rCl, .ref rSh, .ref rFa, .ref aS, .ref aH], xAI G rEx 10 ex, xAI G rRd 40 rd, xAI G rMi 20 ml] sz (xQi G [xO aR 5 [.int th, .int pl, .ref rEx, .ref rRd, .ref rTo, .int rs, .ref rMi, .ref rCl, .ref rSh, .ref rFa, .ref aS, .ref aH], xAI G rEx 10 ex, xAI G rRd 40 rd, xAI G rMi 20 ml] sz (fun (r : Int32) (u : (Int32)) => r = (FX5_milesOf pl ex rd ml q x).1 ∧ u = (FX5_milesOf pl ex rd ml q x).2) (fun u : (Int32) => [xO aR 5 [.int u, .int pl, .ref rEx, .ref rRd, .ref rTo, .int rs, .ref rMi, .ref rCl, .ref rSh, .ref rFa, .ref aS, .ref aH], xAI G rEx 10 ex, xAI G rRd 40 rd, xAI G rMi 20 ml])) := by
  refine xof (own := RX5) (cc := cX5_milesOf) (maxL := 3) (ret := (some .int)) rfl (by decide) rfl (Nat.le_of_ble_eq_true rfl) ?_
  intro pg en s mi below meth cd hc hnm hw ls hl
  obtain ⟨hx, hb, -, hown, hts, -⟩ := id hc
  have hl : lv_has ls 3 [(0, .ref aR), (1, .int q), (2, .int x)] := hl
  refine lv_aload_n hx hb dX5_milesOf_0 rfl (lv_at hl 0 rfl) ?_
  refine lv_iconst (v := 0) hx hb dX5_milesOf_1 (by decide) ?_
  refine xput (C := RX5) (T := TX5) (N := 12) (ty := .int) hc hw inX5_milesOf_X5 tyX5 tyX5_ok nmX5 0 [xO aR 5 [.int 0, .int pl, .ref rEx, .ref rRd, .ref rTo, .int rs, .ref rMi, .ref rCl, .ref rSh, .ref rFa, .ref aS, .ref aH], xAI G rEx 10 ex, xAI G rRd 40 rd, xAI G rMi 20 ml] rfl rfl 0 (by decide) lkX5_milesOf_f42 rfl rfl rfl rfl (Nat.le_of_ble_eq_true rfl) rfl dX5_milesOf_2 (fun H locs hw => ?_)
  refine lv_aload_n hx hb dX5_milesOf_5 rfl (lv_at hl 0 rfl) ?_
  refine lv_iload_n hx hb dX5_milesOf_6 rfl (lv_at hl 1 rfl) ?_
  refine lv_iload_n hx hb dX5_milesOf_7 rfl (lv_at hl 2 rfl) ?_
  refine xcall_i (isC := [0, 1]) hc hw (xrunV (n := 2) (As := [.int q, .int x]) (rest := []) hc hw [0, 1] (metX5_isExit l G _ aR rEx rRd rTo rMi rCl rSh rFa aS aH 0 pl rs ex q x hpl) gX5_milesOf_X5_isExit rfl (by decide +kernel) ⟨Nat.le_of_ble_eq_true rfl, Nat.le_of_ble_eq_true rfl⟩ 0 rfl rfl rfl rfl rfl rfl hl.1 (Nat.le_of_ble_eq_true rfl) dX5_milesOf_8 ⟨Nat.le_of_ble_eq_true rfl, Nat.le_of_ble_eq_true rfl⟩) rfl [2, 3] [2, 3, 0, 1] (fun u1 => [xO aR 5 [.int 0, .int pl, .ref rEx, .ref rRd, .ref rTo, .int rs, .ref rMi, .ref rCl, .ref rSh, .ref rFa, .ref aS, .ref aH], xAI G rEx 10 ex, xAI G rRd 40 rd, xAI G rMi 20 ml]) (fun _ => rfl) rfl rfl rfl rfl (fun r2 u1 H locs hp3 hw => ?_)
  refine lv_if_eq (tgt := 32) hx hb dX5_milesOf_11 (by decide) (fun c_5 => ?_) (fun c_5 => ?_)
  · refine lv_aload_n hx hb dX5_milesOf_32 rfl (lv_at hl 0 rfl) ?_
    refine lv_iconst (v := 1) hx hb dX5_milesOf_33 (by decide) ?_
    refine xcall_i (isC := [0]) hc hw (xrunV (n := 1) (As := [.int 1]) (rest := []) hc hw [0] (metX5_no l G _ aR rEx rRd rTo rMi rCl rSh rFa aS aH 0 pl rs 1) gX5_milesOf_X5_no rfl (by decide +kernel) ⟨Nat.le_of_ble_eq_true rfl, Nat.le_of_ble_eq_true rfl⟩ 0 rfl rfl rfl rfl rfl rfl hl.1 (Nat.le_of_ble_eq_true rfl) dX5_milesOf_34 ⟨Nat.le_of_ble_eq_true rfl, Nat.le_of_ble_eq_true rfl⟩) rfl [1, 2, 3] [3, 0, 1, 2] (fun u6 => [xO aR 5 [.int u6, .int pl, .ref rEx, .ref rRd, .ref rTo, .int rs, .ref rMi, .ref rCl, .ref rSh, .ref rFa, .ref aS, .ref aH], xAI G rEx 10 ex, xAI G rRd 40 rd, xAI G rMi 20 ml]) (fun _ => rfl) rfl rfl rfl rfl (fun r7 u6 H locs hp8 hw => ?_)
    exact xret_i u6 hc hw (xe2 (xb hp3 (Eq.trans (if_pos c_5) (xb2 hp8 rfl)))) ⟨Nat.le_of_ble_eq_true rfl, Nat.le_of_ble_eq_true rfl⟩ dX5_milesOf_37
  · refine lv_aload_n hx hb dX5_milesOf_14 rfl (lv_at hl 0 rfl) ?_
    refine xget (C := RX5) (T := TX5) (N := 12) hc hw inX5_milesOf_X5 0 rfl rfl 6 (by decide) lkX5_milesOf_f19 rfl rfl dX5_milesOf_15 ?_
    refine lv_aload_n hx hb dX5_milesOf_18 rfl (lv_at hl 0 rfl) ?_
    refine xget (C := RX5) (T := TX5) (N := 12) hc hw inX5_milesOf_X5 0 rfl rfl 3 (by decide) lkX5_milesOf_f13 rfl rfl dX5_milesOf_19 ?_
    refine lv_iconst (v := 4) hx hb dX5_milesOf_22 (by decide) ?_
    refine lv_iload_n hx hb dX5_milesOf_23 rfl (lv_at hl 1 rfl) ?_
    refine lv_imul hx hb dX5_milesOf_24 ?_
    refine lv_iload_n hx hb dX5_milesOf_25 rfl (lv_at hl 2 rfl) ?_
    refine lv_iadd hx hb dX5_milesOf_26 ?_
    refine xiald hc hw 2 rfl (xin (yq4in (pX5_isExit hpl hex4 hp3 c_5).1 ⟨(pX5_isExit hpl hex4 hp3 c_5).2.1, (pX5_isExit hpl hex4 hp3 c_5).2.2.1⟩)) dX5_milesOf_27 ?_
    refine xiald hc hw 3 rfl (xin (hrd _ (xcl (yq4in (pX5_isExit hpl hex4 hp3 c_5).1 ⟨(pX5_isExit hpl hex4 hp3 c_5).2.1, (pX5_isExit hpl hex4 hp3 c_5).2.2.1⟩)))) dX5_milesOf_28 ?_
    refine lv_goto (tgt := 37) hx hb dX5_milesOf_29 (by decide) ?_
    exact xret_i 0 hc hw (xe2 (xb hp3 (if_neg c_5))) ⟨Nat.le_of_ble_eq_true rfl, Nat.le_of_ble_eq_true rfl⟩ dX5_milesOf_37
def FX5_isOpen (pl : Int32) (ex : Nat → Int32) (rd : Nat → Int32) (cz : Nat → Int32) (q : Int32) (x : Int32) : Int32 × (Int32) :=
  xbind (FX5_isExit pl ex q x) (fun r2 => if r2 = 0 then (xbind2 (FX5_isNot 1) (fun r7 u6 => (r7, u6))) else (if (cz (rd ((4 * q) + x).toNatClampNeg).toNatClampNeg) = 0 then ((1, 0)) else ((0, 0))))
set_option maxHeartbeats 40000000 in
set_option maxRecDepth 100000 in
theorem metX5_isOpen (l : Launch) (G : xG) (sz : Nat) (aR : Nat) (rEx : Nat) (rRd : Nat) (rTo : Nat) (rMi : Nat) (rCl : Nat) (rSh : Nat) (rFa : Nat) (aS : Nat) (aH : Nat) (th : Int32) (pl : Int32) (rs : Int32) (ex : Nat → Int32) (rd : Nat → Int32) (cz : Nat → Int32) (q : Int32) (x : Int32) (hpl : 0 ≤ pl.toInt ∧ pl.toInt ≤ 10) (hex4 : ∀ k, k < 10 → 0 ≤ (ex k).toInt ∧ (ex k).toInt ≤ 4) (hrd : ∀ k, k < 40 → 0 ≤ (rd k).toInt ∧ (rd k).toInt < 20) : xM l yX5_isOpen wsX5_isOpen ⟨3, 0, 0, 65⟩ G [.ref aR, .int q, .int x] [xO aR 5 [.int th, .int pl, .ref rEx, .ref rRd, .ref rTo, .int rs, .ref rMi, .ref rCl, .ref rSh, .ref rFa, .ref aS, .ref aH], xAI G rEx 10 ex, xAI G rRd 40 rd, xAZ G rCl 20 cz] sz (xQi G [xO aR 5 [.int th, .int pl, .ref rEx, .ref rRd, .ref rTo, .int rs, .ref rMi, .ref rCl, .ref rSh, .ref rFa, .ref aS, .ref aH], xAI G rEx 10 ex, xAI G rRd 40 rd, xAZ G rCl 20 cz] sz (fun (r : Int32) (u : (Int32)) => r = (FX5_isOpen pl ex rd cz q x).1 ∧ u = (FX5_isOpen pl ex rd cz q x).2) (fun u : (Int32) => [xO aR 5 [.int u, .int pl, .ref rEx, .ref rRd, .ref rTo, .int rs, .ref rMi, .ref rCl, .ref rSh, .ref rFa, .ref aS, .ref aH], xAI G rEx 10 ex, xAI G rRd 40 rd, xAZ G rCl 20 cz])) := by
  refine xof (own := RX5) (cc := cX5_isOpen) (maxL := 3) (ret := (some .boolean)) rfl (by decide) rfl (Nat.le_of_ble_eq_true rfl) ?_
  intro pg en s mi below meth cd hc hnm hw ls hl
  obtain ⟨hx, hb, -, hown, hts, -⟩ := id hc
  have hl : lv_has ls 3 [(0, .ref aR), (1, .int q), (2, .int x)] := hl
  refine lv_aload_n hx hb dX5_isOpen_0 rfl (lv_at hl 0 rfl) ?_
  refine lv_iconst (v := 0) hx hb dX5_isOpen_1 (by decide) ?_
  refine xput (C := RX5) (T := TX5) (N := 12) (ty := .int) hc hw inX5_isOpen_X5 tyX5 tyX5_ok nmX5 0 [xO aR 5 [.int 0, .int pl, .ref rEx, .ref rRd, .ref rTo, .int rs, .ref rMi, .ref rCl, .ref rSh, .ref rFa, .ref aS, .ref aH], xAI G rEx 10 ex, xAI G rRd 40 rd, xAZ G rCl 20 cz] rfl rfl 0 (by decide) lkX5_isOpen_f42 rfl rfl rfl rfl (Nat.le_of_ble_eq_true rfl) rfl dX5_isOpen_2 (fun H locs hw => ?_)
  refine lv_aload_n hx hb dX5_isOpen_5 rfl (lv_at hl 0 rfl) ?_
  refine lv_iload_n hx hb dX5_isOpen_6 rfl (lv_at hl 1 rfl) ?_
  refine lv_iload_n hx hb dX5_isOpen_7 rfl (lv_at hl 2 rfl) ?_
  refine xcall_i (isC := [0, 1]) hc hw (xrunV (n := 2) (As := [.int q, .int x]) (rest := []) hc hw [0, 1] (metX5_isExit l G _ aR rEx rRd rTo rMi rCl rSh rFa aS aH 0 pl rs ex q x hpl) gX5_isOpen_X5_isExit rfl (by decide +kernel) ⟨Nat.le_of_ble_eq_true rfl, Nat.le_of_ble_eq_true rfl⟩ 0 rfl rfl rfl rfl rfl rfl hl.1 (Nat.le_of_ble_eq_true rfl) dX5_isOpen_8 ⟨Nat.le_of_ble_eq_true rfl, Nat.le_of_ble_eq_true rfl⟩) rfl [2, 3] [2, 3, 0, 1] (fun u1 => [xO aR 5 [.int 0, .int pl, .ref rEx, .ref rRd, .ref rTo, .int rs, .ref rMi, .ref rCl, .ref rSh, .ref rFa, .ref aS, .ref aH], xAI G rEx 10 ex, xAI G rRd 40 rd, xAZ G rCl 20 cz]) (fun _ => rfl) rfl rfl rfl rfl (fun r2 u1 H locs hp3 hw => ?_)
  refine lv_if_eq (tgt := 40) hx hb dX5_isOpen_11 (by decide) (fun c_5 => ?_) (fun c_5 => ?_)
  · refine lv_aload_n hx hb dX5_isOpen_40 rfl (lv_at hl 0 rfl) ?_
    refine lv_iconst (v := 1) hx hb dX5_isOpen_41 (by decide) ?_
    refine xcall_i (isC := [0]) hc hw (xrunV (n := 1) (As := [.int 1]) (rest := []) hc hw [0] (metX5_isNot l G _ aR rEx rRd rTo rMi rCl rSh rFa aS aH 0 pl rs 1) gX5_isOpen_X5_isNot rfl (by decide +kernel) ⟨Nat.le_of_ble_eq_true rfl, Nat.le_of_ble_eq_true rfl⟩ 0 rfl rfl rfl rfl rfl rfl hl.1 (Nat.le_of_ble_eq_true rfl) dX5_isOpen_42 ⟨Nat.le_of_ble_eq_true rfl, Nat.le_of_ble_eq_true rfl⟩) rfl [1, 2, 3] [3, 0, 1, 2] (fun u6 => [xO aR 5 [.int u6, .int pl, .ref rEx, .ref rRd, .ref rTo, .int rs, .ref rMi, .ref rCl, .ref rSh, .ref rFa, .ref aS, .ref aH], xAI G rEx 10 ex, xAI G rRd 40 rd, xAZ G rCl 20 cz]) (fun _ => rfl) rfl rfl rfl rfl (fun r7 u6 H locs hp8 hw => ?_)
    exact xret_z u6 hc hw (by exact ynot hp8.1) (xe2 (xb hp3 (Eq.trans (if_pos c_5) (xb2 hp8 rfl)))) ⟨Nat.le_of_ble_eq_true rfl, Nat.le_of_ble_eq_true rfl⟩ dX5_isOpen_45
  · refine lv_aload_n hx hb dX5_isOpen_14 rfl (lv_at hl 0 rfl) ?_
    refine xget (C := RX5) (T := TX5) (N := 12) hc hw inX5_isOpen_X5 0 rfl rfl 7 (by decide) lkX5_isOpen_f22 rfl rfl dX5_isOpen_15 ?_
    refine lv_aload_n hx hb dX5_isOpen_18 rfl (lv_at hl 0 rfl) ?_
    refine xget (C := RX5) (T := TX5) (N := 12) hc hw inX5_isOpen_X5 0 rfl rfl 3 (by decide) lkX5_isOpen_f13 rfl rfl dX5_isOpen_19 ?_
    refine lv_iconst (v := 4) hx hb dX5_isOpen_22 (by decide) ?_
    refine lv_iload_n hx hb dX5_isOpen_23 rfl (lv_at hl 1 rfl) ?_
    refine lv_imul hx hb dX5_isOpen_24 ?_
    refine lv_iload_n hx hb dX5_isOpen_25 rfl (lv_at hl 2 rfl) ?_
    refine lv_iadd hx hb dX5_isOpen_26 ?_
    refine xiald hc hw 2 rfl (xin (yq4in (pX5_isExit hpl hex4 hp3 c_5).1 ⟨(pX5_isExit hpl hex4 hp3 c_5).2.1, (pX5_isExit hpl hex4 hp3 c_5).2.2.1⟩)) dX5_isOpen_27 ?_
    refine xzald hc hw 3 rfl (xin (hrd _ (xcl (yq4in (pX5_isExit hpl hex4 hp3 c_5).1 ⟨(pX5_isExit hpl hex4 hp3 c_5).2.1, (pX5_isExit hpl hex4 hp3 c_5).2.2.1⟩)))) dX5_isOpen_28 ?_
    refine lv_if_ne (tgt := 36) hx hb dX5_isOpen_29 (by decide) (fun c_10 => ?_) (fun c_10 => ?_)
    · refine lv_iconst (v := 0) hx hb dX5_isOpen_36 (by decide) ?_
      refine lv_goto (tgt := 45) hx hb dX5_isOpen_37 (by decide) ?_
      exact xret_z 0 hc hw rfl (xe2 (xb hp3 (Eq.trans (if_neg c_5) (if_neg c_10)))) ⟨Nat.le_of_ble_eq_true rfl, Nat.le_of_ble_eq_true rfl⟩ dX5_isOpen_45
    · refine lv_iconst (v := 1) hx hb dX5_isOpen_32 (by decide) ?_
      refine lv_goto (tgt := 45) hx hb dX5_isOpen_33 (by decide) ?_
      exact xret_z 0 hc hw rfl (xe2 (xb hp3 (Eq.trans (if_neg c_5) (if_pos c_10)))) ⟨Nat.le_of_ble_eq_true rfl, Nat.le_of_ble_eq_true rfl⟩ dX5_isOpen_45
def FX5_hasShepherd (pl : Int32) (sh : Nat → Int32) (q : Int32) : Int32 × (Int32) :=
  xbind (FX5_isPlace pl q) (fun r2 => if r2 = 0 then (xbind2 (FX5_isNot 1) (fun r7 u6 => (r7, u6))) else ((sh q.toNatClampNeg, 0)))
set_option maxHeartbeats 40000000 in
set_option maxRecDepth 100000 in
theorem metX5_hasShepherd (l : Launch) (G : xG) (sz : Nat) (aR : Nat) (rEx : Nat) (rRd : Nat) (rTo : Nat) (rMi : Nat) (rCl : Nat) (rSh : Nat) (rFa : Nat) (aS : Nat) (aH : Nat) (th : Int32) (pl : Int32) (rs : Int32) (sh : Nat → Int32) (q : Int32) (hpl : 0 ≤ pl.toInt ∧ pl.toInt ≤ 10) (hsh : ∀ k, k < 10 → sh k = 0 ∨ sh k = 1) : xM l yX5_hasShepherd wsX5_hasShepherd ⟨2, 0, 0, 43⟩ G [.ref aR, .int q] [xO aR 5 [.int th, .int pl, .ref rEx, .ref rRd, .ref rTo, .int rs, .ref rMi, .ref rCl, .ref rSh, .ref rFa, .ref aS, .ref aH], xAZ G rSh 10 sh] sz (xQi G [xO aR 5 [.int th, .int pl, .ref rEx, .ref rRd, .ref rTo, .int rs, .ref rMi, .ref rCl, .ref rSh, .ref rFa, .ref aS, .ref aH], xAZ G rSh 10 sh] sz (fun (r : Int32) (u : (Int32)) => r = (FX5_hasShepherd pl sh q).1 ∧ u = (FX5_hasShepherd pl sh q).2) (fun u : (Int32) => [xO aR 5 [.int u, .int pl, .ref rEx, .ref rRd, .ref rTo, .int rs, .ref rMi, .ref rCl, .ref rSh, .ref rFa, .ref aS, .ref aH], xAZ G rSh 10 sh])) := by
  refine xof (own := RX5) (cc := cX5_hasShepherd) (maxL := 2) (ret := (some .boolean)) rfl (by decide) rfl (Nat.le_of_ble_eq_true rfl) ?_
  intro pg en s mi below meth cd hc hnm hw ls hl
  obtain ⟨hx, hb, -, hown, hts, -⟩ := id hc
  have hl : lv_has ls 2 [(0, .ref aR), (1, .int q)] := hl
  refine lv_aload_n hx hb dX5_hasShepherd_0 rfl (lv_at hl 0 rfl) ?_
  refine lv_iconst (v := 0) hx hb dX5_hasShepherd_1 (by decide) ?_
  refine xput (C := RX5) (T := TX5) (N := 12) (ty := .int) hc hw inX5_hasShepherd_X5 tyX5 tyX5_ok nmX5 0 [xO aR 5 [.int 0, .int pl, .ref rEx, .ref rRd, .ref rTo, .int rs, .ref rMi, .ref rCl, .ref rSh, .ref rFa, .ref aS, .ref aH], xAZ G rSh 10 sh] rfl rfl 0 (by decide) lkX5_hasShepherd_f42 rfl rfl rfl rfl (Nat.le_of_ble_eq_true rfl) rfl dX5_hasShepherd_2 (fun H locs hw => ?_)
  refine lv_aload_n hx hb dX5_hasShepherd_5 rfl (lv_at hl 0 rfl) ?_
  refine lv_iload_n hx hb dX5_hasShepherd_6 rfl (lv_at hl 1 rfl) ?_
  refine xcall_i (isC := [0]) hc hw (xrunV (n := 1) (As := [.int q]) (rest := []) hc hw [0] (metX5_isPlace l G _ aR rEx rRd rTo rMi rCl rSh rFa aS aH 0 pl rs q) gX5_hasShepherd_X5_isPlace rfl (by decide +kernel) ⟨Nat.le_of_ble_eq_true rfl, Nat.le_of_ble_eq_true rfl⟩ 0 rfl rfl rfl rfl rfl rfl hl.1 (Nat.le_of_ble_eq_true rfl) dX5_hasShepherd_7 ⟨Nat.le_of_ble_eq_true rfl, Nat.le_of_ble_eq_true rfl⟩) rfl [1] [1, 0] (fun u1 => [xO aR 5 [.int 0, .int pl, .ref rEx, .ref rRd, .ref rTo, .int rs, .ref rMi, .ref rCl, .ref rSh, .ref rFa, .ref aS, .ref aH], xAZ G rSh 10 sh]) (fun _ => rfl) rfl rfl rfl rfl (fun r2 u1 H locs hp3 hw => ?_)
  refine lv_if_eq (tgt := 22) hx hb dX5_hasShepherd_10 (by decide) (fun c_5 => ?_) (fun c_5 => ?_)
  · refine lv_aload_n hx hb dX5_hasShepherd_22 rfl (lv_at hl 0 rfl) ?_
    refine lv_iconst (v := 1) hx hb dX5_hasShepherd_23 (by decide) ?_
    refine xcall_i (isC := [0]) hc hw (xrunV (n := 1) (As := [.int 1]) (rest := []) hc hw [0] (metX5_isNot l G _ aR rEx rRd rTo rMi rCl rSh rFa aS aH 0 pl rs 1) gX5_hasShepherd_X5_isNot rfl (by decide +kernel) ⟨Nat.le_of_ble_eq_true rfl, Nat.le_of_ble_eq_true rfl⟩ 0 rfl rfl rfl rfl rfl rfl hl.1 (Nat.le_of_ble_eq_true rfl) dX5_hasShepherd_24 ⟨Nat.le_of_ble_eq_true rfl, Nat.le_of_ble_eq_true rfl⟩) rfl [1] [1, 0] (fun u6 => [xO aR 5 [.int u6, .int pl, .ref rEx, .ref rRd, .ref rTo, .int rs, .ref rMi, .ref rCl, .ref rSh, .ref rFa, .ref aS, .ref aH], xAZ G rSh 10 sh]) (fun _ => rfl) rfl rfl rfl rfl (fun r7 u6 H locs hp8 hw => ?_)
    exact xret_z u6 hc hw (by exact ynot hp8.1) (xe2 (xb hp3 (Eq.trans (if_pos c_5) (xb2 hp8 rfl)))) ⟨Nat.le_of_ble_eq_true rfl, Nat.le_of_ble_eq_true rfl⟩ dX5_hasShepherd_27
  · refine lv_aload_n hx hb dX5_hasShepherd_13 rfl (lv_at hl 0 rfl) ?_
    refine xget (C := RX5) (T := TX5) (N := 12) hc hw inX5_hasShepherd_X5 0 rfl rfl 8 (by decide) lkX5_hasShepherd_f26 rfl rfl dX5_hasShepherd_14 ?_
    refine lv_iload_n hx hb dX5_hasShepherd_17 rfl (lv_at hl 1 rfl) ?_
    refine xzald hc hw 1 rfl (xin (pX5_isPlace10 hpl hp3 c_5)) dX5_hasShepherd_18 ?_
    refine lv_goto (tgt := 27) hx hb dX5_hasShepherd_19 (by decide) ?_
    exact xret_z 0 hc hw (by exact xz01 (hsh _ (xcl (pX5_isPlace10 hpl hp3 c_5)))) (xe2 (xb hp3 (if_neg c_5))) ⟨Nat.le_of_ble_eq_true rfl, Nat.le_of_ble_eq_true rfl⟩ dX5_hasShepherd_27
def FX5_distance (pl : Int32) (ex : Nat → Int32) (rd : Nat → Int32) (tt : Nat → Int32) (ml : Nat → Int32) (cz : Nat → Int32) (fa : Nat → Int32) (q : Int32) (g : Int32) : Int32 × (Int32) × (Nat → Int32) :=
  xbind (FX5_isPlace pl q) (fun r2 => if r2 = 0 then (xbind2 (FX5_no 1) (fun r7 u6 => (r7, u6, fa))) else (xbind (FX5_isPlace pl g) (fun r11 => if r11 = 0 then (xbind2 (FX5_no 1) (fun r16 u15 => (r16, u15, fa))) else (xbind2 (FX5_milesBetween pl ex rd tt ml cz fa q g) (fun r20 u19 => (r20, 0, u19))))))
set_option maxHeartbeats 40000000 in
set_option maxRecDepth 100000 in
theorem metX5_distance (l : Launch) (G : xG) (sz : Nat) (aR : Nat) (rEx : Nat) (rRd : Nat) (rTo : Nat) (rMi : Nat) (rCl : Nat) (rSh : Nat) (rFa : Nat) (aS : Nat) (aH : Nat) (th : Int32) (pl : Int32) (rs : Int32) (ex : Nat → Int32) (rd : Nat → Int32) (tt : Nat → Int32) (ml : Nat → Int32) (cz : Nat → Int32) (fa : Nat → Int32) (q : Int32) (g : Int32) (hpl : 0 ≤ pl.toInt ∧ pl.toInt ≤ 10) (hrd : ∀ k, k < 40 → 0 ≤ (rd k).toInt ∧ (rd k).toInt < 20) (htt : ∀ k, k < 40 → 0 ≤ (tt k).toInt ∧ (tt k).toInt < 10) : xM l yX5_distance wsX5_distance ⟨2, 0, 0, 46⟩ G [.ref aR, .int q, .int g] [xO aR 5 [.int th, .int pl, .ref rEx, .ref rRd, .ref rTo, .int rs, .ref rMi, .ref rCl, .ref rSh, .ref rFa, .ref aS, .ref aH], xAI G rEx 10 ex, xAI G rRd 40 rd, xAI G rTo 40 tt, xAI G rMi 20 ml, xAZ G rCl 20 cz, xAI G rFa 10 fa] sz (xQi G [xO aR 5 [.int th, .int pl, .ref rEx, .ref rRd, .ref rTo, .int rs, .ref rMi, .ref rCl, .ref rSh, .ref rFa, .ref aS, .ref aH], xAI G rEx 10 ex, xAI G rRd 40 rd, xAI G rTo 40 tt, xAI G rMi 20 ml, xAZ G rCl 20 cz, xAI G rFa 10 fa] sz (fun (r : Int32) (u : (Int32) × (Nat → Int32)) => r = (FX5_distance pl ex rd tt ml cz fa q g).1 ∧ u = (FX5_distance pl ex rd tt ml cz fa q g).2) (fun u : (Int32) × (Nat → Int32) => [xO aR 5 [.int u.1, .int pl, .ref rEx, .ref rRd, .ref rTo, .int rs, .ref rMi, .ref rCl, .ref rSh, .ref rFa, .ref aS, .ref aH], xAI G rEx 10 ex, xAI G rRd 40 rd, xAI G rTo 40 tt, xAI G rMi 20 ml, xAZ G rCl 20 cz, xAI G rFa 10 u.2])) := by
  refine xof (own := RX5) (cc := cX5_distance) (maxL := 3) (ret := (some .int)) rfl (by decide) rfl (Nat.le_of_ble_eq_true rfl) ?_
  intro pg en s mi below meth cd hc hnm hw ls hl
  obtain ⟨hx, hb, -, hown, hts, -⟩ := id hc
  have hl : lv_has ls 3 [(0, .ref aR), (1, .int q), (2, .int g)] := hl
  refine lv_aload_n hx hb dX5_distance_0 rfl (lv_at hl 0 rfl) ?_
  refine lv_iconst (v := 0) hx hb dX5_distance_1 (by decide) ?_
  refine xput (C := RX5) (T := TX5) (N := 12) (ty := .int) hc hw inX5_distance_X5 tyX5 tyX5_ok nmX5 0 [xO aR 5 [.int 0, .int pl, .ref rEx, .ref rRd, .ref rTo, .int rs, .ref rMi, .ref rCl, .ref rSh, .ref rFa, .ref aS, .ref aH], xAI G rEx 10 ex, xAI G rRd 40 rd, xAI G rTo 40 tt, xAI G rMi 20 ml, xAZ G rCl 20 cz, xAI G rFa 10 fa] rfl rfl 0 (by decide) lkX5_distance_f42 rfl rfl rfl rfl (Nat.le_of_ble_eq_true rfl) rfl dX5_distance_2 (fun H locs hw => ?_)
  refine lv_aload_n hx hb dX5_distance_5 rfl (lv_at hl 0 rfl) ?_
  refine lv_iload_n hx hb dX5_distance_6 rfl (lv_at hl 1 rfl) ?_
  refine xcall_i (isC := [0]) hc hw (xrunV (n := 1) (As := [.int q]) (rest := []) hc hw [0] (metX5_isPlace l G _ aR rEx rRd rTo rMi rCl rSh rFa aS aH 0 pl rs q) gX5_distance_X5_isPlace rfl (by decide +kernel) ⟨Nat.le_of_ble_eq_true rfl, Nat.le_of_ble_eq_true rfl⟩ 0 rfl rfl rfl rfl rfl rfl hl.1 (Nat.le_of_ble_eq_true rfl) dX5_distance_7 ⟨Nat.le_of_ble_eq_true rfl, Nat.le_of_ble_eq_true rfl⟩) rfl [1, 2, 3, 4, 5, 6] [6, 0, 1, 2, 3, 4, 5] (fun u1 => [xO aR 5 [.int 0, .int pl, .ref rEx, .ref rRd, .ref rTo, .int rs, .ref rMi, .ref rCl, .ref rSh, .ref rFa, .ref aS, .ref aH], xAI G rEx 10 ex, xAI G rRd 40 rd, xAI G rTo 40 tt, xAI G rMi 20 ml, xAZ G rCl 20 cz, xAI G rFa 10 fa]) (fun _ => rfl) rfl rfl rfl rfl (fun r2 u1 H locs hp3 hw => ?_)
  refine lv_if_eq (tgt := 30) hx hb dX5_distance_10 (by decide) (fun c_5 => ?_) (fun c_5 => ?_)
  · refine lv_aload_n hx hb dX5_distance_30 rfl (lv_at hl 0 rfl) ?_
    refine lv_iconst (v := 1) hx hb dX5_distance_31 (by decide) ?_
    refine xcall_i (isC := [0]) hc hw (xrunV (n := 1) (As := [.int 1]) (rest := []) hc hw [0] (metX5_no l G _ aR rEx rRd rTo rMi rCl rSh rFa aS aH 0 pl rs 1) gX5_distance_X5_no rfl (by decide +kernel) ⟨Nat.le_of_ble_eq_true rfl, Nat.le_of_ble_eq_true rfl⟩ 0 rfl rfl rfl rfl rfl rfl hl.1 (Nat.le_of_ble_eq_true rfl) dX5_distance_32 ⟨Nat.le_of_ble_eq_true rfl, Nat.le_of_ble_eq_true rfl⟩) rfl [1, 2, 3, 4, 5, 6] [6, 0, 1, 2, 3, 4, 5] (fun u6 => [xO aR 5 [.int u6, .int pl, .ref rEx, .ref rRd, .ref rTo, .int rs, .ref rMi, .ref rCl, .ref rSh, .ref rFa, .ref aS, .ref aH], xAI G rEx 10 ex, xAI G rRd 40 rd, xAI G rTo 40 tt, xAI G rMi 20 ml, xAZ G rCl 20 cz, xAI G rFa 10 fa]) (fun _ => rfl) rfl rfl rfl rfl (fun r7 u6 H locs hp8 hw => ?_)
    obtain ⟨u0, hu0⟩ : ∃ z : (Int32) × (Nat → Int32), z = (u6, fa) := ⟨_, rfl⟩
    refine xret_i u0 hc ?_ ?_ ⟨Nat.le_of_ble_eq_true rfl, Nat.le_of_ble_eq_true rfl⟩ dX5_distance_35
    · subst hu0; dsimp only; exact hw
    · subst hu0; exact xe2 (xb hp3 (Eq.trans (if_pos c_5) (xb2 hp8 rfl)))
  · refine lv_aload_n hx hb dX5_distance_13 rfl (lv_at hl 0 rfl) ?_
    refine lv_iload_n hx hb dX5_distance_14 rfl (lv_at hl 2 rfl) ?_
    refine xcall_i (isC := [0]) hc hw (xrunV (n := 1) (As := [.int g]) (rest := []) hc hw [0] (metX5_isPlace l G _ aR rEx rRd rTo rMi rCl rSh rFa aS aH 0 pl rs g) gX5_distance_X5_isPlace rfl (by decide +kernel) ⟨Nat.le_of_ble_eq_true rfl, Nat.le_of_ble_eq_true rfl⟩ 0 rfl rfl rfl rfl rfl rfl hl.1 (Nat.le_of_ble_eq_true rfl) dX5_distance_15 ⟨Nat.le_of_ble_eq_true rfl, Nat.le_of_ble_eq_true rfl⟩) rfl [1, 2, 3, 4, 5, 6] [6, 0, 1, 2, 3, 4, 5] (fun u10 => [xO aR 5 [.int 0, .int pl, .ref rEx, .ref rRd, .ref rTo, .int rs, .ref rMi, .ref rCl, .ref rSh, .ref rFa, .ref aS, .ref aH], xAI G rEx 10 ex, xAI G rRd 40 rd, xAI G rTo 40 tt, xAI G rMi 20 ml, xAZ G rCl 20 cz, xAI G rFa 10 fa]) (fun _ => rfl) rfl rfl rfl rfl (fun r11 u10 H locs hp12 hw => ?_)
    refine lv_if_eq (tgt := 30) hx hb dX5_distance_18 (by decide) (fun c_14 => ?_) (fun c_14 => ?_)
    · refine lv_aload_n hx hb dX5_distance_30 rfl (lv_at hl 0 rfl) ?_
      refine lv_iconst (v := 1) hx hb dX5_distance_31 (by decide) ?_
      refine xcall_i (isC := [0]) hc hw (xrunV (n := 1) (As := [.int 1]) (rest := []) hc hw [0] (metX5_no l G _ aR rEx rRd rTo rMi rCl rSh rFa aS aH 0 pl rs 1) gX5_distance_X5_no rfl (by decide +kernel) ⟨Nat.le_of_ble_eq_true rfl, Nat.le_of_ble_eq_true rfl⟩ 0 rfl rfl rfl rfl rfl rfl hl.1 (Nat.le_of_ble_eq_true rfl) dX5_distance_32 ⟨Nat.le_of_ble_eq_true rfl, Nat.le_of_ble_eq_true rfl⟩) rfl [1, 2, 3, 4, 5, 6] [6, 0, 1, 2, 3, 4, 5] (fun u15 => [xO aR 5 [.int u15, .int pl, .ref rEx, .ref rRd, .ref rTo, .int rs, .ref rMi, .ref rCl, .ref rSh, .ref rFa, .ref aS, .ref aH], xAI G rEx 10 ex, xAI G rRd 40 rd, xAI G rTo 40 tt, xAI G rMi 20 ml, xAZ G rCl 20 cz, xAI G rFa 10 fa]) (fun _ => rfl) rfl rfl rfl rfl (fun r16 u15 H locs hp17 hw => ?_)
      obtain ⟨u0, hu0⟩ : ∃ z : (Int32) × (Nat → Int32), z = (u15, fa) := ⟨_, rfl⟩
      refine xret_i u0 hc ?_ ?_ ⟨Nat.le_of_ble_eq_true rfl, Nat.le_of_ble_eq_true rfl⟩ dX5_distance_35
      · subst hu0; dsimp only; exact hw
      · subst hu0; exact xe2 (xb hp3 (Eq.trans (if_neg c_5) (xb hp12 (Eq.trans (if_pos c_14) (xb2 hp17 rfl)))))
    · refine lv_aload_n hx hb dX5_distance_21 rfl (lv_at hl 0 rfl) ?_
      refine lv_iload_n hx hb dX5_distance_22 rfl (lv_at hl 1 rfl) ?_
      refine lv_iload_n hx hb dX5_distance_23 rfl (lv_at hl 2 rfl) ?_
      refine xcall_i (isC := [0, 1, 2, 3, 4, 5, 6]) hc hw (xrunV (n := 2) (As := [.int q, .int g]) (rest := []) hc hw [0, 1, 2, 3, 4, 5, 6] (metX5_milesBetween l G _ aR rEx rRd rTo rMi rCl rSh rFa aS aH 0 pl rs ex rd tt ml cz fa q g hpl hrd htt (pX5_isPlace10 hpl hp3 c_5)) gX5_distance_X5_milesBetween rfl (by decide +kernel) ⟨Nat.le_of_ble_eq_true rfl, Nat.le_of_ble_eq_true rfl⟩ 0 rfl rfl rfl rfl rfl rfl hl.1 (Nat.le_of_ble_eq_true rfl) dX5_distance_24 ⟨Nat.le_of_ble_eq_true rfl, Nat.le_of_ble_eq_true rfl⟩) rfl [] [0, 1, 2, 3, 4, 5, 6] (fun u19 => [xO aR 5 [.int 0, .int pl, .ref rEx, .ref rRd, .ref rTo, .int rs, .ref rMi, .ref rCl, .ref rSh, .ref rFa, .ref aS, .ref aH], xAI G rEx 10 ex, xAI G rRd 40 rd, xAI G rTo 40 tt, xAI G rMi 20 ml, xAZ G rCl 20 cz, xAI G rFa 10 u19]) (fun _ => rfl) rfl rfl rfl rfl (fun r20 u19 H locs hp21 hw => ?_)
      refine lv_goto (tgt := 35) hx hb dX5_distance_27 (by decide) ?_
      obtain ⟨u0, hu0⟩ : ∃ z : (Int32) × (Nat → Int32), z = (0, u19) := ⟨_, rfl⟩
      refine xret_i u0 hc ?_ ?_ ⟨Nat.le_of_ble_eq_true rfl, Nat.le_of_ble_eq_true rfl⟩ dX5_distance_35
      · subst hu0; dsimp only; exact hw
      · subst hu0; exact xe2 (xb hp3 (Eq.trans (if_neg c_5) (xb hp12 (Eq.trans (if_neg c_14) (xb2 hp21 rfl)))))
def FX5_isTried (pl : Int32) (ex : Nat → Int32) (rd : Nat → Int32) (tr : Nat → Int32) (q : Int32) (x : Int32) : Int32 × (Int32) :=
  xbind (FX5_isExit pl ex q x) (fun r2 => if r2 = 0 then (xbind2 (FX5_isNot 1) (fun r7 u6 => (r7, u6))) else ((tr (rd ((4 * q) + x).toNatClampNeg).toNatClampNeg, 0)))
set_option maxHeartbeats 40000000 in
set_option maxRecDepth 100000 in
theorem metX5_isTried (l : Launch) (G : xG) (sz : Nat) (aR : Nat) (rEx : Nat) (rRd : Nat) (rTo : Nat) (rMi : Nat) (rCl : Nat) (rSh : Nat) (rFa : Nat) (aS : Nat) (aH : Nat) (sTr : Nat) (sAk : Nat) (sWy : Nat) (sXe : Nat) (sSg : Nat) (th : Int32) (pl : Int32) (rs : Int32) (ex : Nat → Int32) (rd : Nat → Int32) (po : Int32) (co : Int32) (go : Int32) (ln : Int32) (wk : Int32) (db : Int32) (dn : Int32) (iv : Int32) (qs : Int32) (tr : Nat → Int32) (q : Int32) (x : Int32) (hpl : 0 ≤ pl.toInt ∧ pl.toInt ≤ 10) (hex4 : ∀ k, k < 10 → 0 ≤ (ex k).toInt ∧ (ex k).toInt ≤ 4) (hrd : ∀ k, k < 40 → 0 ≤ (rd k).toInt ∧ (rd k).toInt < 20) (htr : ∀ k, k < 20 → tr k = 0 ∨ tr k = 1) : xM l yX5_isTried wsX5_isTried ⟨3, 0, 0, 65⟩ G [.ref aR, .int q, .int x] [xO aR 5 [.int th, .int pl, .ref rEx, .ref rRd, .ref rTo, .int rs, .ref rMi, .ref rCl, .ref rSh, .ref rFa, .ref aS, .ref aH], xAI G rEx 10 ex, xAI G rRd 40 rd, xO aS 4 [.int po, .int co, .int go, .ref sTr, .ref sAk, .ref sWy, .int ln, .ref sXe, .ref sSg, .int wk, .int db, .int dn, .int iv, .int qs], xAZ G sTr 20 tr] sz (xQi G [xO aR 5 [.int th, .int pl, .ref rEx, .ref rRd, .ref rTo, .int rs, .ref rMi, .ref rCl, .ref rSh, .ref rFa, .ref aS, .ref aH], xAI G rEx 10 ex, xAI G rRd 40 rd, xO aS 4 [.int po, .int co, .int go, .ref sTr, .ref sAk, .ref sWy, .int ln, .ref sXe, .ref sSg, .int wk, .int db, .int dn, .int iv, .int qs], xAZ G sTr 20 tr] sz (fun (r : Int32) (u : (Int32)) => r = (FX5_isTried pl ex rd tr q x).1 ∧ u = (FX5_isTried pl ex rd tr q x).2) (fun u : (Int32) => [xO aR 5 [.int u, .int pl, .ref rEx, .ref rRd, .ref rTo, .int rs, .ref rMi, .ref rCl, .ref rSh, .ref rFa, .ref aS, .ref aH], xAI G rEx 10 ex, xAI G rRd 40 rd, xO aS 4 [.int po, .int co, .int go, .ref sTr, .ref sAk, .ref sWy, .int ln, .ref sXe, .ref sSg, .int wk, .int db, .int dn, .int iv, .int qs], xAZ G sTr 20 tr])) := by
  refine xof (own := RX5) (cc := cX5_isTried) (maxL := 3) (ret := (some .boolean)) rfl (by decide) rfl (Nat.le_of_ble_eq_true rfl) ?_
  intro pg en s mi below meth cd hc hnm hw ls hl
  obtain ⟨hx, hb, -, hown, hts, -⟩ := id hc
  have hl : lv_has ls 3 [(0, .ref aR), (1, .int q), (2, .int x)] := hl
  refine lv_aload_n hx hb dX5_isTried_0 rfl (lv_at hl 0 rfl) ?_
  refine lv_iconst (v := 0) hx hb dX5_isTried_1 (by decide) ?_
  refine xput (C := RX5) (T := TX5) (N := 12) (ty := .int) hc hw inX5_isTried_X5 tyX5 tyX5_ok nmX5 0 [xO aR 5 [.int 0, .int pl, .ref rEx, .ref rRd, .ref rTo, .int rs, .ref rMi, .ref rCl, .ref rSh, .ref rFa, .ref aS, .ref aH], xAI G rEx 10 ex, xAI G rRd 40 rd, xO aS 4 [.int po, .int co, .int go, .ref sTr, .ref sAk, .ref sWy, .int ln, .ref sXe, .ref sSg, .int wk, .int db, .int dn, .int iv, .int qs], xAZ G sTr 20 tr] rfl rfl 0 (by decide) lkX5_isTried_f42 rfl rfl rfl rfl (Nat.le_of_ble_eq_true rfl) rfl dX5_isTried_2 (fun H locs hw => ?_)
  refine lv_aload_n hx hb dX5_isTried_5 rfl (lv_at hl 0 rfl) ?_
  refine lv_iload_n hx hb dX5_isTried_6 rfl (lv_at hl 1 rfl) ?_
  refine lv_iload_n hx hb dX5_isTried_7 rfl (lv_at hl 2 rfl) ?_
  refine xcall_i (isC := [0, 1]) hc hw (xrunV (n := 2) (As := [.int q, .int x]) (rest := []) hc hw [0, 1] (metX5_isExit l G _ aR rEx rRd rTo rMi rCl rSh rFa aS aH 0 pl rs ex q x hpl) gX5_isTried_X5_isExit rfl (by decide +kernel) ⟨Nat.le_of_ble_eq_true rfl, Nat.le_of_ble_eq_true rfl⟩ 0 rfl rfl rfl rfl rfl rfl hl.1 (Nat.le_of_ble_eq_true rfl) dX5_isTried_8 ⟨Nat.le_of_ble_eq_true rfl, Nat.le_of_ble_eq_true rfl⟩) rfl [2, 3, 4] [3, 4, 0, 1, 2] (fun u1 => [xO aR 5 [.int 0, .int pl, .ref rEx, .ref rRd, .ref rTo, .int rs, .ref rMi, .ref rCl, .ref rSh, .ref rFa, .ref aS, .ref aH], xAI G rEx 10 ex, xAI G rRd 40 rd, xO aS 4 [.int po, .int co, .int go, .ref sTr, .ref sAk, .ref sWy, .int ln, .ref sXe, .ref sSg, .int wk, .int db, .int dn, .int iv, .int qs], xAZ G sTr 20 tr]) (fun _ => rfl) rfl rfl rfl rfl (fun r2 u1 H locs hp3 hw => ?_)
  refine lv_if_eq (tgt := 35) hx hb dX5_isTried_11 (by decide) (fun c_5 => ?_) (fun c_5 => ?_)
  · refine lv_aload_n hx hb dX5_isTried_35 rfl (lv_at hl 0 rfl) ?_
    refine lv_iconst (v := 1) hx hb dX5_isTried_36 (by decide) ?_
    refine xcall_i (isC := [0]) hc hw (xrunV (n := 1) (As := [.int 1]) (rest := []) hc hw [0] (metX5_isNot l G _ aR rEx rRd rTo rMi rCl rSh rFa aS aH 0 pl rs 1) gX5_isTried_X5_isNot rfl (by decide +kernel) ⟨Nat.le_of_ble_eq_true rfl, Nat.le_of_ble_eq_true rfl⟩ 0 rfl rfl rfl rfl rfl rfl hl.1 (Nat.le_of_ble_eq_true rfl) dX5_isTried_37 ⟨Nat.le_of_ble_eq_true rfl, Nat.le_of_ble_eq_true rfl⟩) rfl [1, 2, 3, 4] [4, 0, 1, 2, 3] (fun u6 => [xO aR 5 [.int u6, .int pl, .ref rEx, .ref rRd, .ref rTo, .int rs, .ref rMi, .ref rCl, .ref rSh, .ref rFa, .ref aS, .ref aH], xAI G rEx 10 ex, xAI G rRd 40 rd, xO aS 4 [.int po, .int co, .int go, .ref sTr, .ref sAk, .ref sWy, .int ln, .ref sXe, .ref sSg, .int wk, .int db, .int dn, .int iv, .int qs], xAZ G sTr 20 tr]) (fun _ => rfl) rfl rfl rfl rfl (fun r7 u6 H locs hp8 hw => ?_)
    exact xret_z u6 hc hw (by exact ynot hp8.1) (xe2 (xb hp3 (Eq.trans (if_pos c_5) (xb2 hp8 rfl)))) ⟨Nat.le_of_ble_eq_true rfl, Nat.le_of_ble_eq_true rfl⟩ dX5_isTried_40
  · refine lv_aload_n hx hb dX5_isTried_14 rfl (lv_at hl 0 rfl) ?_
    refine xget (C := RX5) (T := TX5) (N := 12) hc hw inX5_isTried_X5 0 rfl rfl 10 (by decide) lkX5_isTried_f35 rfl rfl dX5_isTried_15 ?_
    refine xgetN (C := RX4) (T := TX4) (N := 14) hc hw inX5_isTried_X4 3 rfl rfl 3 (by decide) nkX5_67 rfl rfl dX5_isTried_18 ?_
    refine lv_aload_n hx hb dX5_isTried_21 rfl (lv_at hl 0 rfl) ?_
    refine xget (C := RX5) (T := TX5) (N := 12) hc hw inX5_isTried_X5 0 rfl rfl 3 (by decide) lkX5_isTried_f13 rfl rfl dX5_isTried_22 ?_
    refine lv_iconst (v := 4) hx hb dX5_isTried_25 (by decide) ?_
    refine lv_iload_n hx hb dX5_isTried_26 rfl (lv_at hl 1 rfl) ?_
    refine lv_imul hx hb dX5_isTried_27 ?_
    refine lv_iload_n hx hb dX5_isTried_28 rfl (lv_at hl 2 rfl) ?_
    refine lv_iadd hx hb dX5_isTried_29 ?_
    refine xiald hc hw 2 rfl (xin (yq4in (pX5_isExit hpl hex4 hp3 c_5).1 ⟨(pX5_isExit hpl hex4 hp3 c_5).2.1, (pX5_isExit hpl hex4 hp3 c_5).2.2.1⟩)) dX5_isTried_30 ?_
    refine xzald hc hw 4 rfl (xin (hrd _ (xcl (yq4in (pX5_isExit hpl hex4 hp3 c_5).1 ⟨(pX5_isExit hpl hex4 hp3 c_5).2.1, (pX5_isExit hpl hex4 hp3 c_5).2.2.1⟩)))) dX5_isTried_31 ?_
    refine lv_goto (tgt := 40) hx hb dX5_isTried_32 (by decide) ?_
    exact xret_z 0 hc hw (by exact xz01 (htr _ (xcl (hrd _ (xcl (yq4in (pX5_isExit hpl hex4 hp3 c_5).1 ⟨(pX5_isExit hpl hex4 hp3 c_5).2.1, (pX5_isExit hpl hex4 hp3 c_5).2.2.1⟩)))))) (xe2 (xb hp3 (if_neg c_5))) ⟨Nat.le_of_ble_eq_true rfl, Nat.le_of_ble_eq_true rfl⟩ dX5_isTried_40
def FX5_remembered (pl : Int32) (xe : Nat → Int32) (g : Int32) (q : Int32) : Int32 × (Int32) :=
  xbind (FX5_isPlace pl g) (fun r2 => if r2 = 0 then (xbind2 (FX5_no 1) (fun r7 u6 => (r7, u6))) else (xbind (FX5_isPlace pl q) (fun r11 => if r11 = 0 then (xbind2 (FX5_no 1) (fun r16 u15 => (r16, u15))) else ((xe ((10 * g) + q).toNatClampNeg, 0)))))
set_option maxHeartbeats 40000000 in
set_option maxRecDepth 100000 in
theorem metX5_remembered (l : Launch) (G : xG) (sz : Nat) (aR : Nat) (rEx : Nat) (rRd : Nat) (rTo : Nat) (rMi : Nat) (rCl : Nat) (rSh : Nat) (rFa : Nat) (aS : Nat) (aH : Nat) (sTr : Nat) (sAk : Nat) (sWy : Nat) (sXe : Nat) (sSg : Nat) (th : Int32) (pl : Int32) (rs : Int32) (po : Int32) (co : Int32) (go : Int32) (ln : Int32) (wk : Int32) (db : Int32) (dn : Int32) (iv : Int32) (qs : Int32) (xe : Nat → Int32) (g : Int32) (q : Int32) (hpl : 0 ≤ pl.toInt ∧ pl.toInt ≤ 10) : xM l yX5_remembered wsX5_remembered ⟨2, 0, 0, 43⟩ G [.ref aR, .int g, .int q] [xO aR 5 [.int th, .int pl, .ref rEx, .ref rRd, .ref rTo, .int rs, .ref rMi, .ref rCl, .ref rSh, .ref rFa, .ref aS, .ref aH], xO aS 4 [.int po, .int co, .int go, .ref sTr, .ref sAk, .ref sWy, .int ln, .ref sXe, .ref sSg, .int wk, .int db, .int dn, .int iv, .int qs], xAI G sXe 100 xe] sz (xQi G [xO aR 5 [.int th, .int pl, .ref rEx, .ref rRd, .ref rTo, .int rs, .ref rMi, .ref rCl, .ref rSh, .ref rFa, .ref aS, .ref aH], xO aS 4 [.int po, .int co, .int go, .ref sTr, .ref sAk, .ref sWy, .int ln, .ref sXe, .ref sSg, .int wk, .int db, .int dn, .int iv, .int qs], xAI G sXe 100 xe] sz (fun (r : Int32) (u : (Int32)) => r = (FX5_remembered pl xe g q).1 ∧ u = (FX5_remembered pl xe g q).2) (fun u : (Int32) => [xO aR 5 [.int u, .int pl, .ref rEx, .ref rRd, .ref rTo, .int rs, .ref rMi, .ref rCl, .ref rSh, .ref rFa, .ref aS, .ref aH], xO aS 4 [.int po, .int co, .int go, .ref sTr, .ref sAk, .ref sWy, .int ln, .ref sXe, .ref sSg, .int wk, .int db, .int dn, .int iv, .int qs], xAI G sXe 100 xe])) := by
  refine xof (own := RX5) (cc := cX5_remembered) (maxL := 3) (ret := (some .int)) rfl (by decide) rfl (Nat.le_of_ble_eq_true rfl) ?_
  intro pg en s mi below meth cd hc hnm hw ls hl
  obtain ⟨hx, hb, -, hown, hts, -⟩ := id hc
  have hl : lv_has ls 3 [(0, .ref aR), (1, .int g), (2, .int q)] := hl
  refine lv_aload_n hx hb dX5_remembered_0 rfl (lv_at hl 0 rfl) ?_
  refine lv_iconst (v := 0) hx hb dX5_remembered_1 (by decide) ?_
  refine xput (C := RX5) (T := TX5) (N := 12) (ty := .int) hc hw inX5_remembered_X5 tyX5 tyX5_ok nmX5 0 [xO aR 5 [.int 0, .int pl, .ref rEx, .ref rRd, .ref rTo, .int rs, .ref rMi, .ref rCl, .ref rSh, .ref rFa, .ref aS, .ref aH], xO aS 4 [.int po, .int co, .int go, .ref sTr, .ref sAk, .ref sWy, .int ln, .ref sXe, .ref sSg, .int wk, .int db, .int dn, .int iv, .int qs], xAI G sXe 100 xe] rfl rfl 0 (by decide) lkX5_remembered_f42 rfl rfl rfl rfl (Nat.le_of_ble_eq_true rfl) rfl dX5_remembered_2 (fun H locs hw => ?_)
  refine lv_aload_n hx hb dX5_remembered_5 rfl (lv_at hl 0 rfl) ?_
  refine lv_iload_n hx hb dX5_remembered_6 rfl (lv_at hl 1 rfl) ?_
  refine xcall_i (isC := [0]) hc hw (xrunV (n := 1) (As := [.int g]) (rest := []) hc hw [0] (metX5_isPlace l G _ aR rEx rRd rTo rMi rCl rSh rFa aS aH 0 pl rs g) gX5_remembered_X5_isPlace rfl (by decide +kernel) ⟨Nat.le_of_ble_eq_true rfl, Nat.le_of_ble_eq_true rfl⟩ 0 rfl rfl rfl rfl rfl rfl hl.1 (Nat.le_of_ble_eq_true rfl) dX5_remembered_7 ⟨Nat.le_of_ble_eq_true rfl, Nat.le_of_ble_eq_true rfl⟩) rfl [1, 2] [2, 0, 1] (fun u1 => [xO aR 5 [.int 0, .int pl, .ref rEx, .ref rRd, .ref rTo, .int rs, .ref rMi, .ref rCl, .ref rSh, .ref rFa, .ref aS, .ref aH], xO aS 4 [.int po, .int co, .int go, .ref sTr, .ref sAk, .ref sWy, .int ln, .ref sXe, .ref sSg, .int wk, .int db, .int dn, .int iv, .int qs], xAI G sXe 100 xe]) (fun _ => rfl) rfl rfl rfl rfl (fun r2 u1 H locs hp3 hw => ?_)
  refine lv_if_eq (tgt := 38) hx hb dX5_remembered_10 (by decide) (fun c_5 => ?_) (fun c_5 => ?_)
  · refine lv_aload_n hx hb dX5_remembered_38 rfl (lv_at hl 0 rfl) ?_
    refine lv_iconst (v := 1) hx hb dX5_remembered_39 (by decide) ?_
    refine xcall_i (isC := [0]) hc hw (xrunV (n := 1) (As := [.int 1]) (rest := []) hc hw [0] (metX5_no l G _ aR rEx rRd rTo rMi rCl rSh rFa aS aH 0 pl rs 1) gX5_remembered_X5_no rfl (by decide +kernel) ⟨Nat.le_of_ble_eq_true rfl, Nat.le_of_ble_eq_true rfl⟩ 0 rfl rfl rfl rfl rfl rfl hl.1 (Nat.le_of_ble_eq_true rfl) dX5_remembered_40 ⟨Nat.le_of_ble_eq_true rfl, Nat.le_of_ble_eq_true rfl⟩) rfl [1, 2] [2, 0, 1] (fun u6 => [xO aR 5 [.int u6, .int pl, .ref rEx, .ref rRd, .ref rTo, .int rs, .ref rMi, .ref rCl, .ref rSh, .ref rFa, .ref aS, .ref aH], xO aS 4 [.int po, .int co, .int go, .ref sTr, .ref sAk, .ref sWy, .int ln, .ref sXe, .ref sSg, .int wk, .int db, .int dn, .int iv, .int qs], xAI G sXe 100 xe]) (fun _ => rfl) rfl rfl rfl rfl (fun r7 u6 H locs hp8 hw => ?_)
    exact xret_i u6 hc hw (xe2 (xb hp3 (Eq.trans (if_pos c_5) (xb2 hp8 rfl)))) ⟨Nat.le_of_ble_eq_true rfl, Nat.le_of_ble_eq_true rfl⟩ dX5_remembered_43
  · refine lv_aload_n hx hb dX5_remembered_13 rfl (lv_at hl 0 rfl) ?_
    refine lv_iload_n hx hb dX5_remembered_14 rfl (lv_at hl 2 rfl) ?_
    refine xcall_i (isC := [0]) hc hw (xrunV (n := 1) (As := [.int q]) (rest := []) hc hw [0] (metX5_isPlace l G _ aR rEx rRd rTo rMi rCl rSh rFa aS aH 0 pl rs q) gX5_remembered_X5_isPlace rfl (by decide +kernel) ⟨Nat.le_of_ble_eq_true rfl, Nat.le_of_ble_eq_true rfl⟩ 0 rfl rfl rfl rfl rfl rfl hl.1 (Nat.le_of_ble_eq_true rfl) dX5_remembered_15 ⟨Nat.le_of_ble_eq_true rfl, Nat.le_of_ble_eq_true rfl⟩) rfl [1, 2] [2, 0, 1] (fun u10 => [xO aR 5 [.int 0, .int pl, .ref rEx, .ref rRd, .ref rTo, .int rs, .ref rMi, .ref rCl, .ref rSh, .ref rFa, .ref aS, .ref aH], xO aS 4 [.int po, .int co, .int go, .ref sTr, .ref sAk, .ref sWy, .int ln, .ref sXe, .ref sSg, .int wk, .int db, .int dn, .int iv, .int qs], xAI G sXe 100 xe]) (fun _ => rfl) rfl rfl rfl rfl (fun r11 u10 H locs hp12 hw => ?_)
    refine lv_if_eq (tgt := 38) hx hb dX5_remembered_18 (by decide) (fun c_14 => ?_) (fun c_14 => ?_)
    · refine lv_aload_n hx hb dX5_remembered_38 rfl (lv_at hl 0 rfl) ?_
      refine lv_iconst (v := 1) hx hb dX5_remembered_39 (by decide) ?_
      refine xcall_i (isC := [0]) hc hw (xrunV (n := 1) (As := [.int 1]) (rest := []) hc hw [0] (metX5_no l G _ aR rEx rRd rTo rMi rCl rSh rFa aS aH 0 pl rs 1) gX5_remembered_X5_no rfl (by decide +kernel) ⟨Nat.le_of_ble_eq_true rfl, Nat.le_of_ble_eq_true rfl⟩ 0 rfl rfl rfl rfl rfl rfl hl.1 (Nat.le_of_ble_eq_true rfl) dX5_remembered_40 ⟨Nat.le_of_ble_eq_true rfl, Nat.le_of_ble_eq_true rfl⟩) rfl [1, 2] [2, 0, 1] (fun u15 => [xO aR 5 [.int u15, .int pl, .ref rEx, .ref rRd, .ref rTo, .int rs, .ref rMi, .ref rCl, .ref rSh, .ref rFa, .ref aS, .ref aH], xO aS 4 [.int po, .int co, .int go, .ref sTr, .ref sAk, .ref sWy, .int ln, .ref sXe, .ref sSg, .int wk, .int db, .int dn, .int iv, .int qs], xAI G sXe 100 xe]) (fun _ => rfl) rfl rfl rfl rfl (fun r16 u15 H locs hp17 hw => ?_)
      exact xret_i u15 hc hw (xe2 (xb hp3 (Eq.trans (if_neg c_5) (xb hp12 (Eq.trans (if_pos c_14) (xb2 hp17 rfl)))))) ⟨Nat.le_of_ble_eq_true rfl, Nat.le_of_ble_eq_true rfl⟩ dX5_remembered_43
    · refine lv_aload_n hx hb dX5_remembered_21 rfl (lv_at hl 0 rfl) ?_
      refine xget (C := RX5) (T := TX5) (N := 12) hc hw inX5_remembered_X5 0 rfl rfl 10 (by decide) lkX5_remembered_f35 rfl rfl dX5_remembered_22 ?_
      refine xgetN (C := RX4) (T := TX4) (N := 14) hc hw inX5_remembered_X4 1 rfl rfl 7 (by decide) nkX5_175 rfl rfl dX5_remembered_25 ?_
      refine lv_bipush (v := 10) hx hb dX5_remembered_28 (by decide) ?_
      refine lv_iload_n hx hb dX5_remembered_30 rfl (lv_at hl 1 rfl) ?_
      refine lv_imul hx hb dX5_remembered_31 ?_
      refine lv_iload_n hx hb dX5_remembered_32 rfl (lv_at hl 2 rfl) ?_
      refine lv_iadd hx hb dX5_remembered_33 ?_
      refine xiald hc hw 2 rfl (xin (ym10in (pX5_isPlace10 hpl hp3 c_5) (pX5_isPlace10 hpl hp12 c_14))) dX5_remembered_34 ?_
      refine lv_goto (tgt := 43) hx hb dX5_remembered_35 (by decide) ?_
      exact xret_i 0 hc hw (xe2 (xb hp3 (Eq.trans (if_neg c_5) (xb hp12 (if_neg c_14))))) ⟨Nat.le_of_ble_eq_true rfl, Nat.le_of_ble_eq_true rfl⟩ dX5_remembered_43
def FX5_strengthOf (xe : Nat → Int32) (sg : Nat → Int32) (k : Int32) : Int32 :=
  if (xe k.toNatClampNeg) = (-1) then (0) else (sg k.toNatClampNeg)
set_option maxHeartbeats 40000000 in
set_option maxRecDepth 100000 in
theorem metX5_strengthOf (l : Launch) (G : xG) (sz : Nat) (aR : Nat) (rEx : Nat) (rRd : Nat) (rTo : Nat) (rMi : Nat) (rCl : Nat) (rSh : Nat) (rFa : Nat) (aS : Nat) (aH : Nat) (sTr : Nat) (sAk : Nat) (sWy : Nat) (sXe : Nat) (sSg : Nat) (th : Int32) (pl : Int32) (rs : Int32) (po : Int32) (co : Int32) (go : Int32) (ln : Int32) (wk : Int32) (db : Int32) (dn : Int32) (iv : Int32) (qs : Int32) (xe : Nat → Int32) (sg : Nat → Int32) (k : Int32) (hkk : 0 ≤ k.toInt ∧ k.toInt < 100) : xM l yX5_strengthOf wsX5_strengthOf ⟨0, 0, 0, 0⟩ G [.ref aR, .int k] [xO aR 5 [.int th, .int pl, .ref rEx, .ref rRd, .ref rTo, .int rs, .ref rMi, .ref rCl, .ref rSh, .ref rFa, .ref aS, .ref aH], xO aS 4 [.int po, .int co, .int go, .ref sTr, .ref sAk, .ref sWy, .int ln, .ref sXe, .ref sSg, .int wk, .int db, .int dn, .int iv, .int qs], xAI G sXe 100 xe, xAI G sSg 100 sg] sz (xQi G [xO aR 5 [.int th, .int pl, .ref rEx, .ref rRd, .ref rTo, .int rs, .ref rMi, .ref rCl, .ref rSh, .ref rFa, .ref aS, .ref aH], xO aS 4 [.int po, .int co, .int go, .ref sTr, .ref sAk, .ref sWy, .int ln, .ref sXe, .ref sSg, .int wk, .int db, .int dn, .int iv, .int qs], xAI G sXe 100 xe, xAI G sSg 100 sg] sz (fun (r : Int32) (_ : Unit) => r = FX5_strengthOf xe sg k) (fun u : Unit => [xO aR 5 [.int th, .int pl, .ref rEx, .ref rRd, .ref rTo, .int rs, .ref rMi, .ref rCl, .ref rSh, .ref rFa, .ref aS, .ref aH], xO aS 4 [.int po, .int co, .int go, .ref sTr, .ref sAk, .ref sWy, .int ln, .ref sXe, .ref sSg, .int wk, .int db, .int dn, .int iv, .int qs], xAI G sXe 100 xe, xAI G sSg 100 sg])) := by
  refine xof (own := RX5) (cc := cX5_strengthOf) (maxL := 2) (ret := (some .int)) rfl (by decide) rfl (Nat.le_of_ble_eq_true rfl) ?_
  intro pg en s mi below meth cd hc hnm hw ls hl
  obtain ⟨hx, hb, -, hown, hts, -⟩ := id hc
  have hl : lv_has ls 2 [(0, .ref aR), (1, .int k)] := hl
  refine lv_aload_n hx hb dX5_strengthOf_0 rfl (lv_at hl 0 rfl) ?_
  refine xget (C := RX5) (T := TX5) (N := 12) hc hw inX5_strengthOf_X5 0 rfl rfl 10 (by decide) lkX5_strengthOf_f35 rfl rfl dX5_strengthOf_1 ?_
  refine xgetN (C := RX4) (T := TX4) (N := 14) hc hw inX5_strengthOf_X4 1 rfl rfl 7 (by decide) nkX5_175 rfl rfl dX5_strengthOf_4 ?_
  refine lv_iload_n hx hb dX5_strengthOf_7 rfl (lv_at hl 1 rfl) ?_
  refine xiald hc hw 2 rfl (xin hkk) dX5_strengthOf_8 ?_
  refine lv_iconst (v := (-1)) hx hb dX5_strengthOf_9 (by decide) ?_
  refine lv_icmp_ne (tgt := 17) hx hb dX5_strengthOf_10 (by decide) (fun c_1 => ?_) (fun c_1 => ?_)
  · refine lv_aload_n hx hb dX5_strengthOf_17 rfl (lv_at hl 0 rfl) ?_
    refine xget (C := RX5) (T := TX5) (N := 12) hc hw inX5_strengthOf_X5 0 rfl rfl 10 (by decide) lkX5_strengthOf_f35 rfl rfl dX5_strengthOf_18 ?_
    refine xgetN (C := RX4) (T := TX4) (N := 14) hc hw inX5_strengthOf_X4 1 rfl rfl 8 (by decide) nkX5_128 rfl rfl dX5_strengthOf_21 ?_
    refine lv_iload_n hx hb dX5_strengthOf_24 rfl (lv_at hl 1 rfl) ?_
    refine xiald hc hw 3 rfl (xin hkk) dX5_strengthOf_25 ?_
    exact xret_i () hc hw (Eq.symm (if_neg c_1)) ⟨Nat.le_of_ble_eq_true rfl, Nat.le_of_ble_eq_true rfl⟩ dX5_strengthOf_26
  · refine lv_iconst (v := 0) hx hb dX5_strengthOf_13 (by decide) ?_
    refine lv_goto (tgt := 26) hx hb dX5_strengthOf_14 (by decide) ?_
    exact xret_i () hc hw (Eq.symm (if_pos c_1)) ⟨Nat.le_of_ble_eq_true rfl, Nat.le_of_ble_eq_true rfl⟩ dX5_strengthOf_26
def FX5_strength (pl : Int32) (xe : Nat → Int32) (sg : Nat → Int32) (g : Int32) (q : Int32) : Int32 × (Int32) :=
  xbind (FX5_isPlace pl g) (fun r2 => if r2 = 0 then (xbind2 (FX5_no 1) (fun r7 u6 => (r7, u6))) else (xbind (FX5_isPlace pl q) (fun r11 => if r11 = 0 then (xbind2 (FX5_no 1) (fun r16 u15 => (r16, u15))) else (xbind (FX5_strengthOf xe sg ((10 * g) + q)) (fun r20 => (r20, 0))))))
set_option maxHeartbeats 40000000 in
set_option maxRecDepth 100000 in
theorem metX5_strength (l : Launch) (G : xG) (sz : Nat) (aR : Nat) (rEx : Nat) (rRd : Nat) (rTo : Nat) (rMi : Nat) (rCl : Nat) (rSh : Nat) (rFa : Nat) (aS : Nat) (aH : Nat) (sTr : Nat) (sAk : Nat) (sWy : Nat) (sXe : Nat) (sSg : Nat) (th : Int32) (pl : Int32) (rs : Int32) (po : Int32) (co : Int32) (go : Int32) (ln : Int32) (wk : Int32) (db : Int32) (dn : Int32) (iv : Int32) (qs : Int32) (xe : Nat → Int32) (sg : Nat → Int32) (g : Int32) (q : Int32) (hpl : 0 ≤ pl.toInt ∧ pl.toInt ≤ 10) : xM l yX5_strength wsX5_strength ⟨2, 0, 0, 43⟩ G [.ref aR, .int g, .int q] [xO aR 5 [.int th, .int pl, .ref rEx, .ref rRd, .ref rTo, .int rs, .ref rMi, .ref rCl, .ref rSh, .ref rFa, .ref aS, .ref aH], xO aS 4 [.int po, .int co, .int go, .ref sTr, .ref sAk, .ref sWy, .int ln, .ref sXe, .ref sSg, .int wk, .int db, .int dn, .int iv, .int qs], xAI G sXe 100 xe, xAI G sSg 100 sg] sz (xQi G [xO aR 5 [.int th, .int pl, .ref rEx, .ref rRd, .ref rTo, .int rs, .ref rMi, .ref rCl, .ref rSh, .ref rFa, .ref aS, .ref aH], xO aS 4 [.int po, .int co, .int go, .ref sTr, .ref sAk, .ref sWy, .int ln, .ref sXe, .ref sSg, .int wk, .int db, .int dn, .int iv, .int qs], xAI G sXe 100 xe, xAI G sSg 100 sg] sz (fun (r : Int32) (u : (Int32)) => r = (FX5_strength pl xe sg g q).1 ∧ u = (FX5_strength pl xe sg g q).2) (fun u : (Int32) => [xO aR 5 [.int u, .int pl, .ref rEx, .ref rRd, .ref rTo, .int rs, .ref rMi, .ref rCl, .ref rSh, .ref rFa, .ref aS, .ref aH], xO aS 4 [.int po, .int co, .int go, .ref sTr, .ref sAk, .ref sWy, .int ln, .ref sXe, .ref sSg, .int wk, .int db, .int dn, .int iv, .int qs], xAI G sXe 100 xe, xAI G sSg 100 sg])) := by
  refine xof (own := RX5) (cc := cX5_strength) (maxL := 3) (ret := (some .int)) rfl (by decide) rfl (Nat.le_of_ble_eq_true rfl) ?_
  intro pg en s mi below meth cd hc hnm hw ls hl
  obtain ⟨hx, hb, -, hown, hts, -⟩ := id hc
  have hl : lv_has ls 3 [(0, .ref aR), (1, .int g), (2, .int q)] := hl
  refine lv_aload_n hx hb dX5_strength_0 rfl (lv_at hl 0 rfl) ?_
  refine lv_iconst (v := 0) hx hb dX5_strength_1 (by decide) ?_
  refine xput (C := RX5) (T := TX5) (N := 12) (ty := .int) hc hw inX5_strength_X5 tyX5 tyX5_ok nmX5 0 [xO aR 5 [.int 0, .int pl, .ref rEx, .ref rRd, .ref rTo, .int rs, .ref rMi, .ref rCl, .ref rSh, .ref rFa, .ref aS, .ref aH], xO aS 4 [.int po, .int co, .int go, .ref sTr, .ref sAk, .ref sWy, .int ln, .ref sXe, .ref sSg, .int wk, .int db, .int dn, .int iv, .int qs], xAI G sXe 100 xe, xAI G sSg 100 sg] rfl rfl 0 (by decide) lkX5_strength_f42 rfl rfl rfl rfl (Nat.le_of_ble_eq_true rfl) rfl dX5_strength_2 (fun H locs hw => ?_)
  refine lv_aload_n hx hb dX5_strength_5 rfl (lv_at hl 0 rfl) ?_
  refine lv_iload_n hx hb dX5_strength_6 rfl (lv_at hl 1 rfl) ?_
  refine xcall_i (isC := [0]) hc hw (xrunV (n := 1) (As := [.int g]) (rest := []) hc hw [0] (metX5_isPlace l G _ aR rEx rRd rTo rMi rCl rSh rFa aS aH 0 pl rs g) gX5_strength_X5_isPlace rfl (by decide +kernel) ⟨Nat.le_of_ble_eq_true rfl, Nat.le_of_ble_eq_true rfl⟩ 0 rfl rfl rfl rfl rfl rfl hl.1 (Nat.le_of_ble_eq_true rfl) dX5_strength_7 ⟨Nat.le_of_ble_eq_true rfl, Nat.le_of_ble_eq_true rfl⟩) rfl [1, 2, 3] [3, 0, 1, 2] (fun u1 => [xO aR 5 [.int 0, .int pl, .ref rEx, .ref rRd, .ref rTo, .int rs, .ref rMi, .ref rCl, .ref rSh, .ref rFa, .ref aS, .ref aH], xO aS 4 [.int po, .int co, .int go, .ref sTr, .ref sAk, .ref sWy, .int ln, .ref sXe, .ref sSg, .int wk, .int db, .int dn, .int iv, .int qs], xAI G sXe 100 xe, xAI G sSg 100 sg]) (fun _ => rfl) rfl rfl rfl rfl (fun r2 u1 H locs hp3 hw => ?_)
  refine lv_if_eq (tgt := 34) hx hb dX5_strength_10 (by decide) (fun c_5 => ?_) (fun c_5 => ?_)
  · refine lv_aload_n hx hb dX5_strength_34 rfl (lv_at hl 0 rfl) ?_
    refine lv_iconst (v := 1) hx hb dX5_strength_35 (by decide) ?_
    refine xcall_i (isC := [0]) hc hw (xrunV (n := 1) (As := [.int 1]) (rest := []) hc hw [0] (metX5_no l G _ aR rEx rRd rTo rMi rCl rSh rFa aS aH 0 pl rs 1) gX5_strength_X5_no rfl (by decide +kernel) ⟨Nat.le_of_ble_eq_true rfl, Nat.le_of_ble_eq_true rfl⟩ 0 rfl rfl rfl rfl rfl rfl hl.1 (Nat.le_of_ble_eq_true rfl) dX5_strength_36 ⟨Nat.le_of_ble_eq_true rfl, Nat.le_of_ble_eq_true rfl⟩) rfl [1, 2, 3] [3, 0, 1, 2] (fun u6 => [xO aR 5 [.int u6, .int pl, .ref rEx, .ref rRd, .ref rTo, .int rs, .ref rMi, .ref rCl, .ref rSh, .ref rFa, .ref aS, .ref aH], xO aS 4 [.int po, .int co, .int go, .ref sTr, .ref sAk, .ref sWy, .int ln, .ref sXe, .ref sSg, .int wk, .int db, .int dn, .int iv, .int qs], xAI G sXe 100 xe, xAI G sSg 100 sg]) (fun _ => rfl) rfl rfl rfl rfl (fun r7 u6 H locs hp8 hw => ?_)
    exact xret_i u6 hc hw (xe2 (xb hp3 (Eq.trans (if_pos c_5) (xb2 hp8 rfl)))) ⟨Nat.le_of_ble_eq_true rfl, Nat.le_of_ble_eq_true rfl⟩ dX5_strength_39
  · refine lv_aload_n hx hb dX5_strength_13 rfl (lv_at hl 0 rfl) ?_
    refine lv_iload_n hx hb dX5_strength_14 rfl (lv_at hl 2 rfl) ?_
    refine xcall_i (isC := [0]) hc hw (xrunV (n := 1) (As := [.int q]) (rest := []) hc hw [0] (metX5_isPlace l G _ aR rEx rRd rTo rMi rCl rSh rFa aS aH 0 pl rs q) gX5_strength_X5_isPlace rfl (by decide +kernel) ⟨Nat.le_of_ble_eq_true rfl, Nat.le_of_ble_eq_true rfl⟩ 0 rfl rfl rfl rfl rfl rfl hl.1 (Nat.le_of_ble_eq_true rfl) dX5_strength_15 ⟨Nat.le_of_ble_eq_true rfl, Nat.le_of_ble_eq_true rfl⟩) rfl [1, 2, 3] [3, 0, 1, 2] (fun u10 => [xO aR 5 [.int 0, .int pl, .ref rEx, .ref rRd, .ref rTo, .int rs, .ref rMi, .ref rCl, .ref rSh, .ref rFa, .ref aS, .ref aH], xO aS 4 [.int po, .int co, .int go, .ref sTr, .ref sAk, .ref sWy, .int ln, .ref sXe, .ref sSg, .int wk, .int db, .int dn, .int iv, .int qs], xAI G sXe 100 xe, xAI G sSg 100 sg]) (fun _ => rfl) rfl rfl rfl rfl (fun r11 u10 H locs hp12 hw => ?_)
    refine lv_if_eq (tgt := 34) hx hb dX5_strength_18 (by decide) (fun c_14 => ?_) (fun c_14 => ?_)
    · refine lv_aload_n hx hb dX5_strength_34 rfl (lv_at hl 0 rfl) ?_
      refine lv_iconst (v := 1) hx hb dX5_strength_35 (by decide) ?_
      refine xcall_i (isC := [0]) hc hw (xrunV (n := 1) (As := [.int 1]) (rest := []) hc hw [0] (metX5_no l G _ aR rEx rRd rTo rMi rCl rSh rFa aS aH 0 pl rs 1) gX5_strength_X5_no rfl (by decide +kernel) ⟨Nat.le_of_ble_eq_true rfl, Nat.le_of_ble_eq_true rfl⟩ 0 rfl rfl rfl rfl rfl rfl hl.1 (Nat.le_of_ble_eq_true rfl) dX5_strength_36 ⟨Nat.le_of_ble_eq_true rfl, Nat.le_of_ble_eq_true rfl⟩) rfl [1, 2, 3] [3, 0, 1, 2] (fun u15 => [xO aR 5 [.int u15, .int pl, .ref rEx, .ref rRd, .ref rTo, .int rs, .ref rMi, .ref rCl, .ref rSh, .ref rFa, .ref aS, .ref aH], xO aS 4 [.int po, .int co, .int go, .ref sTr, .ref sAk, .ref sWy, .int ln, .ref sXe, .ref sSg, .int wk, .int db, .int dn, .int iv, .int qs], xAI G sXe 100 xe, xAI G sSg 100 sg]) (fun _ => rfl) rfl rfl rfl rfl (fun r16 u15 H locs hp17 hw => ?_)
      exact xret_i u15 hc hw (xe2 (xb hp3 (Eq.trans (if_neg c_5) (xb hp12 (Eq.trans (if_pos c_14) (xb2 hp17 rfl)))))) ⟨Nat.le_of_ble_eq_true rfl, Nat.le_of_ble_eq_true rfl⟩ dX5_strength_39
    · refine lv_aload_n hx hb dX5_strength_21 rfl (lv_at hl 0 rfl) ?_
      refine lv_bipush (v := 10) hx hb dX5_strength_22 (by decide) ?_
      refine lv_iload_n hx hb dX5_strength_24 rfl (lv_at hl 1 rfl) ?_
      refine lv_imul hx hb dX5_strength_25 ?_
      refine lv_iload_n hx hb dX5_strength_26 rfl (lv_at hl 2 rfl) ?_
      refine lv_iadd hx hb dX5_strength_27 ?_
      refine xcall_i (isC := [0, 1, 2, 3]) hc hw (xrunV (n := 1) (As := [.int ((10 * g) + q)]) (rest := []) hc hw [0, 1, 2, 3] (metX5_strengthOf l G _ aR rEx rRd rTo rMi rCl rSh rFa aS aH sTr sAk sWy sXe sSg 0 pl rs po co go ln wk db dn iv qs xe sg ((10 * g) + q) (ym10in (pX5_isPlace10 hpl hp3 c_5) (pX5_isPlace10 hpl hp12 c_14))) gX5_strength_X5_strengthOf rfl (by decide +kernel) ⟨Nat.le_of_ble_eq_true rfl, Nat.le_of_ble_eq_true rfl⟩ 0 rfl rfl rfl rfl rfl rfl hl.1 (Nat.le_of_ble_eq_true rfl) dX5_strength_28 ⟨Nat.le_of_ble_eq_true rfl, Nat.le_of_ble_eq_true rfl⟩) rfl [] [0, 1, 2, 3] (fun u19 => [xO aR 5 [.int 0, .int pl, .ref rEx, .ref rRd, .ref rTo, .int rs, .ref rMi, .ref rCl, .ref rSh, .ref rFa, .ref aS, .ref aH], xO aS 4 [.int po, .int co, .int go, .ref sTr, .ref sAk, .ref sWy, .int ln, .ref sXe, .ref sSg, .int wk, .int db, .int dn, .int iv, .int qs], xAI G sXe 100 xe, xAI G sSg 100 sg]) (fun _ => rfl) rfl rfl rfl rfl (fun r20 u19 H locs hp21 hw => ?_)
      refine lv_goto (tgt := 39) hx hb dX5_strength_31 (by decide) ?_
      exact xret_i 0 hc hw (xe2 (xb hp3 (Eq.trans (if_neg c_5) (xb hp12 (Eq.trans (if_neg c_14) (xb hp21 rfl)))))) ⟨Nat.le_of_ble_eq_true rfl, Nat.le_of_ble_eq_true rfl⟩ dX5_strength_39
theorem yxr {xe : Nat → Int32} {g q : Int32} (hxe : ∀ k, k < 100 → -1 ≤ (xe k).toInt ∧ (xe k).toInt < 4) (hg : 0 ≤ g.toInt ∧ g.toInt < 10) (hq : 0 ≤ q.toInt ∧ q.toInt < 10) (c : ¬ xe (10 * g + q).toNatClampNeg = -1) : 0 ≤ (xe (10 * g + q).toNatClampNeg).toInt ∧ (xe (10 * g + q).toNatClampNeg).toInt < 4 :=
  yrem (r := xe (10 * g + q).toNatClampNeg) hxe hg hq rfl c
def LX5_knows_t (rd : Nat → Int32) (tt : Nat → Int32) (cz : Nat → Int32) (xe : Nat → Int32) (g : Int32) : Nat → Nat → (Int32) → Int32
  | 0, i, qa => (0)
  | n + 1, i, qa =>
    if 10 ≤ (nI i) then (if qa = g then (1) else (0)) else (if qa = g then (1) else (if (xe ((10 * g) + qa).toNatClampNeg) = (-1) then (0) else (if (cz (rd ((4 * qa) + (xe ((10 * g) + qa).toNatClampNeg)).toNatClampNeg).toNatClampNeg) = 0 then (LX5_knows_t rd tt cz xe g n (i + 1) (tt ((4 * qa) + (xe ((10 * g) + qa).toNatClampNeg)).toNatClampNeg)) else (0))))
set_option maxHeartbeats 40000000 in
set_option maxRecDepth 100000 in
theorem lpX5_knows_t {pg : Program} {l : Launch} {en : Env} {s : State} {mi : MethodId} {args : Array Value} {below : List Frame} {meth : Method} {cd : Code} {w0 : va_W} {sz : Nat} {post : Int32 → Unit → Prop} (G : xG) (hc : xC pg s mi args meth cd cX5_knows 5 RX5 wsX5_knows (some .boolean) G (va_A w0 sz)) (aR : Nat) (rEx : Nat) (rRd : Nat) (rTo : Nat) (rMi : Nat) (rCl : Nat) (rSh : Nat) (rFa : Nat) (aS : Nat) (aH : Nat) (sTr : Nat) (sAk : Nat) (sWy : Nat) (sXe : Nat) (sSg : Nat) (th : Int32) (pl : Int32) (rs : Int32) (rd : Nat → Int32) (tt : Nat → Int32) (cz : Nat → Int32) (po : Int32) (co : Int32) (go : Int32) (ln : Int32) (wk : Int32) (db : Int32) (dn : Int32) (iv : Int32) (qs : Int32) (xe : Nat → Int32) (g : Int32) (hrd : ∀ k, k < 40 → 0 ≤ (rd k).toInt ∧ (rd k).toInt < 20) (htt : ∀ k, k < 40 → 0 ≤ (tt k).toInt ∧ (tt k).toInt < 10) (hxe : ∀ k, k < 100 → -1 ≤ (xe k).toInt ∧ (xe k).toInt < 4) (hg : 0 ≤ g.toInt ∧ g.toInt < 10) (hpo : 0 ≤ po.toInt ∧ po.toInt < 10) :
    ∀ (n i : Nat) (qa : Int32), ((i : Nat) : Int) ≤ (10 : Int32).toInt → (10 : Int32).toInt < ((i + n : Nat) : Int) → (0 ≤ qa.toInt ∧ qa.toInt < 10) → ∀ (H : Heap) (locs : List Loc) (ls : Array Slot), xW G (va_A w0 sz) s.heap [xO aR 5 [.int th, .int pl, .ref rEx, .ref rRd, .ref rTo, .int rs, .ref rMi, .ref rCl, .ref rSh, .ref rFa, .ref aS, .ref aH], xAI G rRd 40 rd, xAI G rTo 40 tt, xAZ G rCl 20 cz, xO aS 4 [.int po, .int co, .int go, .ref sTr, .ref sAk, .ref sWy, .int ln, .ref sXe, .ref sSg, .int wk, .int db, .int dn, .int iv, .int qs], xAI G sXe 100 xe] H locs → lv_has ls 5 [(0, .ref aR), (1, .int g), (2, .int qa), (3, .int (nI i))] → (∀ r u, r = LX5_knows_t rd tt cz xe g n i qa → post r u) → W pg l en ⟨0, 0, 0, 0⟩ s mi args below meth cd H locs 0 0 (MQ below (xQi G w0 sz post (fun u : Unit => [xO aR 5 [.int th, .int pl, .ref rEx, .ref rRd, .ref rTo, .int rs, .ref rMi, .ref rCl, .ref rSh, .ref rFa, .ref aS, .ref aH], xAI G rRd 40 rd, xAI G rTo 40 tt, xAZ G rCl 20 cz, xO aS 4 [.int po, .int co, .int go, .ref sTr, .ref sAk, .ref sWy, .int ln, .ref sXe, .ref sSg, .int wk, .int db, .int dn, .int iv, .int qs], xAI G sXe 100 xe])) args s (⟨0, 0, 0, 0⟩ : Room).cells (⟨0, 0, 0, 0⟩ : Room).slots (va_A w0 sz)) (F0 mi 10 ls []) := by
  obtain ⟨hx, hb, -, hown, hts, -⟩ := id hc
  intro n
  induction n with
  | zero =>
    intro i qa hlo hfu
    intros; exact absurd hfu (by omega)
  | succ n ih =>
    intro i qa hlo hfu hqa H locs ls hw hl hres
    refine lv_iload_n hx hb dX5_knows_10 rfl (lv_at hl 3 rfl) ?_
    refine lv_bipush (v := 10) hx hb dX5_knows_11 (by decide) ?_
    refine lv_icmp_ge (tgt := 82) hx hb dX5_knows_13 (by decide) (fun c_1 => ?_) (fun c_1 => ?_)
    · refine lv_iload_n hx hb dX5_knows_82 rfl (lv_at hl 2 rfl) ?_
      refine lv_iload_n hx hb dX5_knows_83 rfl (lv_at hl 1 rfl) ?_
      refine lv_icmp_ne (tgt := 91) hx hb dX5_knows_84 (by decide) (fun c_2 => ?_) (fun c_2 => ?_)
      · refine lv_iconst (v := 0) hx hb dX5_knows_91 (by decide) ?_
        exact xret_z () hc hw rfl (hres _ _ (Eq.symm (Eq.trans (if_pos c_1) (if_neg c_2)))) ⟨Nat.le_of_ble_eq_true rfl, Nat.le_of_ble_eq_true rfl⟩ dX5_knows_92
      · refine lv_iconst (v := 1) hx hb dX5_knows_87 (by decide) ?_
        refine lv_goto (tgt := 92) hx hb dX5_knows_88 (by decide) ?_
        exact xret_z () hc hw rfl (hres _ _ (Eq.symm (Eq.trans (if_pos c_1) (if_pos c_2)))) ⟨Nat.le_of_ble_eq_true rfl, Nat.le_of_ble_eq_true rfl⟩ dX5_knows_92
    · refine lv_iload_n hx hb dX5_knows_16 rfl (lv_at hl 2 rfl) ?_
      refine lv_iload_n hx hb dX5_knows_17 rfl (lv_at hl 1 rfl) ?_
      refine lv_icmp_eq (tgt := 82) hx hb dX5_knows_18 (by decide) (fun c_3 => ?_) (fun c_3 => ?_)
      · refine lv_iload_n hx hb dX5_knows_82 rfl (lv_at hl 2 rfl) ?_
        refine lv_iload_n hx hb dX5_knows_83 rfl (lv_at hl 1 rfl) ?_
        refine lv_icmp_ne (tgt := 91) hx hb dX5_knows_84 (by decide) (fun h => absurd c_3 h) (fun _ => ?_)
        refine lv_iconst (v := 1) hx hb dX5_knows_87 (by decide) ?_
        refine lv_goto (tgt := 92) hx hb dX5_knows_88 (by decide) ?_
        exact xret_z () hc hw rfl (hres _ _ (Eq.symm (Eq.trans (if_neg c_1) (if_pos c_3)))) ⟨Nat.le_of_ble_eq_true rfl, Nat.le_of_ble_eq_true rfl⟩ dX5_knows_92
      · refine lv_aload_n hx hb dX5_knows_21 rfl (lv_at hl 0 rfl) ?_
        refine xget (C := RX5) (T := TX5) (N := 12) hc hw inX5_knows_X5 0 rfl rfl 10 (by decide) lkX5_knows_f35 rfl rfl dX5_knows_22 ?_
        refine xgetN (C := RX4) (T := TX4) (N := 14) hc hw inX5_knows_X4 4 rfl rfl 7 (by decide) nkX5_175 rfl rfl dX5_knows_25 ?_
        refine lv_bipush (v := 10) hx hb dX5_knows_28 (by decide) ?_
        refine lv_iload_n hx hb dX5_knows_30 rfl (lv_at hl 1 rfl) ?_
        refine lv_imul hx hb dX5_knows_31 ?_
        refine lv_iload_n hx hb dX5_knows_32 rfl (lv_at hl 2 rfl) ?_
        refine lv_iadd hx hb dX5_knows_33 ?_
        refine xiald hc hw 5 rfl (xin (ym10in hg hqa)) dX5_knows_34 ?_
        refine lv_istore (lv' := [(4, .int (xe ((10 * g) + qa).toNatClampNeg)), (0, .ref aR), (1, .int g), (2, .int qa), (3, .int (nI i))]) hx hb dX5_knows_35 hl (by decide) rfl (fun ls hl => ?_)
        refine lv_iload hx hb dX5_knows_37 (lv_at hl 0 rfl) ?_
        refine lv_iconst (v := (-1)) hx hb dX5_knows_39 (by decide) ?_
        refine lv_icmp_eq (tgt := 62) hx hb dX5_knows_40 (by decide) (fun c_4 => ?_) (fun c_4 => ?_)
        · refine lv_iconst (v := 0) hx hb dX5_knows_62 (by decide) ?_
          exact xret_z () hc hw rfl (hres _ _ (Eq.symm (Eq.trans (if_neg c_1) (Eq.trans (if_neg c_3) (if_pos c_4))))) ⟨Nat.le_of_ble_eq_true rfl, Nat.le_of_ble_eq_true rfl⟩ dX5_knows_63
        · refine lv_aload_n hx hb dX5_knows_43 rfl (lv_at hl 1 rfl) ?_
          refine xget (C := RX5) (T := TX5) (N := 12) hc hw inX5_knows_X5 0 rfl rfl 7 (by decide) lkX5_knows_f22 rfl rfl dX5_knows_44 ?_
          refine lv_aload_n hx hb dX5_knows_47 rfl (lv_at hl 1 rfl) ?_
          refine xget (C := RX5) (T := TX5) (N := 12) hc hw inX5_knows_X5 0 rfl rfl 3 (by decide) lkX5_knows_f13 rfl rfl dX5_knows_48 ?_
          refine lv_iconst (v := 4) hx hb dX5_knows_51 (by decide) ?_
          refine lv_iload_n hx hb dX5_knows_52 rfl (lv_at hl 3 rfl) ?_
          refine lv_imul hx hb dX5_knows_53 ?_
          refine lv_iload hx hb dX5_knows_54 (lv_at hl 0 rfl) ?_
          refine lv_iadd hx hb dX5_knows_56 ?_
          refine xiald hc hw 1 rfl (xin (yq4in hqa (yxr hxe hg hqa c_4))) dX5_knows_57 ?_
          refine xzald hc hw 3 rfl (xin (hrd _ (xcl (yq4in hqa (yxr hxe hg hqa c_4))))) dX5_knows_58 ?_
          refine lv_if_eq (tgt := 64) hx hb dX5_knows_59 (by decide) (fun c_5 => ?_) (fun c_5 => ?_)
          · refine lv_aload_n hx hb dX5_knows_64 rfl (lv_at hl 1 rfl) ?_
            refine xget (C := RX5) (T := TX5) (N := 12) hc hw inX5_knows_X5 0 rfl rfl 4 (by decide) lkX5_knows_f16 rfl rfl dX5_knows_65 ?_
            refine lv_iconst (v := 4) hx hb dX5_knows_68 (by decide) ?_
            refine lv_iload_n hx hb dX5_knows_69 rfl (lv_at hl 3 rfl) ?_
            refine lv_imul hx hb dX5_knows_70 ?_
            refine lv_iload hx hb dX5_knows_71 (lv_at hl 0 rfl) ?_
            refine lv_iadd hx hb dX5_knows_73 ?_
            refine xiald hc hw 2 rfl (xin (yq4in hqa (yxr hxe hg hqa c_4))) dX5_knows_74 ?_
            refine lv_istore_n (lv' := [(2, .int (tt ((4 * qa) + (xe ((10 * g) + qa).toNatClampNeg)).toNatClampNeg)), (4, .int (xe ((10 * g) + qa).toNatClampNeg)), (0, .ref aR), (1, .int g), (3, .int (nI i))]) hx hb dX5_knows_75 rfl hl (by decide) rfl (fun ls hl => ?_)
            refine lv_iinc (v := nI (i + 1)) (lv' := [(3, .int (nI (i + 1))), (2, .int (tt ((4 * qa) + (xe ((10 * g) + qa).toNatClampNeg)).toNatClampNeg)), (4, .int (xe ((10 * g) + qa).toNatClampNeg)), (0, .ref aR), (1, .int g)]) hx hb dX5_knows_76 hl (k := 4) rfl (nI_1 _) (by decide) rfl (fun ls hl => ?_)
            refine lv_goto (tgt := 10) hx hb dX5_knows_79 (by decide) ?_
            exact ih (i + 1) (tt ((4 * qa) + (xe ((10 * g) + qa).toNatClampNeg)).toNatClampNeg) (xlt hlo c_1) (by omega) (htt _ (xcl (yq4in hqa (yxr hxe hg hqa c_4)))) H locs ls hw (lv_sub hl [3, 4, 1, 0] rfl) (fun r u e => hres r u (xtr1 (Eq.trans (if_neg c_1) (Eq.trans (if_neg c_3) (Eq.trans (if_neg c_4) (if_pos c_5)))) e))
          · refine lv_iconst (v := 0) hx hb dX5_knows_62 (by decide) ?_
            exact xret_z () hc hw rfl (hres _ _ (Eq.symm (Eq.trans (if_neg c_1) (Eq.trans (if_neg c_3) (Eq.trans (if_neg c_4) (if_neg c_5)))))) ⟨Nat.le_of_ble_eq_true rfl, Nat.le_of_ble_eq_true rfl⟩ dX5_knows_63
def FX5_knows (rd : Nat → Int32) (tt : Nat → Int32) (cz : Nat → Int32) (po : Int32) (xe : Nat → Int32) (g : Int32) : Int32 :=
  LX5_knows_t rd tt cz xe g 11 0 po
set_option maxHeartbeats 40000000 in
set_option maxRecDepth 100000 in
theorem metX5_knows (l : Launch) (G : xG) (sz : Nat) (aR : Nat) (rEx : Nat) (rRd : Nat) (rTo : Nat) (rMi : Nat) (rCl : Nat) (rSh : Nat) (rFa : Nat) (aS : Nat) (aH : Nat) (sTr : Nat) (sAk : Nat) (sWy : Nat) (sXe : Nat) (sSg : Nat) (th : Int32) (pl : Int32) (rs : Int32) (rd : Nat → Int32) (tt : Nat → Int32) (cz : Nat → Int32) (po : Int32) (co : Int32) (go : Int32) (ln : Int32) (wk : Int32) (db : Int32) (dn : Int32) (iv : Int32) (qs : Int32) (xe : Nat → Int32) (g : Int32) (hrd : ∀ k, k < 40 → 0 ≤ (rd k).toInt ∧ (rd k).toInt < 20) (htt : ∀ k, k < 40 → 0 ≤ (tt k).toInt ∧ (tt k).toInt < 10) (hxe : ∀ k, k < 100 → -1 ≤ (xe k).toInt ∧ (xe k).toInt < 4) (hg : 0 ≤ g.toInt ∧ g.toInt < 10) (hpo : 0 ≤ po.toInt ∧ po.toInt < 10) : xM l yX5_knows wsX5_knows ⟨0, 0, 0, 0⟩ G [.ref aR, .int g] [xO aR 5 [.int th, .int pl, .ref rEx, .ref rRd, .ref rTo, .int rs, .ref rMi, .ref rCl, .ref rSh, .ref rFa, .ref aS, .ref aH], xAI G rRd 40 rd, xAI G rTo 40 tt, xAZ G rCl 20 cz, xO aS 4 [.int po, .int co, .int go, .ref sTr, .ref sAk, .ref sWy, .int ln, .ref sXe, .ref sSg, .int wk, .int db, .int dn, .int iv, .int qs], xAI G sXe 100 xe] sz (xQi G [xO aR 5 [.int th, .int pl, .ref rEx, .ref rRd, .ref rTo, .int rs, .ref rMi, .ref rCl, .ref rSh, .ref rFa, .ref aS, .ref aH], xAI G rRd 40 rd, xAI G rTo 40 tt, xAZ G rCl 20 cz, xO aS 4 [.int po, .int co, .int go, .ref sTr, .ref sAk, .ref sWy, .int ln, .ref sXe, .ref sSg, .int wk, .int db, .int dn, .int iv, .int qs], xAI G sXe 100 xe] sz (fun (r : Int32) (_ : Unit) => r = FX5_knows rd tt cz po xe g) (fun u : Unit => [xO aR 5 [.int th, .int pl, .ref rEx, .ref rRd, .ref rTo, .int rs, .ref rMi, .ref rCl, .ref rSh, .ref rFa, .ref aS, .ref aH], xAI G rRd 40 rd, xAI G rTo 40 tt, xAZ G rCl 20 cz, xO aS 4 [.int po, .int co, .int go, .ref sTr, .ref sAk, .ref sWy, .int ln, .ref sXe, .ref sSg, .int wk, .int db, .int dn, .int iv, .int qs], xAI G sXe 100 xe])) := by
  refine xof (own := RX5) (cc := cX5_knows) (maxL := 5) (ret := (some .boolean)) rfl (by decide) rfl (Nat.le_of_ble_eq_true rfl) ?_
  intro pg en s mi below meth cd hc hnm hw ls hl
  obtain ⟨hx, hb, -, hown, hts, -⟩ := id hc
  have hl : lv_has ls 5 [(0, .ref aR), (1, .int g)] := hl
  refine lv_aload_n hx hb dX5_knows_0 rfl (lv_at hl 0 rfl) ?_
  refine xget (C := RX5) (T := TX5) (N := 12) hc hw inX5_knows_X5 0 rfl rfl 10 (by decide) lkX5_knows_f35 rfl rfl dX5_knows_1 ?_
  refine xgetN (C := RX4) (T := TX4) (N := 14) hc hw inX5_knows_X4 4 rfl rfl 0 (by decide) nkX5_61 rfl rfl dX5_knows_4 ?_
  refine lv_istore_n (lv' := [(2, .int po), (0, .ref aR), (1, .int g)]) hx hb dX5_knows_7 rfl hl (by decide) rfl (fun ls hl => ?_)
  refine lv_iconst (v := 0) hx hb dX5_knows_8 (by decide) ?_
  refine lv_istore_n (lv' := [(3, .int 0), (2, .int po), (0, .ref aR), (1, .int g)]) hx hb dX5_knows_9 rfl hl (by decide) rfl (fun ls hl => ?_)
  exact lpX5_knows_t G hc aR rEx rRd rTo rMi rCl rSh rFa aS aH sTr sAk sWy sXe sSg th pl rs rd tt cz po co go ln wk db dn iv qs xe g hrd htt hxe hg hpo 11 0 po (by decide) (by decide) (hpo) _ _ _ hw (lv_sub hl [2, 3, 1, 0] rfl) (fun r u e => xtr1 rfl e)
theorem LX5_knows_01 {rd : Nat → Int32} {tt : Nat → Int32} {cz : Nat → Int32} {xe : Nat → Int32} {g : Int32} : ∀ (n i : Nat) (qa : Int32), LX5_knows_t rd tt cz xe g n i qa = 0 ∨ LX5_knows_t rd tt cz xe g n i qa = 1
  | 0, _, _ => Or.inl rfl
  | n + 1, i, qa => by
    unfold LX5_knows_t
    repeat' split
    all_goals first | exact Or.inl rfl | exact Or.inr rfl | exact LX5_knows_01 n (i + 1) _
theorem FX5_knows_01 {rd : Nat → Int32} {tt : Nat → Int32} {cz : Nat → Int32} {po : Int32} {xe : Nat → Int32} {g : Int32} {r : Int32} (h : r = FX5_knows rd tt cz po xe g) : narrow .boolean (.int r) = .int r := by
  subst h
  exact xz01 (LX5_knows_01 11 0 po)
def FX5_knowsWay (pl : Int32) (rd : Nat → Int32) (tt : Nat → Int32) (cz : Nat → Int32) (po : Int32) (xe : Nat → Int32) (g : Int32) : Int32 × (Int32) :=
  xbind (FX5_isPlace pl g) (fun r2 => if r2 = 0 then (xbind2 (FX5_isNot 1) (fun r7 u6 => (r7, u6))) else (xbind (FX5_knows rd tt cz po xe g) (fun r11 => (r11, 0))))
set_option maxHeartbeats 40000000 in
set_option maxRecDepth 100000 in
theorem metX5_knowsWay (l : Launch) (G : xG) (sz : Nat) (aR : Nat) (rEx : Nat) (rRd : Nat) (rTo : Nat) (rMi : Nat) (rCl : Nat) (rSh : Nat) (rFa : Nat) (aS : Nat) (aH : Nat) (sTr : Nat) (sAk : Nat) (sWy : Nat) (sXe : Nat) (sSg : Nat) (th : Int32) (pl : Int32) (rs : Int32) (rd : Nat → Int32) (tt : Nat → Int32) (cz : Nat → Int32) (po : Int32) (co : Int32) (go : Int32) (ln : Int32) (wk : Int32) (db : Int32) (dn : Int32) (iv : Int32) (qs : Int32) (xe : Nat → Int32) (g : Int32) (hpl : 0 ≤ pl.toInt ∧ pl.toInt ≤ 10) (hrd : ∀ k, k < 40 → 0 ≤ (rd k).toInt ∧ (rd k).toInt < 20) (htt : ∀ k, k < 40 → 0 ≤ (tt k).toInt ∧ (tt k).toInt < 10) (hxe : ∀ k, k < 100 → -1 ≤ (xe k).toInt ∧ (xe k).toInt < 4) (hpw : 0 < pl.toInt → 0 ≤ po.toInt ∧ po.toInt < 10) : xM l yX5_knowsWay wsX5_knowsWay ⟨2, 0, 0, 43⟩ G [.ref aR, .int g] [xO aR 5 [.int th, .int pl, .ref rEx, .ref rRd, .ref rTo, .int rs, .ref rMi, .ref rCl, .ref rSh, .ref rFa, .ref aS, .ref aH], xAI G rRd 40 rd, xAI G rTo 40 tt, xAZ G rCl 20 cz, xO aS 4 [.int po, .int co, .int go, .ref sTr, .ref sAk, .ref sWy, .int ln, .ref sXe, .ref sSg, .int wk, .int db, .int dn, .int iv, .int qs], xAI G sXe 100 xe] sz (xQi G [xO aR 5 [.int th, .int pl, .ref rEx, .ref rRd, .ref rTo, .int rs, .ref rMi, .ref rCl, .ref rSh, .ref rFa, .ref aS, .ref aH], xAI G rRd 40 rd, xAI G rTo 40 tt, xAZ G rCl 20 cz, xO aS 4 [.int po, .int co, .int go, .ref sTr, .ref sAk, .ref sWy, .int ln, .ref sXe, .ref sSg, .int wk, .int db, .int dn, .int iv, .int qs], xAI G sXe 100 xe] sz (fun (r : Int32) (u : (Int32)) => r = (FX5_knowsWay pl rd tt cz po xe g).1 ∧ u = (FX5_knowsWay pl rd tt cz po xe g).2) (fun u : (Int32) => [xO aR 5 [.int u, .int pl, .ref rEx, .ref rRd, .ref rTo, .int rs, .ref rMi, .ref rCl, .ref rSh, .ref rFa, .ref aS, .ref aH], xAI G rRd 40 rd, xAI G rTo 40 tt, xAZ G rCl 20 cz, xO aS 4 [.int po, .int co, .int go, .ref sTr, .ref sAk, .ref sWy, .int ln, .ref sXe, .ref sSg, .int wk, .int db, .int dn, .int iv, .int qs], xAI G sXe 100 xe])) := by
  refine xof (own := RX5) (cc := cX5_knowsWay) (maxL := 2) (ret := (some .boolean)) rfl (by decide) rfl (Nat.le_of_ble_eq_true rfl) ?_
  intro pg en s mi below meth cd hc hnm hw ls hl
  obtain ⟨hx, hb, -, hown, hts, -⟩ := id hc
  have hl : lv_has ls 2 [(0, .ref aR), (1, .int g)] := hl
  refine lv_aload_n hx hb dX5_knowsWay_0 rfl (lv_at hl 0 rfl) ?_
  refine lv_iconst (v := 0) hx hb dX5_knowsWay_1 (by decide) ?_
  refine xput (C := RX5) (T := TX5) (N := 12) (ty := .int) hc hw inX5_knowsWay_X5 tyX5 tyX5_ok nmX5 0 [xO aR 5 [.int 0, .int pl, .ref rEx, .ref rRd, .ref rTo, .int rs, .ref rMi, .ref rCl, .ref rSh, .ref rFa, .ref aS, .ref aH], xAI G rRd 40 rd, xAI G rTo 40 tt, xAZ G rCl 20 cz, xO aS 4 [.int po, .int co, .int go, .ref sTr, .ref sAk, .ref sWy, .int ln, .ref sXe, .ref sSg, .int wk, .int db, .int dn, .int iv, .int qs], xAI G sXe 100 xe] rfl rfl 0 (by decide) lkX5_knowsWay_f42 rfl rfl rfl rfl (Nat.le_of_ble_eq_true rfl) rfl dX5_knowsWay_2 (fun H locs hw => ?_)
  refine lv_aload_n hx hb dX5_knowsWay_5 rfl (lv_at hl 0 rfl) ?_
  refine lv_iload_n hx hb dX5_knowsWay_6 rfl (lv_at hl 1 rfl) ?_
  refine xcall_i (isC := [0]) hc hw (xrunV (n := 1) (As := [.int g]) (rest := []) hc hw [0] (metX5_isPlace l G _ aR rEx rRd rTo rMi rCl rSh rFa aS aH 0 pl rs g) gX5_knowsWay_X5_isPlace rfl (by decide +kernel) ⟨Nat.le_of_ble_eq_true rfl, Nat.le_of_ble_eq_true rfl⟩ 0 rfl rfl rfl rfl rfl rfl hl.1 (Nat.le_of_ble_eq_true rfl) dX5_knowsWay_7 ⟨Nat.le_of_ble_eq_true rfl, Nat.le_of_ble_eq_true rfl⟩) rfl [1, 2, 3, 4, 5] [5, 0, 1, 2, 3, 4] (fun u1 => [xO aR 5 [.int 0, .int pl, .ref rEx, .ref rRd, .ref rTo, .int rs, .ref rMi, .ref rCl, .ref rSh, .ref rFa, .ref aS, .ref aH], xAI G rRd 40 rd, xAI G rTo 40 tt, xAZ G rCl 20 cz, xO aS 4 [.int po, .int co, .int go, .ref sTr, .ref sAk, .ref sWy, .int ln, .ref sXe, .ref sSg, .int wk, .int db, .int dn, .int iv, .int qs], xAI G sXe 100 xe]) (fun _ => rfl) rfl rfl rfl rfl (fun r2 u1 H locs hp3 hw => ?_)
  refine lv_if_eq (tgt := 21) hx hb dX5_knowsWay_10 (by decide) (fun c_5 => ?_) (fun c_5 => ?_)
  · refine lv_aload_n hx hb dX5_knowsWay_21 rfl (lv_at hl 0 rfl) ?_
    refine lv_iconst (v := 1) hx hb dX5_knowsWay_22 (by decide) ?_
    refine xcall_i (isC := [0]) hc hw (xrunV (n := 1) (As := [.int 1]) (rest := []) hc hw [0] (metX5_isNot l G _ aR rEx rRd rTo rMi rCl rSh rFa aS aH 0 pl rs 1) gX5_knowsWay_X5_isNot rfl (by decide +kernel) ⟨Nat.le_of_ble_eq_true rfl, Nat.le_of_ble_eq_true rfl⟩ 0 rfl rfl rfl rfl rfl rfl hl.1 (Nat.le_of_ble_eq_true rfl) dX5_knowsWay_23 ⟨Nat.le_of_ble_eq_true rfl, Nat.le_of_ble_eq_true rfl⟩) rfl [1, 2, 3, 4, 5] [5, 0, 1, 2, 3, 4] (fun u6 => [xO aR 5 [.int u6, .int pl, .ref rEx, .ref rRd, .ref rTo, .int rs, .ref rMi, .ref rCl, .ref rSh, .ref rFa, .ref aS, .ref aH], xAI G rRd 40 rd, xAI G rTo 40 tt, xAZ G rCl 20 cz, xO aS 4 [.int po, .int co, .int go, .ref sTr, .ref sAk, .ref sWy, .int ln, .ref sXe, .ref sSg, .int wk, .int db, .int dn, .int iv, .int qs], xAI G sXe 100 xe]) (fun _ => rfl) rfl rfl rfl rfl (fun r7 u6 H locs hp8 hw => ?_)
    exact xret_z u6 hc hw (by exact ynot hp8.1) (xe2 (xb hp3 (Eq.trans (if_pos c_5) (xb2 hp8 rfl)))) ⟨Nat.le_of_ble_eq_true rfl, Nat.le_of_ble_eq_true rfl⟩ dX5_knowsWay_26
  · refine lv_aload_n hx hb dX5_knowsWay_13 rfl (lv_at hl 0 rfl) ?_
    refine lv_iload_n hx hb dX5_knowsWay_14 rfl (lv_at hl 1 rfl) ?_
    refine xcall_i (isC := [0, 1, 2, 3, 4, 5]) hc hw (xrunV (n := 1) (As := [.int g]) (rest := []) hc hw [0, 1, 2, 3, 4, 5] (metX5_knows l G _ aR rEx rRd rTo rMi rCl rSh rFa aS aH sTr sAk sWy sXe sSg 0 pl rs rd tt cz po co go ln wk db dn iv qs xe g hrd htt hxe (pX5_isPlace10 hpl hp3 c_5) (hpw (yadd_p hpl hp3 c_5))) gX5_knowsWay_X5_knows rfl (by decide +kernel) ⟨Nat.le_of_ble_eq_true rfl, Nat.le_of_ble_eq_true rfl⟩ 0 rfl rfl rfl rfl rfl rfl hl.1 (Nat.le_of_ble_eq_true rfl) dX5_knowsWay_15 ⟨Nat.le_of_ble_eq_true rfl, Nat.le_of_ble_eq_true rfl⟩) rfl [] [0, 1, 2, 3, 4, 5] (fun u10 => [xO aR 5 [.int 0, .int pl, .ref rEx, .ref rRd, .ref rTo, .int rs, .ref rMi, .ref rCl, .ref rSh, .ref rFa, .ref aS, .ref aH], xAI G rRd 40 rd, xAI G rTo 40 tt, xAZ G rCl 20 cz, xO aS 4 [.int po, .int co, .int go, .ref sTr, .ref sAk, .ref sWy, .int ln, .ref sXe, .ref sSg, .int wk, .int db, .int dn, .int iv, .int qs], xAI G sXe 100 xe]) (fun _ => rfl) rfl rfl rfl rfl (fun r11 u10 H locs hp12 hw => ?_)
    refine lv_goto (tgt := 26) hx hb dX5_knowsWay_18 (by decide) ?_
    exact xret_z 0 hc hw (by exact FX5_knows_01 hp12) (xe2 (xb hp3 (Eq.trans (if_neg c_5) (xb hp12 rfl)))) ⟨Nat.le_of_ble_eq_true rfl, Nat.le_of_ble_eq_true rfl⟩ dX5_knowsWay_26
