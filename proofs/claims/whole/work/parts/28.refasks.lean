def FX5_asks (pl : Int32) (ex : Nat → Int32) (rd : Nat → Int32) (tt : Nat → Int32) (ml : Nat → Int32) (cz : Nat → Int32) (sh : Nat → Int32) (fa : Nat → Int32) (po : Int32) (co : Int32) (go : Int32) (ln : Int32) (wk : Int32) (qs : Int32) (tr : Nat → Int32) (ak : Nat → Int32) (wy : Nat → Int32) (xe : Nat → Int32) (sg : Nat → Int32) : Int32 × (Int32) × (Int32) × (Int32) × (Int32) × (Int32) × (Nat → Int32) × (Nat → Int32) × (Nat → Int32) × (Nat → Int32) × (Nat → Int32) × (Nat → Int32) :=
  if (sh po.toNatClampNeg) = 0 then ((0, po, co, ln, wk, qs, tr, ak, wy, xe, sg, fa)) else (if (ak po.toNatClampNeg) = 0 then (if co = 0 then ((0, po, co, ln, wk, qs, tr, ak, wy, xe, sg, fa)) else (xbind2 (FX5_toldExit pl ex rd tt ml cz fa po go) (fun r5 u4 => if r5 = (-1) then ((0, po, co - 1, ln, wk, qs + 1, tr, upd ak po.toNatClampNeg 1, wy, xe, sg, u4)) else (xbind (FX4_remember go xe sg po r5 3) (fun u9 => if (tr (rd ((4 * po) + r5).toNatClampNeg).toNatClampNeg) = 0 then (xbind (FX5_take rd tt ml ln wk tr wy ((4 * po) + r5)) (fun u14 => (1, u14.1, co - 1, u14.2.1, u14.2.2.1, qs + 1, u14.2.2.2.1, upd ak po.toNatClampNeg 1, u14.2.2.2.2, u9.1, u9.2, u4))) else ((0, po, co - 1, ln, wk, qs + 1, tr, upd ak po.toNatClampNeg 1, wy, u9.1, u9.2, u4))))))) else ((0, po, co, ln, wk, qs, tr, ak, wy, xe, sg, fa)))
set_option maxHeartbeats 40000000 in
set_option maxRecDepth 100000 in
theorem metX5_asks (l : Launch) (G : xG) (sz : Nat) (aR : Nat) (rEx : Nat) (rRd : Nat) (rTo : Nat) (rMi : Nat) (rCl : Nat) (rSh : Nat) (rFa : Nat) (aS : Nat) (aH : Nat) (aO : Nat) (oTr : Nat) (oAk : Nat) (oWy : Nat) (oXe : Nat) (oSg : Nat) (th : Int32) (pl : Int32) (rs : Int32) (ex : Nat → Int32) (rd : Nat → Int32) (tt : Nat → Int32) (ml : Nat → Int32) (cz : Nat → Int32) (sh : Nat → Int32) (fa : Nat → Int32) (po : Int32) (co : Int32) (go : Int32) (ln : Int32) (wk : Int32) (db : Int32) (dn : Int32) (iv : Int32) (qs : Int32) (tr : Nat → Int32) (ak : Nat → Int32) (wy : Nat → Int32) (xe : Nat → Int32) (sg : Nat → Int32) (hpl : 0 ≤ pl.toInt ∧ pl.toInt ≤ 10) (hex4 : ∀ k, k < 10 → 0 ≤ (ex k).toInt ∧ (ex k).toInt ≤ 4) (hrd : ∀ k, k < 40 → 0 ≤ (rd k).toInt ∧ (rd k).toInt < 20) (htt : ∀ k, k < 40 → 0 ≤ (tt k).toInt ∧ (tt k).toInt < 10) (hln : 0 ≤ ln.toInt ∧ ln.toInt < 40) (hpo : 0 ≤ po.toInt ∧ po.toInt < 10) (hgo : 0 ≤ go.toInt ∧ go.toInt < 10) : xM l yX5_asks wsX5_asks ⟨2, 0, 0, 50⟩ G [.ref aR, .ref aO] [xO aR 5 [.int th, .int pl, .ref rEx, .ref rRd, .ref rTo, .int rs, .ref rMi, .ref rCl, .ref rSh, .ref rFa, .ref aS, .ref aH], xAI G rEx 10 ex, xAI G rRd 40 rd, xAI G rTo 40 tt, xAI G rMi 20 ml, xAZ G rCl 20 cz, xAZ G rSh 10 sh, xAI G rFa 10 fa, xO aO 4 [.int po, .int co, .int go, .ref oTr, .ref oAk, .ref oWy, .int ln, .ref oXe, .ref oSg, .int wk, .int db, .int dn, .int iv, .int qs], xAZ G oTr 20 tr, xAZ G oAk 10 ak, xAI G oWy 40 wy, xAI G oXe 100 xe, xAI G oSg 100 sg] sz (xQi G [xO aR 5 [.int th, .int pl, .ref rEx, .ref rRd, .ref rTo, .int rs, .ref rMi, .ref rCl, .ref rSh, .ref rFa, .ref aS, .ref aH], xAI G rEx 10 ex, xAI G rRd 40 rd, xAI G rTo 40 tt, xAI G rMi 20 ml, xAZ G rCl 20 cz, xAZ G rSh 10 sh, xAI G rFa 10 fa, xO aO 4 [.int po, .int co, .int go, .ref oTr, .ref oAk, .ref oWy, .int ln, .ref oXe, .ref oSg, .int wk, .int db, .int dn, .int iv, .int qs], xAZ G oTr 20 tr, xAZ G oAk 10 ak, xAI G oWy 40 wy, xAI G oXe 100 xe, xAI G oSg 100 sg] sz (fun (r : Int32) (u : (Int32) × (Int32) × (Int32) × (Int32) × (Int32) × (Nat → Int32) × (Nat → Int32) × (Nat → Int32) × (Nat → Int32) × (Nat → Int32) × (Nat → Int32)) => r = (FX5_asks pl ex rd tt ml cz sh fa po co go ln wk qs tr ak wy xe sg).1 ∧ u = (FX5_asks pl ex rd tt ml cz sh fa po co go ln wk qs tr ak wy xe sg).2) (fun u : (Int32) × (Int32) × (Int32) × (Int32) × (Int32) × (Nat → Int32) × (Nat → Int32) × (Nat → Int32) × (Nat → Int32) × (Nat → Int32) × (Nat → Int32) => [xO aR 5 [.int th, .int pl, .ref rEx, .ref rRd, .ref rTo, .int rs, .ref rMi, .ref rCl, .ref rSh, .ref rFa, .ref aS, .ref aH], xAI G rEx 10 ex, xAI G rRd 40 rd, xAI G rTo 40 tt, xAI G rMi 20 ml, xAZ G rCl 20 cz, xAZ G rSh 10 sh, xAI G rFa 10 u.2.2.2.2.2.2.2.2.2.2, xO aO 4 [.int u.1, .int u.2.1, .int go, .ref oTr, .ref oAk, .ref oWy, .int u.2.2.1, .ref oXe, .ref oSg, .int u.2.2.2.1, .int db, .int dn, .int iv, .int u.2.2.2.2.1], xAZ G oTr 20 u.2.2.2.2.2.1, xAZ G oAk 10 u.2.2.2.2.2.2.1, xAI G oWy 40 u.2.2.2.2.2.2.2.1, xAI G oXe 100 u.2.2.2.2.2.2.2.2.1, xAI G oSg 100 u.2.2.2.2.2.2.2.2.2.1])) := by
  refine xof (own := RX5) (cc := cX5_asks) (maxL := 4) (ret := (some .boolean)) rfl (by decide) rfl (Nat.le_of_ble_eq_true rfl) ?_
  intro pg en s mi below meth cd hc hnm hw ls hl
  obtain ⟨hx, hb, -, hown, hts, -⟩ := id hc
  have hl : lv_has ls 4 [(0, .ref aR), (1, .ref aO)] := hl
  refine lv_aload_n hx hb dX5_asks_0 rfl (lv_at hl 1 rfl) ?_
  refine xgetN (C := RX4) (T := TX4) (N := 14) hc hw inX5_asks_X4 8 rfl rfl 0 (by decide) nkX5_61 rfl rfl dX5_asks_1 ?_
  refine lv_istore_n (lv' := [(2, .int po), (0, .ref aR), (1, .ref aO)]) hx hb dX5_asks_4 rfl hl (by decide) rfl (fun ls hl => ?_)
  refine lv_aload_n hx hb dX5_asks_5 rfl (lv_at hl 1 rfl) ?_
  refine xget (C := RX5) (T := TX5) (N := 12) hc hw inX5_asks_X5 0 rfl rfl 8 (by decide) lkX5_asks_f26 rfl rfl dX5_asks_6 ?_
  refine lv_iload_n hx hb dX5_asks_9 rfl (lv_at hl 0 rfl) ?_
  refine xzald hc hw 6 rfl (xin hpo) dX5_asks_10 ?_
  refine lv_if_eq (tgt := 30) hx hb dX5_asks_11 (by decide) (fun c_1 => ?_) (fun c_1 => ?_)
  · refine lv_iconst (v := 0) hx hb dX5_asks_30 (by decide) ?_
    obtain ⟨u0, hu0⟩ : ∃ z : (Int32) × (Int32) × (Int32) × (Int32) × (Int32) × (Nat → Int32) × (Nat → Int32) × (Nat → Int32) × (Nat → Int32) × (Nat → Int32) × (Nat → Int32), z = (po, co, ln, wk, qs, tr, ak, wy, xe, sg, fa) := ⟨_, rfl⟩
    refine xret_z u0 hc ?_ rfl ?_ ⟨Nat.le_of_ble_eq_true rfl, Nat.le_of_ble_eq_true rfl⟩ dX5_asks_31
    · subst hu0; dsimp only; exact hw
    · subst hu0; exact xe2 (if_pos c_1)
  · refine lv_aload_n hx hb dX5_asks_14 rfl (lv_at hl 2 rfl) ?_
    refine xgetN (C := RX4) (T := TX4) (N := 14) hc hw inX5_asks_X4 8 rfl rfl 4 (by decide) nkX5_94 rfl rfl dX5_asks_15 ?_
    refine lv_iload_n hx hb dX5_asks_18 rfl (lv_at hl 0 rfl) ?_
    refine xzald hc hw 10 rfl (xin hpo) dX5_asks_19 ?_
    refine lv_if_ne (tgt := 30) hx hb dX5_asks_20 (by decide) (fun c_2 => ?_) (fun c_2 => ?_)
    · refine lv_iconst (v := 0) hx hb dX5_asks_30 (by decide) ?_
      obtain ⟨u0, hu0⟩ : ∃ z : (Int32) × (Int32) × (Int32) × (Int32) × (Int32) × (Nat → Int32) × (Nat → Int32) × (Nat → Int32) × (Nat → Int32) × (Nat → Int32) × (Nat → Int32), z = (po, co, ln, wk, qs, tr, ak, wy, xe, sg, fa) := ⟨_, rfl⟩
      refine xret_z u0 hc ?_ rfl ?_ ⟨Nat.le_of_ble_eq_true rfl, Nat.le_of_ble_eq_true rfl⟩ dX5_asks_31
      · subst hu0; dsimp only; exact hw
      · subst hu0; exact xe2 (Eq.trans (if_neg c_1) (if_neg c_2))
    · refine lv_aload_n hx hb dX5_asks_23 rfl (lv_at hl 2 rfl) ?_
      refine xgetN (C := RX4) (T := TX4) (N := 14) hc hw inX5_asks_X4 8 rfl rfl 1 (by decide) nkX5_97 rfl rfl dX5_asks_24 ?_
      refine lv_if_ne (tgt := 32) hx hb dX5_asks_27 (by decide) (fun c_3 => ?_) (fun c_3 => ?_)
      · refine lv_aload_n hx hb dX5_asks_32 rfl (lv_at hl 2 rfl) ?_
        refine lv_dup hx hb dX5_asks_33 rfl ?_
        refine xgetN (C := RX4) (T := TX4) (N := 14) hc hw inX5_asks_X4 8 rfl rfl 1 (by decide) nkX5_97 rfl rfl dX5_asks_34 ?_
        refine lv_iconst (v := 1) hx hb dX5_asks_37 (by decide) ?_
        refine lv_isub hx hb dX5_asks_38 ?_
        refine xputN (C := RX4) (T := TX4) (N := 14) (ty := .int) hc hw inX5_asks_X4 tyX4 tyX4_ok nmX4 8 [xO aR 5 [.int th, .int pl, .ref rEx, .ref rRd, .ref rTo, .int rs, .ref rMi, .ref rCl, .ref rSh, .ref rFa, .ref aS, .ref aH], xAI G rEx 10 ex, xAI G rRd 40 rd, xAI G rTo 40 tt, xAI G rMi 20 ml, xAZ G rCl 20 cz, xAZ G rSh 10 sh, xAI G rFa 10 fa, xO aO 4 [.int po, .int (co - 1), .int go, .ref oTr, .ref oAk, .ref oWy, .int ln, .ref oXe, .ref oSg, .int wk, .int db, .int dn, .int iv, .int qs], xAZ G oTr 20 tr, xAZ G oAk 10 ak, xAI G oWy 40 wy, xAI G oXe 100 xe, xAI G oSg 100 sg] rfl rfl 1 (by decide) nkX5_97 rfl rfl rfl rfl (Nat.le_of_ble_eq_true rfl) rfl dX5_asks_39 (fun H locs hw => ?_)
        refine lv_aload_n hx hb dX5_asks_42 rfl (lv_at hl 2 rfl) ?_
        refine xgetN (C := RX4) (T := TX4) (N := 14) hc hw inX5_asks_X4 8 rfl rfl 4 (by decide) nkX5_94 rfl rfl dX5_asks_43 ?_
        refine lv_iload_n hx hb dX5_asks_46 rfl (lv_at hl 0 rfl) ?_
        refine lv_iconst (v := 1) hx hb dX5_asks_47 (by decide) ?_
        refine xzast hc hw 10 [xO aR 5 [.int th, .int pl, .ref rEx, .ref rRd, .ref rTo, .int rs, .ref rMi, .ref rCl, .ref rSh, .ref rFa, .ref aS, .ref aH], xAI G rEx 10 ex, xAI G rRd 40 rd, xAI G rTo 40 tt, xAI G rMi 20 ml, xAZ G rCl 20 cz, xAZ G rSh 10 sh, xAI G rFa 10 fa, xO aO 4 [.int po, .int (co - 1), .int go, .ref oTr, .ref oAk, .ref oWy, .int ln, .ref oXe, .ref oSg, .int wk, .int db, .int dn, .int iv, .int qs], xAZ G oTr 20 tr, xAZ G oAk 10 (upd ak po.toNatClampNeg 1), xAI G oWy 40 wy, xAI G oXe 100 xe, xAI G oSg 100 sg] rfl (xin hpo) rfl rfl dX5_asks_48 (fun H locs hw => ?_)
        refine lv_aload_n hx hb dX5_asks_49 rfl (lv_at hl 2 rfl) ?_
        refine lv_dup hx hb dX5_asks_50 rfl ?_
        refine xgetN (C := RX4) (T := TX4) (N := 14) hc hw inX5_asks_X4 8 rfl rfl 13 (by decide) nkX5_100 rfl rfl dX5_asks_51 ?_
        refine lv_iconst (v := 1) hx hb dX5_asks_54 (by decide) ?_
        refine lv_iadd hx hb dX5_asks_55 ?_
        refine xputN (C := RX4) (T := TX4) (N := 14) (ty := .int) hc hw inX5_asks_X4 tyX4 tyX4_ok nmX4 8 [xO aR 5 [.int th, .int pl, .ref rEx, .ref rRd, .ref rTo, .int rs, .ref rMi, .ref rCl, .ref rSh, .ref rFa, .ref aS, .ref aH], xAI G rEx 10 ex, xAI G rRd 40 rd, xAI G rTo 40 tt, xAI G rMi 20 ml, xAZ G rCl 20 cz, xAZ G rSh 10 sh, xAI G rFa 10 fa, xO aO 4 [.int po, .int (co - 1), .int go, .ref oTr, .ref oAk, .ref oWy, .int ln, .ref oXe, .ref oSg, .int wk, .int db, .int dn, .int iv, .int (qs + 1)], xAZ G oTr 20 tr, xAZ G oAk 10 (upd ak po.toNatClampNeg 1), xAI G oWy 40 wy, xAI G oXe 100 xe, xAI G oSg 100 sg] rfl rfl 13 (by decide) nkX5_100 rfl rfl rfl rfl (Nat.le_of_ble_eq_true rfl) rfl dX5_asks_56 (fun H locs hw => ?_)
        refine lv_aload_n hx hb dX5_asks_59 rfl (lv_at hl 1 rfl) ?_
        refine lv_iload_n hx hb dX5_asks_60 rfl (lv_at hl 0 rfl) ?_
        refine lv_aload_n hx hb dX5_asks_61 rfl (lv_at hl 2 rfl) ?_
        refine xgetN (C := RX4) (T := TX4) (N := 14) hc hw inX5_asks_X4 8 rfl rfl 2 (by decide) nkX5_103 rfl rfl dX5_asks_62 ?_
        refine xcall_i (isC := [0, 1, 2, 3, 4, 5, 7]) hc hw (xrunV (n := 2) (As := [.int po, .int go]) (rest := []) hc hw [0, 1, 2, 3, 4, 5, 7] (metX5_toldExit l G _ aR rEx rRd rTo rMi rCl rSh rFa aS aH th pl rs ex rd tt ml cz fa po go hpl hex4 hrd htt hpo) gX5_asks_X5_toldExit rfl (by decide +kernel) ⟨Nat.le_of_ble_eq_true rfl, Nat.le_of_ble_eq_true rfl⟩ 0 rfl rfl rfl rfl rfl rfl hl.1 (Nat.le_of_ble_eq_true rfl) dX5_asks_65 ⟨Nat.le_of_ble_eq_true rfl, Nat.le_of_ble_eq_true rfl⟩) rfl [6, 8, 9, 10, 11, 12, 13] [7, 8, 9, 10, 11, 12, 0, 13, 1, 2, 3, 4, 5, 6] (fun u4 => [xO aR 5 [.int th, .int pl, .ref rEx, .ref rRd, .ref rTo, .int rs, .ref rMi, .ref rCl, .ref rSh, .ref rFa, .ref aS, .ref aH], xAI G rEx 10 ex, xAI G rRd 40 rd, xAI G rTo 40 tt, xAI G rMi 20 ml, xAZ G rCl 20 cz, xAZ G rSh 10 sh, xAI G rFa 10 u4, xO aO 4 [.int po, .int (co - 1), .int go, .ref oTr, .ref oAk, .ref oWy, .int ln, .ref oXe, .ref oSg, .int wk, .int db, .int dn, .int iv, .int (qs + 1)], xAZ G oTr 20 tr, xAZ G oAk 10 (upd ak po.toNatClampNeg 1), xAI G oWy 40 wy, xAI G oXe 100 xe, xAI G oSg 100 sg]) (fun _ => rfl) rfl rfl rfl rfl (fun r5 u4 H locs hp6 hw => ?_)
        refine lv_istore_n (lv' := [(3, .int r5), (2, .int po), (0, .ref aR), (1, .ref aO)]) hx hb dX5_asks_68 rfl hl (by decide) rfl (fun ls hl => ?_)
        refine lv_iload_n hx hb dX5_asks_69 rfl (lv_at hl 0 rfl) ?_
        refine lv_iconst (v := (-1)) hx hb dX5_asks_70 (by decide) ?_
        refine lv_icmp_ne (tgt := 76) hx hb dX5_asks_71 (by decide) (fun c_8 => ?_) (fun c_8 => ?_)
        · refine lv_aload_n hx hb dX5_asks_76 rfl (lv_at hl 3 rfl) ?_
          refine lv_iload_n hx hb dX5_asks_77 rfl (lv_at hl 1 rfl) ?_
          refine lv_iload_n hx hb dX5_asks_78 rfl (lv_at hl 0 rfl) ?_
          refine lv_iconst (v := 3) hx hb dX5_asks_79 (by decide) ?_
          refine xcall_v (isC := [8, 12, 13]) hc hw (xrunV (n := 3) (As := [.int po, .int r5, .int 3]) (rest := []) hc hw [8, 12, 13] (metX4_remember l G _ aO oTr oAk oWy oXe oSg po (co - 1) go ln wk db dn iv (qs + 1) xe sg po r5 3 hgo hpo) gX5_asks_X4_remember rfl (by decide +kernel) ⟨Nat.le_of_ble_eq_true rfl, Nat.le_of_ble_eq_true rfl⟩ 8 rfl rfl rfl rfl rfl rfl hl.1 (Nat.le_of_ble_eq_true rfl) dX5_asks_80 ⟨Nat.le_of_ble_eq_true rfl, Nat.le_of_ble_eq_true rfl⟩) rfl [0, 1, 2, 3, 4, 5, 6, 7, 9, 10, 11] [0, 1, 2, 3, 4, 5, 6, 7, 11, 8, 9, 10, 12, 13] (fun u9 => [xO aR 5 [.int th, .int pl, .ref rEx, .ref rRd, .ref rTo, .int rs, .ref rMi, .ref rCl, .ref rSh, .ref rFa, .ref aS, .ref aH], xAI G rEx 10 ex, xAI G rRd 40 rd, xAI G rTo 40 tt, xAI G rMi 20 ml, xAZ G rCl 20 cz, xAZ G rSh 10 sh, xAI G rFa 10 u4, xO aO 4 [.int po, .int (co - 1), .int go, .ref oTr, .ref oAk, .ref oWy, .int ln, .ref oXe, .ref oSg, .int wk, .int db, .int dn, .int iv, .int (qs + 1)], xAZ G oTr 20 tr, xAZ G oAk 10 (upd ak po.toNatClampNeg 1), xAI G oWy 40 wy, xAI G oXe 100 u9.1, xAI G oSg 100 u9.2]) (fun _ => rfl) rfl rfl rfl rfl (fun u9 H locs hp11 hw => ?_)
          refine lv_aload_n hx hb dX5_asks_83 rfl (lv_at hl 3 rfl) ?_
          refine xgetN (C := RX4) (T := TX4) (N := 14) hc hw inX5_asks_X4 8 rfl rfl 3 (by decide) nkX5_67 rfl rfl dX5_asks_84 ?_
          refine lv_aload_n hx hb dX5_asks_87 rfl (lv_at hl 2 rfl) ?_
          refine xget (C := RX5) (T := TX5) (N := 12) hc hw inX5_asks_X5 0 rfl rfl 3 (by decide) lkX5_asks_f13 rfl rfl dX5_asks_88 ?_
          refine lv_iconst (v := 4) hx hb dX5_asks_91 (by decide) ?_
          refine lv_iload_n hx hb dX5_asks_92 rfl (lv_at hl 1 rfl) ?_
          refine lv_imul hx hb dX5_asks_93 ?_
          refine lv_iload_n hx hb dX5_asks_94 rfl (lv_at hl 0 rfl) ?_
          refine lv_iadd hx hb dX5_asks_95 ?_
          refine xiald hc hw 2 rfl (xin (yq4in hpo (pX5_toldExit hex4 hpo hp6.1 c_8))) dX5_asks_96 ?_
          refine xzald hc hw 9 rfl (xin (hrd _ (xcl (yq4in hpo (pX5_toldExit hex4 hpo hp6.1 c_8))))) dX5_asks_97 ?_
          refine lv_if_eq (tgt := 103) hx hb dX5_asks_98 (by decide) (fun c_13 => ?_) (fun c_13 => ?_)
          · refine lv_aload_n hx hb dX5_asks_103 rfl (lv_at hl 2 rfl) ?_
            refine lv_aload_n hx hb dX5_asks_104 rfl (lv_at hl 3 rfl) ?_
            refine lv_iconst (v := 4) hx hb dX5_asks_105 (by decide) ?_
            refine lv_iload_n hx hb dX5_asks_106 rfl (lv_at hl 1 rfl) ?_
            refine lv_imul hx hb dX5_asks_107 ?_
            refine lv_iload_n hx hb dX5_asks_108 rfl (lv_at hl 0 rfl) ?_
            refine lv_iadd hx hb dX5_asks_109 ?_
            refine xcall_v (isC := [0, 2, 3, 4, 8, 9, 11]) hc hw (xrunV (n := 2) (As := [.ref aO, .int ((4 * po) + r5)]) (rest := []) hc hw [0, 2, 3, 4, 8, 9, 11] (metX5_take l G _ aR rEx rRd rTo rMi rCl rSh rFa aS aH aO oTr oAk oWy oXe oSg th pl rs rd tt ml po (co - 1) go ln wk db dn iv (qs + 1) tr wy ((4 * po) + r5) hrd (yq4in hpo (pX5_toldExit hex4 hpo hp6.1 c_8)) hln) gX5_asks_X5_take rfl (by decide +kernel) ⟨Nat.le_of_ble_eq_true rfl, Nat.le_of_ble_eq_true rfl⟩ 0 rfl rfl rfl rfl rfl rfl hl.1 (Nat.le_of_ble_eq_true rfl) dX5_asks_110 ⟨Nat.le_of_ble_eq_true rfl, Nat.le_of_ble_eq_true rfl⟩) rfl [1, 5, 6, 7, 10, 12, 13] [7, 0, 8, 9, 10, 1, 2, 3, 11, 12, 4, 13, 5, 6] (fun u14 => [xO aR 5 [.int th, .int pl, .ref rEx, .ref rRd, .ref rTo, .int rs, .ref rMi, .ref rCl, .ref rSh, .ref rFa, .ref aS, .ref aH], xAI G rEx 10 ex, xAI G rRd 40 rd, xAI G rTo 40 tt, xAI G rMi 20 ml, xAZ G rCl 20 cz, xAZ G rSh 10 sh, xAI G rFa 10 u4, xO aO 4 [.int u14.1, .int (co - 1), .int go, .ref oTr, .ref oAk, .ref oWy, .int u14.2.1, .ref oXe, .ref oSg, .int u14.2.2.1, .int db, .int dn, .int iv, .int (qs + 1)], xAZ G oTr 20 u14.2.2.2.1, xAZ G oAk 10 (upd ak po.toNatClampNeg 1), xAI G oWy 40 u14.2.2.2.2, xAI G oXe 100 u9.1, xAI G oSg 100 u9.2]) (fun _ => rfl) rfl rfl rfl rfl (fun u14 H locs hp16 hw => ?_)
            refine lv_iconst (v := 1) hx hb dX5_asks_113 (by decide) ?_
            obtain ⟨u0, hu0⟩ : ∃ z : (Int32) × (Int32) × (Int32) × (Int32) × (Int32) × (Nat → Int32) × (Nat → Int32) × (Nat → Int32) × (Nat → Int32) × (Nat → Int32) × (Nat → Int32), z = (u14.1, co - 1, u14.2.1, u14.2.2.1, qs + 1, u14.2.2.2.1, upd ak po.toNatClampNeg 1, u14.2.2.2.2, u9.1, u9.2, u4) := ⟨_, rfl⟩
            refine xret_z u0 hc ?_ rfl ?_ ⟨Nat.le_of_ble_eq_true rfl, Nat.le_of_ble_eq_true rfl⟩ dX5_asks_114
            · subst hu0; dsimp only; exact hw
            · subst hu0; exact xe2 (Eq.trans (if_neg c_1) (Eq.trans (if_pos c_2) (Eq.trans (if_neg c_3) (xb2 hp6 (Eq.trans (if_neg c_8) (xb hp11 (Eq.trans (if_pos c_13) (xb hp16 rfl))))))))
          · refine lv_iconst (v := 0) hx hb dX5_asks_101 (by decide) ?_
            obtain ⟨u0, hu0⟩ : ∃ z : (Int32) × (Int32) × (Int32) × (Int32) × (Int32) × (Nat → Int32) × (Nat → Int32) × (Nat → Int32) × (Nat → Int32) × (Nat → Int32) × (Nat → Int32), z = (po, co - 1, ln, wk, qs + 1, tr, upd ak po.toNatClampNeg 1, wy, u9.1, u9.2, u4) := ⟨_, rfl⟩
            refine xret_z u0 hc ?_ rfl ?_ ⟨Nat.le_of_ble_eq_true rfl, Nat.le_of_ble_eq_true rfl⟩ dX5_asks_102
            · subst hu0; dsimp only; exact hw
            · subst hu0; exact xe2 (Eq.trans (if_neg c_1) (Eq.trans (if_pos c_2) (Eq.trans (if_neg c_3) (xb2 hp6 (Eq.trans (if_neg c_8) (xb hp11 (if_neg c_13)))))))
        · refine lv_iconst (v := 0) hx hb dX5_asks_74 (by decide) ?_
          obtain ⟨u0, hu0⟩ : ∃ z : (Int32) × (Int32) × (Int32) × (Int32) × (Int32) × (Nat → Int32) × (Nat → Int32) × (Nat → Int32) × (Nat → Int32) × (Nat → Int32) × (Nat → Int32), z = (po, co - 1, ln, wk, qs + 1, tr, upd ak po.toNatClampNeg 1, wy, xe, sg, u4) := ⟨_, rfl⟩
          refine xret_z u0 hc ?_ rfl ?_ ⟨Nat.le_of_ble_eq_true rfl, Nat.le_of_ble_eq_true rfl⟩ dX5_asks_75
          · subst hu0; dsimp only; exact hw
          · subst hu0; exact xe2 (Eq.trans (if_neg c_1) (Eq.trans (if_pos c_2) (Eq.trans (if_neg c_3) (xb2 hp6 (if_pos c_8)))))
      · refine lv_iconst (v := 0) hx hb dX5_asks_30 (by decide) ?_
        obtain ⟨u0, hu0⟩ : ∃ z : (Int32) × (Int32) × (Int32) × (Int32) × (Int32) × (Nat → Int32) × (Nat → Int32) × (Nat → Int32) × (Nat → Int32) × (Nat → Int32) × (Nat → Int32), z = (po, co, ln, wk, qs, tr, ak, wy, xe, sg, fa) := ⟨_, rfl⟩
        refine xret_z u0 hc ?_ rfl ?_ ⟨Nat.le_of_ble_eq_true rfl, Nat.le_of_ble_eq_true rfl⟩ dX5_asks_31
        · subst hu0; dsimp only; exact hw
        · subst hu0; exact xe2 (Eq.trans (if_neg c_1) (Eq.trans (if_pos c_2) (if_pos c_3)))
def LX5_learn_t (go : Int32) (ln : Int32) (wy : Nat → Int32) : Nat → Nat → (Nat → Int32) → (Nat → Int32) → (Nat → Int32) × (Nat → Int32)
  | 0, i, xe, sg => (xe, sg)
  | n + 1, i, xe, sg =>
    if ln ≤ (nI i) then ((xe, sg)) else (xbind (FX4_remembered go xe ((wy (nI i).toNatClampNeg) / 4)) (fun r3 => if r3 = ((wy (nI i).toNatClampNeg) - (wy (nI i).toNatClampNeg) / 4 * 4) then (xbind (FX4_remember go xe sg ((wy (nI i).toNatClampNeg) / 4) ((wy (nI i).toNatClampNeg) - (wy (nI i).toNatClampNeg) / 4 * 4) (if (sg ((10 * go) + ((wy (nI i).toNatClampNeg) / 4)).toNatClampNeg) + 3 < 9 then (sg ((10 * go) + ((wy (nI i).toNatClampNeg) / 4)).toNatClampNeg) + 3 else 9)) (fun u11 => LX5_learn_t go ln wy n (i + 1) u11.1 u11.2)) else (xbind (FX4_remember go xe sg ((wy (nI i).toNatClampNeg) / 4) ((wy (nI i).toNatClampNeg) - (wy (nI i).toNatClampNeg) / 4 * 4) 3) (fun u7 => LX5_learn_t go ln wy n (i + 1) u7.1 u7.2))))
set_option maxHeartbeats 40000000 in
set_option maxRecDepth 100000 in
theorem lpX5_learn_t {pg : Program} {l : Launch} {en : Env} {s : State} {mi : MethodId} {args : Array Value} {below : List Frame} {meth : Method} {cd : Code} {A : Nat → Prop} {Q : State → Prop} (G : xG) (hc : xC pg s mi args meth cd cX5_learn 6 RX5 wsX5_learn none G A) (aR : Nat) (rEx : Nat) (rRd : Nat) (rTo : Nat) (rMi : Nat) (rCl : Nat) (rSh : Nat) (rFa : Nat) (aS : Nat) (aH : Nat) (aO : Nat) (oTr : Nat) (oAk : Nat) (oWy : Nat) (oXe : Nat) (oSg : Nat) (th : Int32) (pl : Int32) (rs : Int32) (po : Int32) (co : Int32) (go : Int32) (ln : Int32) (wk : Int32) (db : Int32) (dn : Int32) (iv : Int32) (qs : Int32) (wy : Nat → Int32) (hlm : 0 ≤ ln.toInt ∧ ln.toInt ≤ 40) (hwy : ∀ k, k < 40 → 0 ≤ (wy k).toInt ∧ (wy k).toInt < 40) (hgo : 0 ≤ go.toInt ∧ go.toInt < 10) :
    ∀ (n i : Nat) (xe : Nat → Int32) (sg : Nat → Int32), ((i : Nat) : Int) ≤ (ln : Int32).toInt → (ln : Int32).toInt < ((i + n : Nat) : Int) → ∀ (H : Heap) (locs : List Loc) (ls : Array Slot), xW G A s.heap [xO aR 5 [.int th, .int pl, .ref rEx, .ref rRd, .ref rTo, .int rs, .ref rMi, .ref rCl, .ref rSh, .ref rFa, .ref aS, .ref aH], xO aO 4 [.int po, .int co, .int go, .ref oTr, .ref oAk, .ref oWy, .int ln, .ref oXe, .ref oSg, .int wk, .int db, .int dn, .int iv, .int qs], xAI G oWy 40 wy, xAI G oXe 100 xe, xAI G oSg 100 sg] H locs → lv_has ls 6 [(0, .ref aR), (1, .ref aO), (2, .int (nI i))] → (∀ (z : (Nat → Int32) × (Nat → Int32)), z = LX5_learn_t go ln wy n i xe sg → ∀ (H1 : Heap) (locs1 : List Loc) (ls1 : Array Slot), xW G A s.heap [xO aR 5 [.int th, .int pl, .ref rEx, .ref rRd, .ref rTo, .int rs, .ref rMi, .ref rCl, .ref rSh, .ref rFa, .ref aS, .ref aH], xO aO 4 [.int po, .int co, .int go, .ref oTr, .ref oAk, .ref oWy, .int ln, .ref oXe, .ref oSg, .int wk, .int db, .int dn, .int iv, .int qs], xAI G oWy 40 wy, xAI G oXe 100 z.1, xAI G oSg 100 z.2] H1 locs1 → lv_has ls1 6 [(0, .ref aR), (1, .ref aO)] → W pg l en ⟨1, 0, 0, 23⟩ s mi args below meth cd H1 locs1 0 0 Q (F0 mi 89 ls1 [])) → W pg l en ⟨1, 0, 0, 23⟩ s mi args below meth cd H locs 0 0 Q (F0 mi 2 ls []) := by
  obtain ⟨hx, hb, -, hown, hts, -⟩ := id hc
  intro n
  induction n with
  | zero =>
    intro i xe sg hlo hfu
    intros; exact absurd hfu (by omega)
  | succ n ih =>
    intro i xe sg hlo hfu  H locs ls hw hl K
    refine lv_iload_n hx hb dX5_learn_2 rfl (lv_at hl 2 rfl) ?_
    refine lv_aload_n hx hb dX5_learn_3 rfl (lv_at hl 1 rfl) ?_
    refine xgetN (C := RX4) (T := TX4) (N := 14) hc hw inX5_learn_X4 1 rfl rfl 6 (by decide) nkX5_84 rfl rfl dX5_learn_4 ?_
    refine lv_icmp_ge (tgt := 89) hx hb dX5_learn_7 (by decide) (fun c_1 => ?_) (fun c_1 => ?_)
    · exact K (xe, sg) (Eq.symm (if_pos c_1)) H locs ls (by first | (dsimp only; exact hw) | exact hw) (by first | exact lv_sub hl [0, 1] rfl | (dsimp only; exact lv_sub hl [0, 1] rfl))
    · refine lv_aload_n hx hb dX5_learn_10 rfl (lv_at hl 1 rfl) ?_
      refine xgetN (C := RX4) (T := TX4) (N := 14) hc hw inX5_learn_X4 1 rfl rfl 5 (by decide) nkX5_81 rfl rfl dX5_learn_11 ?_
      refine lv_iload_n hx hb dX5_learn_14 rfl (lv_at hl 2 rfl) ?_
      refine xiald hc hw 2 rfl (xinB hlo c_1 hlm.2) dX5_learn_15 ?_
      refine lv_iconst (v := 4) hx hb dX5_learn_16 (by decide) ?_
      refine lv_idiv hx hb dX5_learn_17 (by decide) ?_
      refine lv_istore_n (lv' := [(3, .int ((wy (nI i).toNatClampNeg) / 4)), (0, .ref aR), (1, .ref aO), (2, .int (nI i))]) hx hb dX5_learn_18 rfl hl (by decide) rfl (fun ls hl => ?_)
      refine lv_aload_n hx hb dX5_learn_19 rfl (lv_at hl 2 rfl) ?_
      refine xgetN (C := RX4) (T := TX4) (N := 14) hc hw inX5_learn_X4 1 rfl rfl 5 (by decide) nkX5_81 rfl rfl dX5_learn_20 ?_
      refine lv_iload_n hx hb dX5_learn_23 rfl (lv_at hl 3 rfl) ?_
      refine xiald hc hw 2 rfl (xinB hlo c_1 hlm.2) dX5_learn_24 ?_
      refine lv_iconst (v := 4) hx hb dX5_learn_25 (by decide) ?_
      refine lv_irem hx hb dX5_learn_26 (by decide) ?_
      refine lv_istore (lv' := [(4, .int ((wy (nI i).toNatClampNeg) - (wy (nI i).toNatClampNeg) / 4 * 4)), (3, .int ((wy (nI i).toNatClampNeg) / 4)), (0, .ref aR), (1, .ref aO), (2, .int (nI i))]) hx hb dX5_learn_27 hl (by decide) rfl (fun ls hl => ?_)
      refine lv_aload_n hx hb dX5_learn_29 rfl (lv_at hl 3 rfl) ?_
      refine lv_iload_n hx hb dX5_learn_30 rfl (lv_at hl 1 rfl) ?_
      refine xcall_i (isC := [1, 3]) hc hw (xrunV (n := 1) (As := [.int ((wy (nI i).toNatClampNeg) / 4)]) (rest := []) hc hw [1, 3] (metX4_remembered l G _ aO oTr oAk oWy oXe oSg po co go ln wk db dn iv qs xe ((wy (nI i).toNatClampNeg) / 4) hgo (yd4in (hwy _ (xcl (xnIB hlo c_1 hlm.2))))) gX5_learn_X4_remembered rfl (by decide +kernel) ⟨Nat.le_of_ble_eq_true rfl, Nat.le_of_ble_eq_true rfl⟩ 1 rfl rfl rfl rfl rfl rfl hl.1 (Nat.le_of_ble_eq_true rfl) dX5_learn_31 ⟨Nat.le_of_ble_eq_true rfl, Nat.le_of_ble_eq_true rfl⟩) rfl [0, 2, 4] [0, 3, 1, 4, 2] (fun u2 => [xO aR 5 [.int th, .int pl, .ref rEx, .ref rRd, .ref rTo, .int rs, .ref rMi, .ref rCl, .ref rSh, .ref rFa, .ref aS, .ref aH], xO aO 4 [.int po, .int co, .int go, .ref oTr, .ref oAk, .ref oWy, .int ln, .ref oXe, .ref oSg, .int wk, .int db, .int dn, .int iv, .int qs], xAI G oWy 40 wy, xAI G oXe 100 xe, xAI G oSg 100 sg]) (fun _ => rfl) rfl rfl rfl rfl (fun r3 u2 H locs hp4 hw => ?_)
      refine lv_iload hx hb dX5_learn_34 (lv_at hl 0 rfl) ?_
      refine lv_icmp_ne (tgt := 43) hx hb dX5_learn_36 (by decide) (fun c_6 => ?_) (fun c_6 => ?_)
      · refine lv_iconst (v := 0) hx hb dX5_learn_43 (by decide) ?_
        refine lv_istore (lv' := [(5, .int 0), (4, .int ((wy (nI i).toNatClampNeg) - (wy (nI i).toNatClampNeg) / 4 * 4)), (3, .int ((wy (nI i).toNatClampNeg) / 4)), (0, .ref aR), (1, .ref aO), (2, .int (nI i))]) hx hb dX5_learn_44 hl (by decide) rfl (fun ls hl => ?_)
        refine lv_aload_n hx hb dX5_learn_46 rfl (lv_at hl 4 rfl) ?_
        refine lv_iload_n hx hb dX5_learn_47 rfl (lv_at hl 2 rfl) ?_
        refine lv_iload hx hb dX5_learn_48 (lv_at hl 1 rfl) ?_
        refine lv_iload hx hb dX5_learn_50 (lv_at hl 0 rfl) ?_
        refine lv_if_eq (tgt := 79) hx hb dX5_learn_52 (by decide) (fun _ => ?_) (fun h => absurd h (by decide))
        refine lv_iconst (v := 3) hx hb dX5_learn_79 (by decide) ?_
        refine xcall_v (isC := [1, 3, 4]) hc hw (xrunV (n := 3) (As := [.int ((wy (nI i).toNatClampNeg) / 4), .int ((wy (nI i).toNatClampNeg) - (wy (nI i).toNatClampNeg) / 4 * 4), .int 3]) (rest := []) hc hw [1, 3, 4] (metX4_remember l G _ aO oTr oAk oWy oXe oSg po co go ln wk db dn iv qs xe sg ((wy (nI i).toNatClampNeg) / 4) ((wy (nI i).toNatClampNeg) - (wy (nI i).toNatClampNeg) / 4 * 4) 3 hgo (yd4in (hwy _ (xcl (xnIB hlo c_1 hlm.2))))) gX5_learn_X4_remember rfl (by decide +kernel) ⟨Nat.le_of_ble_eq_true rfl, Nat.le_of_ble_eq_true rfl⟩ 1 rfl rfl rfl rfl rfl rfl hl.1 (Nat.le_of_ble_eq_true rfl) dX5_learn_80 ⟨Nat.le_of_ble_eq_true rfl, Nat.le_of_ble_eq_true rfl⟩) rfl [0, 2] [0, 2, 1, 3, 4] (fun u7 => [xO aR 5 [.int th, .int pl, .ref rEx, .ref rRd, .ref rTo, .int rs, .ref rMi, .ref rCl, .ref rSh, .ref rFa, .ref aS, .ref aH], xO aO 4 [.int po, .int co, .int go, .ref oTr, .ref oAk, .ref oWy, .int ln, .ref oXe, .ref oSg, .int wk, .int db, .int dn, .int iv, .int qs], xAI G oWy 40 wy, xAI G oXe 100 u7.1, xAI G oSg 100 u7.2]) (fun _ => rfl) rfl rfl rfl rfl (fun u7 H locs hp9 hw => ?_)
        refine lv_iinc (v := nI (i + 1)) (lv' := [(2, .int (nI (i + 1))), (5, .int 0), (4, .int ((wy (nI i).toNatClampNeg) - (wy (nI i).toNatClampNeg) / 4 * 4)), (3, .int ((wy (nI i).toNatClampNeg) / 4)), (0, .ref aR), (1, .ref aO)]) hx hb dX5_learn_83 hl (k := 5) rfl (nI_1 _) (by decide) rfl (fun ls hl => ?_)
        refine lv_goto (tgt := 2) hx hb dX5_learn_86 (by decide) ?_
        exact ih (i + 1) u7.1 u7.2 (xlt hlo c_1) (by omega) H locs ls hw (lv_sub hl [4, 5, 0] rfl) (fun z e => K z (xtr1 (Eq.trans (if_neg c_1) (xb hp4 (Eq.trans (if_neg c_6) (xb hp9 rfl)))) e))
      · refine lv_iconst (v := 1) hx hb dX5_learn_39 (by decide) ?_
        refine lv_goto (tgt := 44) hx hb dX5_learn_40 (by decide) ?_
        refine lv_istore (lv' := [(5, .int 1), (4, .int ((wy (nI i).toNatClampNeg) - (wy (nI i).toNatClampNeg) / 4 * 4)), (3, .int ((wy (nI i).toNatClampNeg) / 4)), (0, .ref aR), (1, .ref aO), (2, .int (nI i))]) hx hb dX5_learn_44 hl (by decide) rfl (fun ls hl => ?_)
        refine lv_aload_n hx hb dX5_learn_46 rfl (lv_at hl 4 rfl) ?_
        refine lv_iload_n hx hb dX5_learn_47 rfl (lv_at hl 2 rfl) ?_
        refine lv_iload hx hb dX5_learn_48 (lv_at hl 1 rfl) ?_
        refine lv_iload hx hb dX5_learn_50 (lv_at hl 0 rfl) ?_
        refine lv_if_eq (tgt := 79) hx hb dX5_learn_52 (by decide) (fun h => absurd h (by decide)) (fun _ => ?_)
        refine lv_bipush (v := 9) hx hb dX5_learn_55 (by decide) ?_
        refine lv_aload_n hx hb dX5_learn_57 rfl (lv_at hl 4 rfl) ?_
        refine xgetN (C := RX4) (T := TX4) (N := 14) hc hw inX5_learn_X4 1 rfl rfl 8 (by decide) nkX5_128 rfl rfl dX5_learn_58 ?_
        refine lv_bipush (v := 10) hx hb dX5_learn_61 (by decide) ?_
        refine lv_aload_n hx hb dX5_learn_63 rfl (lv_at hl 4 rfl) ?_
        refine xgetN (C := RX4) (T := TX4) (N := 14) hc hw inX5_learn_X4 1 rfl rfl 2 (by decide) nkX5_103 rfl rfl dX5_learn_64 ?_
        refine lv_imul hx hb dX5_learn_67 ?_
        refine lv_iload_n hx hb dX5_learn_68 rfl (lv_at hl 2 rfl) ?_
        refine lv_iadd hx hb dX5_learn_69 ?_
        refine xiald hc hw 4 rfl (xin (ym10in hgo (yd4in (hwy _ (xcl (xnIB hlo c_1 hlm.2)))))) dX5_learn_70 ?_
        refine lv_iconst (v := 3) hx hb dX5_learn_71 (by decide) ?_
        refine lv_iadd hx hb dX5_learn_72 ?_
        refine va_mmin hx hb (hc.2.2.1.trans hl.1.symm) hown (hts _ lkX5_learn_m131) (hts _ lkX5_learn_msmin) (hts _ lkX5_learn_mi) (hts _ lkX5_learn_mcmin) (Nat.le_of_ble_eq_true rfl) (Nat.le_of_ble_eq_true rfl) (Nat.le_of_ble_eq_true rfl) (Nat.le_of_ble_eq_true rfl) dX5_learn_73 ?_
        refine lv_goto (tgt := 80) hx hb dX5_learn_76 (by decide) ?_
        refine xcall_v (isC := [1, 3, 4]) hc hw (xrunV (n := 3) (As := [.int ((wy (nI i).toNatClampNeg) / 4), .int ((wy (nI i).toNatClampNeg) - (wy (nI i).toNatClampNeg) / 4 * 4), .int (if (sg ((10 * go) + ((wy (nI i).toNatClampNeg) / 4)).toNatClampNeg) + 3 < 9 then (sg ((10 * go) + ((wy (nI i).toNatClampNeg) / 4)).toNatClampNeg) + 3 else 9)]) (rest := []) hc hw [1, 3, 4] (metX4_remember l G _ aO oTr oAk oWy oXe oSg po co go ln wk db dn iv qs xe sg ((wy (nI i).toNatClampNeg) / 4) ((wy (nI i).toNatClampNeg) - (wy (nI i).toNatClampNeg) / 4 * 4) (if (sg ((10 * go) + ((wy (nI i).toNatClampNeg) / 4)).toNatClampNeg) + 3 < 9 then (sg ((10 * go) + ((wy (nI i).toNatClampNeg) / 4)).toNatClampNeg) + 3 else 9) hgo (yd4in (hwy _ (xcl (xnIB hlo c_1 hlm.2))))) gX5_learn_X4_remember rfl (by decide +kernel) ⟨Nat.le_of_ble_eq_true rfl, Nat.le_of_ble_eq_true rfl⟩ 1 rfl rfl rfl rfl rfl rfl hl.1 (Nat.le_of_ble_eq_true rfl) dX5_learn_80 ⟨Nat.le_of_ble_eq_true rfl, Nat.le_of_ble_eq_true rfl⟩) rfl [0, 2] [0, 2, 1, 3, 4] (fun u11 => [xO aR 5 [.int th, .int pl, .ref rEx, .ref rRd, .ref rTo, .int rs, .ref rMi, .ref rCl, .ref rSh, .ref rFa, .ref aS, .ref aH], xO aO 4 [.int po, .int co, .int go, .ref oTr, .ref oAk, .ref oWy, .int ln, .ref oXe, .ref oSg, .int wk, .int db, .int dn, .int iv, .int qs], xAI G oWy 40 wy, xAI G oXe 100 u11.1, xAI G oSg 100 u11.2]) (fun _ => rfl) rfl rfl rfl rfl (fun u11 H locs hp13 hw => ?_)
        refine lv_iinc (v := nI (i + 1)) (lv' := [(2, .int (nI (i + 1))), (5, .int 1), (4, .int ((wy (nI i).toNatClampNeg) - (wy (nI i).toNatClampNeg) / 4 * 4)), (3, .int ((wy (nI i).toNatClampNeg) / 4)), (0, .ref aR), (1, .ref aO)]) hx hb dX5_learn_83 hl (k := 5) rfl (nI_1 _) (by decide) rfl (fun ls hl => ?_)
        refine lv_goto (tgt := 2) hx hb dX5_learn_86 (by decide) ?_
        exact ih (i + 1) u11.1 u11.2 (xlt hlo c_1) (by omega) H locs ls hw (lv_sub hl [4, 5, 0] rfl) (fun z e => K z (xtr1 (Eq.trans (if_neg c_1) (xb hp4 (Eq.trans (if_pos c_6) (xb hp13 rfl)))) e))
def FX5_learn (go : Int32) (ln : Int32) (wy : Nat → Int32) (xe : Nat → Int32) (sg : Nat → Int32) : (Nat → Int32) × (Nat → Int32) :=
  xbind (LX5_learn_t go ln wy 41 0 xe sg) (fun z15 => (z15.1, z15.2))
set_option maxHeartbeats 40000000 in
set_option maxRecDepth 100000 in
theorem metX5_learn (l : Launch) (G : xG) (sz : Nat) (aR : Nat) (rEx : Nat) (rRd : Nat) (rTo : Nat) (rMi : Nat) (rCl : Nat) (rSh : Nat) (rFa : Nat) (aS : Nat) (aH : Nat) (aO : Nat) (oTr : Nat) (oAk : Nat) (oWy : Nat) (oXe : Nat) (oSg : Nat) (th : Int32) (pl : Int32) (rs : Int32) (po : Int32) (co : Int32) (go : Int32) (ln : Int32) (wk : Int32) (db : Int32) (dn : Int32) (iv : Int32) (qs : Int32) (wy : Nat → Int32) (xe : Nat → Int32) (sg : Nat → Int32) (hlm : 0 ≤ ln.toInt ∧ ln.toInt ≤ 40) (hwy : ∀ k, k < 40 → 0 ≤ (wy k).toInt ∧ (wy k).toInt < 40) (hgo : 0 ≤ go.toInt ∧ go.toInt < 10) : xM l yX5_learn wsX5_learn ⟨1, 0, 0, 23⟩ G [.ref aR, .ref aO] [xO aR 5 [.int th, .int pl, .ref rEx, .ref rRd, .ref rTo, .int rs, .ref rMi, .ref rCl, .ref rSh, .ref rFa, .ref aS, .ref aH], xO aO 4 [.int po, .int co, .int go, .ref oTr, .ref oAk, .ref oWy, .int ln, .ref oXe, .ref oSg, .int wk, .int db, .int dn, .int iv, .int qs], xAI G oWy 40 wy, xAI G oXe 100 xe, xAI G oSg 100 sg] sz (xQv G [xO aR 5 [.int th, .int pl, .ref rEx, .ref rRd, .ref rTo, .int rs, .ref rMi, .ref rCl, .ref rSh, .ref rFa, .ref aS, .ref aH], xO aO 4 [.int po, .int co, .int go, .ref oTr, .ref oAk, .ref oWy, .int ln, .ref oXe, .ref oSg, .int wk, .int db, .int dn, .int iv, .int qs], xAI G oWy 40 wy, xAI G oXe 100 xe, xAI G oSg 100 sg] sz (fun (u : (Nat → Int32) × (Nat → Int32)) => u = FX5_learn go ln wy xe sg) (fun u : (Nat → Int32) × (Nat → Int32) => [xO aR 5 [.int th, .int pl, .ref rEx, .ref rRd, .ref rTo, .int rs, .ref rMi, .ref rCl, .ref rSh, .ref rFa, .ref aS, .ref aH], xO aO 4 [.int po, .int co, .int go, .ref oTr, .ref oAk, .ref oWy, .int ln, .ref oXe, .ref oSg, .int wk, .int db, .int dn, .int iv, .int qs], xAI G oWy 40 wy, xAI G oXe 100 u.1, xAI G oSg 100 u.2])) := by
  refine xof (own := RX5) (cc := cX5_learn) (maxL := 6) (ret := none) rfl (by decide) rfl (Nat.le_of_ble_eq_true rfl) ?_
  intro pg en s mi below meth cd hc hnm hw ls hl
  obtain ⟨hx, hb, -, hown, hts, -⟩ := id hc
  have hl : lv_has ls 6 [(0, .ref aR), (1, .ref aO)] := hl
  refine lv_iconst (v := 0) hx hb dX5_learn_0 (by decide) ?_
  refine lv_istore_n (lv' := [(2, .int 0), (0, .ref aR), (1, .ref aO)]) hx hb dX5_learn_1 rfl hl (by decide) rfl (fun ls hl => ?_)
  refine lpX5_learn_t G hc aR rEx rRd rTo rMi rCl rSh rFa aS aH aO oTr oAk oWy oXe oSg th pl rs po co go ln wk db dn iv qs wy hlm hwy hgo 41 0 xe sg (hlm.1) (by have := hlm.2; omega) _ _ _ hw (lv_sub hl [1, 2, 0] rfl) (fun z15 ek16 H locs ls hw hl => ?_)
  obtain ⟨u0, hu0⟩ : ∃ z : (Nat → Int32) × (Nat → Int32), z = (z15.1, z15.2) := ⟨_, rfl⟩
  refine xret_v u0 hc ?_ ?_ ⟨Nat.le_of_ble_eq_true rfl, Nat.le_of_ble_eq_true rfl⟩ dX5_learn_89
  · subst hu0; dsimp only; exact hw
  · subst hu0; exact Eq.symm (xb ek16 rfl)
