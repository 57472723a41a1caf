set_option maxHeartbeats 40000000 in
set_option maxRecDepth 100000 in
theorem lwc_20 {p : Program} {l : Launch} {e : Env} {S : State} {m : MethodId} {args : Array Value} {below : List Frame} {meth : Method} {c : Code} {Q : State → Prop} {G : xG} {A : Nat → Prop} (hst : l.stackTraces = false) (hc : xC p S m args meth c cL_law 9 RL wsL_law (some .boolean) G A) {b L : Nat} {xs : Nat → Int32} (hX : va_X b L xs S S.heap) (hbl : b < S.heap.size) (hbA : ¬ A b) (hL : L ≤ 2048) {aX aL aC aT aEx aSh aLd aTw aLe aOp aFa aM aWy aTr aAk aMx aMs aN bWy bTr bAk aNx aNs aR rEx rRd rTo rMi rCl rSh rFa aS aH sTr sAk sWy sXe sSg vTr vAk vWy vXe vSg aB : Nat} {i : Nat} (hi : i + 4 ≤ L) (ih : zGo p l e S m args below meth c Q G A b aX aL aC aT aEx aSh aLd aTw aLe aOp aFa aM aWy aTr aAk aMx aMs aN bWy bTr bAk aNx aNs aR rEx rRd rTo rMi rCl rSh rFa aS aH sTr sAk sWy sXe sSg vTr vAk vWy vXe vSg aB (i + 4) 23) : zGo p l e S m args below meth c Q G A b aX aL aC aT aEx aSh aLd aTw aLe aOp aFa aM aWy aTr aAk aMx aMs aN bWy bTr bAk aNx aNs aR rEx rRd rTo rMi rCl rSh rFa aS aH sTr sAk sWy sXe sSg vTr vAk vWy vXe vSg aB i 1177 := by
  unfold zGo at ih ⊢
  intro th pl rs po pq co go wl gu wk db dn iv qs tpo tco tgo twl tgu twk tdb tdn tiv tqs vpo vco vgo vln vwk vdb vdn viv vqs ex sh ld tw le op fa rd ml cz fb wy tr ak mx ms ur uk uy xe sg twy ttr tak tmx tms vtr vak vwy vxe vsg ot hI H locs ls hw hl
  obtain ⟨hx, hb, -, hown, hts, -⟩ := id hc
  have hN : i < 1000000 := by omega
  have hpl := hI.1.1
  have hex4 := hI.1.2.1
  have hld := hI.1.2.2.2.1
  have htt := hI.1.2.2.2.1
  have htw := hI.1.2.2.2.2.1
  have hrs := hI.1.2.2.2.2.2.2.1
  have hrd := hI.1.2.2.2.2.2.2.2.1
  have hsh := hI.2.1
  have hwl := zI_wl hI
  have htr := (zI_B hI).1
  have hak := (zI_B hI).2.1
  have hxe := zI_X hI
  have hky := zI_K hI
  have hkg := zI_Kg hI
  have hpw := zI_pw hI
  obtain ⟨k0, b0, ot2, e1, e2, e3⟩ := zo_isTried hI (xs (nI i + 1).toNatClampNeg) (xs (nI i + 2).toNatClampNeg) ot
  refine lv_aload_n hx hb dL_law_1177 rfl (lv_at hl 3 rfl) ?_
  refine lv_aload_n hx hb dL_law_1178 rfl (lv_at hl 4 rfl) ?_
  refine lv_iload hx hb dL_law_1179 (lv_at hl 0 rfl) ?_
  refine lv_iconst (v := 1) hx hb dL_law_1181 (by decide) ?_
  refine lv_iadd hx hb dL_law_1182 ?_
  refine va_sld hx hb hX hbl hbA hw.2.2 (zix 1 rfl (by omega) hL) dL_law_1183 ?_
  refine lv_aload_n hx hb dL_law_1184 rfl (lv_at hl 4 rfl) ?_
  refine lv_iload hx hb dL_law_1185 (lv_at hl 0 rfl) ?_
  refine lv_iconst (v := 2) hx hb dL_law_1187 (by decide) ?_
  refine lv_iadd hx hb dL_law_1188 ?_
  refine va_sld hx hb hX hbl hbA hw.2.2 (zix 2 rfl (by omega) hL) dL_law_1189 ?_
  refine lv_aload_n hx hb dL_law_1190 rfl (lv_at hl 1 rfl) ?_
  refine xcall_i (isC := [0, 9, 11, 1, 2, 43]) hc hw (xrunSW (n := 4) (As := [.ref aX, .int (xs (nI i + 1).toNatClampNeg), .int (xs (nI i + 2).toNatClampNeg), .ref aB]) (rest := []) hc hw [0, 9, 11, 1, 2, 43] (metL_isTried l G hst _ aX aL aC aT aM aWy aTr aAk aEx aSh aLd aTw aLe aOp aFa aB po co go wl gu wk db dn iv qs tr pl ex (xs (nI i + 1).toNatClampNeg) (xs (nI i + 2).toNatClampNeg) ot hpl) gL_law_L_isTried rfl (by decide +kernel) ⟨Nat.le_of_ble_eq_true rfl, Nat.le_of_ble_eq_true rfl⟩ rfl rfl rfl rfl hl.1 (Nat.le_of_ble_eq_true rfl) dL_law_1191 ⟨by show 100 + 4 * i + 1 ≤ 601024; omega, by show 3000 + 50 * i + 6 ≤ 7293034; omega⟩) rfl [3, 4, 5, 6, 7, 8, 10, 12, 13, 14, 15, 16, 17, 18, 19, 20, 21, 22, 23, 24, 25, 26, 27, 28, 29, 30, 31, 32, 33, 34, 35, 36, 37, 38, 39, 40, 41, 42] [38, 41, 42, 0, 1, 2, 3, 4, 5, 39, 6, 40, 7, 8, 9, 10, 11, 12, 13, 14, 15, 16, 17, 18, 19, 20, 21, 22, 23, 24, 25, 26, 27, 28, 29, 30, 31, 32, 33, 34, 35, 36, 37, 43] (fun u_1 => (xO aX 3 [.ref aL, .ref aC, .ref aT] :: xO aL 1 [.int pl, .ref aEx, .ref aSh, .ref aLd, .ref aTw, .ref aLe, .ref aOp, .ref aFa] :: xAI G aEx 10 ex :: xAZ G aSh 10 sh :: xAI G aLd 40 ld :: xAI G aTw 40 tw :: xAI G aLe 40 le :: xAZ G aOp 40 op :: xAI G aFa 10 fa :: xO aC 0 [.ref aL, .ref aM, .int po, .int co, .int go, .ref aWy, .int wl, .ref aTr, .ref aAk, .int gu, .int wk, .int db, .int dn, .int iv, .int qs] :: xAI G aWy 20 wy :: xAZ G aTr 40 tr :: xAZ G aAk 10 ak :: xO aM 2 [.ref aMx, .ref aMs] :: xAI G aMx 100 mx :: xAI G aMs 100 ms :: xO aT 0 [.ref aL, .ref aN, .int tpo, .int tco, .int tgo, .ref bWy, .int twl, .ref bTr, .ref bAk, .int tgu, .int twk, .int tdb, .int tdn, .int tiv, .int tqs] :: xAI G bWy 20 twy :: xAZ G bTr 40 ttr :: xAZ G bAk 10 tak :: xO aN 2 [.ref aNx, .ref aNs] :: xAI G aNx 100 tmx :: xAI G aNs 100 tms :: xO aR 5 [.int th, .int pl, .ref rEx, .ref rRd, .ref rTo, .int rs, .ref rMi, .ref rCl, .ref rSh, .ref rFa, .ref aS, .ref aH] :: xAI G rEx 10 ex :: xAI G rRd 40 rd :: xAI G rTo 40 ld :: xAI G rMi 20 ml :: xAZ G rCl 20 cz :: xAZ G rSh 10 sh :: xAI G rFa 10 fb :: xO aS 4 [.int pq, .int co, .int go, .ref sTr, .ref sAk, .ref sWy, .int wl, .ref sXe, .ref sSg, .int wk, .int db, .int dn, .int iv, .int qs] :: xAZ G sTr 20 ur :: xAZ G sAk 10 uk :: xAI G sWy 40 uy :: xAI G sXe 100 xe :: xAI G sSg 100 sg :: xO aH 4 [.int vpo, .int vco, .int vgo, .ref vTr, .ref vAk, .ref vWy, .int vln, .ref vXe, .ref vSg, .int vwk, .int vdb, .int vdn, .int viv, .int vqs] :: xAZ G vTr 20 vtr :: xAZ G vAk 10 vak :: xAI G vWy 40 vwy :: xAI G vXe 100 vxe :: xAI G vSg 100 vsg :: xAJ G aB 1 u_1 :: [])) (fun _ => rfl) rfl rfl rfl rfl (fun r_2 u_1 H locs hp_3 hw => ?_)
  rw [e1] at hp_3
  obtain ⟨e_r, e_u⟩ := hp_3
  have hw : xW G A S.heap (xO aX 3 [.ref aL, .ref aC, .ref aT] :: xO aL 1 [.int pl, .ref aEx, .ref aSh, .ref aLd, .ref aTw, .ref aLe, .ref aOp, .ref aFa] :: xAI G aEx 10 ex :: xAZ G aSh 10 sh :: xAI G aLd 40 ld :: xAI G aTw 40 tw :: xAI G aLe 40 le :: xAZ G aOp 40 op :: xAI G aFa 10 fa :: xO aC 0 [.ref aL, .ref aM, .int po, .int co, .int go, .ref aWy, .int wl, .ref aTr, .ref aAk, .int gu, .int wk, .int db, .int dn, .int iv, .int qs] :: xAI G aWy 20 wy :: xAZ G aTr 40 tr :: xAZ G aAk 10 ak :: xO aM 2 [.ref aMx, .ref aMs] :: xAI G aMx 100 mx :: xAI G aMs 100 ms :: xO aT 0 [.ref aL, .ref aN, .int tpo, .int tco, .int tgo, .ref bWy, .int twl, .ref bTr, .ref bAk, .int tgu, .int twk, .int tdb, .int tdn, .int tiv, .int tqs] :: xAI G bWy 20 twy :: xAZ G bTr 40 ttr :: xAZ G bAk 10 tak :: xO aN 2 [.ref aNx, .ref aNs] :: xAI G aNx 100 tmx :: xAI G aNs 100 tms :: xO aR 5 [.int th, .int pl, .ref rEx, .ref rRd, .ref rTo, .int rs, .ref rMi, .ref rCl, .ref rSh, .ref rFa, .ref aS, .ref aH] :: xAI G rEx 10 ex :: xAI G rRd 40 rd :: xAI G rTo 40 ld :: xAI G rMi 20 ml :: xAZ G rCl 20 cz :: xAZ G rSh 10 sh :: xAI G rFa 10 fb :: xO aS 4 [.int pq, .int co, .int go, .ref sTr, .ref sAk, .ref sWy, .int wl, .ref sXe, .ref sSg, .int wk, .int db, .int dn, .int iv, .int qs] :: xAZ G sTr 20 ur :: xAZ G sAk 10 uk :: xAI G sWy 40 uy :: xAI G sXe 100 xe :: xAI G sSg 100 sg :: xO aH 4 [.int vpo, .int vco, .int vgo, .ref vTr, .ref vAk, .ref vWy, .int vln, .ref vXe, .ref vSg, .int vwk, .int vdb, .int vdn, .int viv, .int vqs] :: xAZ G vTr 20 vtr :: xAZ G vAk 10 vak :: xAI G vWy 40 vwy :: xAI G vXe 100 vxe :: xAI G vSg 100 vsg :: xAJ G aB 1 ot2 :: []) H locs := by rw [e_u] at hw; exact hw
  have e_r : r_2 = k0 := e_r
  rw [e_r]
  clear e_r e_u
  refine lv_istore (lv' := [(5, .int k0), (4, .int (nI i)), (3, .ref aB), (2, .ref aR), (1, .ref aX), (0, .ref b)]) hx hb dL_law_1194 hl (by decide) rfl (fun ls hl => ?_)
  refine lv_aload_n hx hb dL_law_1196 rfl (lv_at hl 3 rfl) ?_
  refine lv_aload_n hx hb dL_law_1197 rfl (lv_at hl 5 rfl) ?_
  refine lv_iload hx hb dL_law_1198 (lv_at hl 1 rfl) ?_
  refine lv_iconst (v := 1) hx hb dL_law_1200 (by decide) ?_
  refine lv_iadd hx hb dL_law_1201 ?_
  refine va_sld hx hb hX hbl hbA hw.2.2 (zix 1 rfl (by omega) hL) dL_law_1202 ?_
  refine lv_aload_n hx hb dL_law_1203 rfl (lv_at hl 5 rfl) ?_
  refine lv_iload hx hb dL_law_1204 (lv_at hl 1 rfl) ?_
  refine lv_iconst (v := 2) hx hb dL_law_1206 (by decide) ?_
  refine lv_iadd hx hb dL_law_1207 ?_
  refine va_sld hx hb hX hbl hbA hw.2.2 (zix 2 rfl (by omega) hL) dL_law_1208 ?_
  refine xcall_i (isC := [23, 24, 25, 31, 32]) hc hw (xrunV (n := 2) (As := [.int (xs (nI i + 1).toNatClampNeg), .int (xs (nI i + 2).toNatClampNeg)]) (rest := []) hc hw [23, 24, 25, 31, 32] (metX5_isTried l G _ aR rEx rRd rTo rMi rCl rSh rFa aS aH sTr sAk sWy sXe sSg th pl rs ex rd pq co go wl wk db dn iv qs ur (xs (nI i + 1).toNatClampNeg) (xs (nI i + 2).toNatClampNeg) hpl hex4 hrd htr) gL_law_X5_isTried rfl (by decide +kernel) ⟨Nat.le_of_ble_eq_true rfl, Nat.le_of_ble_eq_true rfl⟩ 23 rfl rfl rfl rfl rfl rfl hl.1 (Nat.le_of_ble_eq_true rfl) dL_law_1209 ⟨by show 100 + 4 * i + 1 + 0 ≤ 601024; omega, by show 3000 + 50 * i + 6 + 0 ≤ 7293034; omega⟩) rfl [0, 1, 2, 3, 4, 5, 6, 7, 8, 9, 10, 11, 12, 13, 14, 15, 16, 17, 18, 19, 20, 21, 22, 26, 27, 28, 29, 30, 33, 34, 35, 36, 37, 38, 39, 40, 41, 42, 43] [0, 1, 2, 3, 4, 5, 6, 7, 8, 9, 10, 11, 12, 13, 14, 15, 16, 17, 18, 19, 20, 21, 22, 39, 40, 41, 23, 24, 25, 26, 27, 42, 43, 28, 29, 30, 31, 32, 33, 34, 35, 36, 37, 38] (fun u_4 => (xO aX 3 [.ref aL, .ref aC, .ref aT] :: xO aL 1 [.int pl, .ref aEx, .ref aSh, .ref aLd, .ref aTw, .ref aLe, .ref aOp, .ref aFa] :: xAI G aEx 10 ex :: xAZ G aSh 10 sh :: xAI G aLd 40 ld :: xAI G aTw 40 tw :: xAI G aLe 40 le :: xAZ G aOp 40 op :: xAI G aFa 10 fa :: xO aC 0 [.ref aL, .ref aM, .int po, .int co, .int go, .ref aWy, .int wl, .ref aTr, .ref aAk, .int gu, .int wk, .int db, .int dn, .int iv, .int qs] :: xAI G aWy 20 wy :: xAZ G aTr 40 tr :: xAZ G aAk 10 ak :: xO aM 2 [.ref aMx, .ref aMs] :: xAI G aMx 100 mx :: xAI G aMs 100 ms :: xO aT 0 [.ref aL, .ref aN, .int tpo, .int tco, .int tgo, .ref bWy, .int twl, .ref bTr, .ref bAk, .int tgu, .int twk, .int tdb, .int tdn, .int tiv, .int tqs] :: xAI G bWy 20 twy :: xAZ G bTr 40 ttr :: xAZ G bAk 10 tak :: xO aN 2 [.ref aNx, .ref aNs] :: xAI G aNx 100 tmx :: xAI G aNs 100 tms :: xO aR 5 [.int u_4, .int pl, .ref rEx, .ref rRd, .ref rTo, .int rs, .ref rMi, .ref rCl, .ref rSh, .ref rFa, .ref aS, .ref aH] :: xAI G rEx 10 ex :: xAI G rRd 40 rd :: xAI G rTo 40 ld :: xAI G rMi 20 ml :: xAZ G rCl 20 cz :: xAZ G rSh 10 sh :: xAI G rFa 10 fb :: xO aS 4 [.int pq, .int co, .int go, .ref sTr, .ref sAk, .ref sWy, .int wl, .ref sXe, .ref sSg, .int wk, .int db, .int dn, .int iv, .int qs] :: xAZ G sTr 20 ur :: xAZ G sAk 10 uk :: xAI G sWy 40 uy :: xAI G sXe 100 xe :: xAI G sSg 100 sg :: xO aH 4 [.int vpo, .int vco, .int vgo, .ref vTr, .ref vAk, .ref vWy, .int vln, .ref vXe, .ref vSg, .int vwk, .int vdb, .int vdn, .int viv, .int vqs] :: xAZ G vTr 20 vtr :: xAZ G vAk 10 vak :: xAI G vWy 40 vwy :: xAI G vXe 100 vxe :: xAI G vSg 100 vsg :: xAJ G aB 1 ot2 :: [])) (fun _ => rfl) rfl rfl rfl rfl (fun r_5 u_4 H locs hp_6 hw => ?_)
  rw [e2] at hp_6
  obtain ⟨e_r, e_u⟩ := hp_6
  have hw : xW G A S.heap (xO aX 3 [.ref aL, .ref aC, .ref aT] :: xO aL 1 [.int pl, .ref aEx, .ref aSh, .ref aLd, .ref aTw, .ref aLe, .ref aOp, .ref aFa] :: xAI G aEx 10 ex :: xAZ G aSh 10 sh :: xAI G aLd 40 ld :: xAI G aTw 40 tw :: xAI G aLe 40 le :: xAZ G aOp 40 op :: xAI G aFa 10 fa :: xO aC 0 [.ref aL, .ref aM, .int po, .int co, .int go, .ref aWy, .int wl, .ref aTr, .ref aAk, .int gu, .int wk, .int db, .int dn, .int iv, .int qs] :: xAI G aWy 20 wy :: xAZ G aTr 40 tr :: xAZ G aAk 10 ak :: xO aM 2 [.ref aMx, .ref aMs] :: xAI G aMx 100 mx :: xAI G aMs 100 ms :: xO aT 0 [.ref aL, .ref aN, .int tpo, .int tco, .int tgo, .ref bWy, .int twl, .ref bTr, .ref bAk, .int tgu, .int twk, .int tdb, .int tdn, .int tiv, .int tqs] :: xAI G bWy 20 twy :: xAZ G bTr 40 ttr :: xAZ G bAk 10 tak :: xO aN 2 [.ref aNx, .ref aNs] :: xAI G aNx 100 tmx :: xAI G aNs 100 tms :: xO aR 5 [.int k0, .int pl, .ref rEx, .ref rRd, .ref rTo, .int rs, .ref rMi, .ref rCl, .ref rSh, .ref rFa, .ref aS, .ref aH] :: xAI G rEx 10 ex :: xAI G rRd 40 rd :: xAI G rTo 40 ld :: xAI G rMi 20 ml :: xAZ G rCl 20 cz :: xAZ G rSh 10 sh :: xAI G rFa 10 fb :: xO aS 4 [.int pq, .int co, .int go, .ref sTr, .ref sAk, .ref sWy, .int wl, .ref sXe, .ref sSg, .int wk, .int db, .int dn, .int iv, .int qs] :: xAZ G sTr 20 ur :: xAZ G sAk 10 uk :: xAI G sWy 40 uy :: xAI G sXe 100 xe :: xAI G sSg 100 sg :: xO aH 4 [.int vpo, .int vco, .int vgo, .ref vTr, .ref vAk, .ref vWy, .int vln, .ref vXe, .ref vSg, .int vwk, .int vdb, .int vdn, .int viv, .int vqs] :: xAZ G vTr 20 vtr :: xAZ G vAk 10 vak :: xAI G vWy 40 vwy :: xAI G vXe 100 vxe :: xAI G vSg 100 vsg :: xAJ G aB 1 ot2 :: []) H locs := by rw [e_u] at hw; exact hw
  have e_r : r_5 = b0 := e_r
  rw [e_r]
  clear e_r e_u
  refine lv_istore (lv' := [(6, .int b0), (5, .int k0), (4, .int (nI i)), (3, .ref aB), (2, .ref aR), (1, .ref aX), (0, .ref b)]) hx hb dL_law_1212 hl (by decide) rfl (fun ls hl => ?_)
  refine lv_aload_n hx hb dL_law_1214 rfl (lv_at hl 4 rfl) ?_
  refine xcall_i (isC := [23]) hc hw (xrunV (n := 0) (As := []) (rest := []) hc hw [23] (metX5_thrown l G _ aR rEx rRd rTo rMi rCl rSh rFa aS aH k0 pl rs) gL_law_X5_thrown rfl (by decide +kernel) ⟨Nat.le_of_ble_eq_true rfl, Nat.le_of_ble_eq_true rfl⟩ 23 rfl rfl rfl rfl rfl rfl hl.1 (Nat.le_of_ble_eq_true rfl) dL_law_1215 ⟨by show 100 + 4 * i + 1 + 0 + 0 ≤ 601024; omega, by show 3000 + 50 * i + 6 + 0 + 0 ≤ 7293034; omega⟩) rfl [0, 1, 2, 3, 4, 5, 6, 7, 8, 9, 10, 11, 12, 13, 14, 15, 16, 17, 18, 19, 20, 21, 22, 24, 25, 26, 27, 28, 29, 30, 31, 32, 33, 34, 35, 36, 37, 38, 39, 40, 41, 42, 43] [0, 1, 2, 3, 4, 5, 6, 7, 8, 9, 10, 11, 12, 13, 14, 15, 16, 17, 18, 19, 20, 21, 22, 43, 23, 24, 25, 26, 27, 28, 29, 30, 31, 32, 33, 34, 35, 36, 37, 38, 39, 40, 41, 42] (fun u_7 => (xO aX 3 [.ref aL, .ref aC, .ref aT] :: xO aL 1 [.int pl, .ref aEx, .ref aSh, .ref aLd, .ref aTw, .ref aLe, .ref aOp, .ref aFa] :: xAI G aEx 10 ex :: xAZ G aSh 10 sh :: xAI G aLd 40 ld :: xAI G aTw 40 tw :: xAI G aLe 40 le :: xAZ G aOp 40 op :: xAI G aFa 10 fa :: xO aC 0 [.ref aL, .ref aM, .int po, .int co, .int go, .ref aWy, .int wl, .ref aTr, .ref aAk, .int gu, .int wk, .int db, .int dn, .int iv, .int qs] :: xAI G aWy 20 wy :: xAZ G aTr 40 tr :: xAZ G aAk 10 ak :: xO aM 2 [.ref aMx, .ref aMs] :: xAI G aMx 100 mx :: xAI G aMs 100 ms :: xO aT 0 [.ref aL, .ref aN, .int tpo, .int tco, .int tgo, .ref bWy, .int twl, .ref bTr, .ref bAk, .int tgu, .int twk, .int tdb, .int tdn, .int tiv, .int tqs] :: xAI G bWy 20 twy :: xAZ G bTr 40 ttr :: xAZ G bAk 10 tak :: xO aN 2 [.ref aNx, .ref aNs] :: xAI G aNx 100 tmx :: xAI G aNs 100 tms :: xO aR 5 [.int k0, .int pl, .ref rEx, .ref rRd, .ref rTo, .int rs, .ref rMi, .ref rCl, .ref rSh, .ref rFa, .ref aS, .ref aH] :: xAI G rEx 10 ex :: xAI G rRd 40 rd :: xAI G rTo 40 ld :: xAI G rMi 20 ml :: xAZ G rCl 20 cz :: xAZ G rSh 10 sh :: xAI G rFa 10 fb :: xO aS 4 [.int pq, .int co, .int go, .ref sTr, .ref sAk, .ref sWy, .int wl, .ref sXe, .ref sSg, .int wk, .int db, .int dn, .int iv, .int qs] :: xAZ G sTr 20 ur :: xAZ G sAk 10 uk :: xAI G sWy 40 uy :: xAI G sXe 100 xe :: xAI G sSg 100 sg :: xO aH 4 [.int vpo, .int vco, .int vgo, .ref vTr, .ref vAk, .ref vWy, .int vln, .ref vXe, .ref vSg, .int vwk, .int vdb, .int vdn, .int viv, .int vqs] :: xAZ G vTr 20 vtr :: xAZ G vAk 10 vak :: xAI G vWy 40 vwy :: xAI G vXe 100 vxe :: xAI G vSg 100 vsg :: xAJ G aB 1 ot2 :: [])) (fun _ => rfl) rfl rfl rfl rfl (fun r_8 u_7 H locs hp_9 hw => ?_)
  have e_r : r_8 = k0 := hp_9
  rw [e_r]
  clear e_r
  refine lv_iload hx hb dL_law_1218 (lv_at hl 1 rfl) ?_
  refine lv_icmp_eq (tgt := 1225) hx hb dL_law_1220 (by decide) (fun _ => ?_) (fun h => absurd rfl h)
  refine lv_iload hx hb dL_law_1225 (lv_at hl 1 rfl) ?_
  refine lv_if_ne (tgt := 1249) hx hb dL_law_1227 (by decide) (fun c0 => ?_) (fun c0 => ?_)
  · refine lv_goto (tgt := 1683) hx hb dL_law_1249 (by decide) ?_
    refine lv_iinc (v := nI (i + 4)) (lv' := [(4, .int (nI (i + 4))), (6, .int b0), (5, .int k0), (3, .ref aB), (2, .ref aR), (1, .ref aX), (0, .ref b)]) hx hb dL_law_1683 hl (k := 2) rfl (nI_add i 4) (by decide) rfl (fun ls hl => ?_)
    refine lv_goto (tgt := 23) hx hb dL_law_1686 (by decide) ?_
    refine W.widen (k := 100 + 4 * (i + 4)) (n := 3000 + 50 * (i + 4)) (by show 100 + 4 * i + 1 + 0 + 0 ≤ _; omega) (by show 3000 + 50 * i + 6 + 0 + 0 ≤ _; omega) ?_
    exact ih k0 pl rs po pq co go wl gu wk db dn iv qs tpo tco tgo twl tgu twk tdb tdn tiv tqs vpo vco vgo vln vwk vdb vdn viv vqs ex sh ld tw le op fa rd ml cz fb wy tr ak mx ms ur uk uy xe sg twy ttr tak tmx tms vtr vak vwy vxe vsg ot2 (zI_up hI (by omega)) H locs ls hw (lv_sub hl [0, 3, 4, 5, 6] rfl)
  · refine lv_aload_n hx hb dL_law_1230 rfl (lv_at hl 3 rfl) ?_
    refine lv_iconst (v := 0) hx hb dL_law_1231 (by decide) ?_
    refine xlald hc hw 43 rfl (xin ⟨by decide, by decide⟩) dL_law_1232 ?_
    refine lv_iload hx hb dL_law_1233 (lv_at hl 0 rfl) ?_
    refine lv_if_eq (tgt := 1242) hx hb dL_law_1235 (by decide) (fun cb => ?_) (fun cb => ?_)
    · refine lv_lconst (v := 0) hx hb dL_law_1242 rfl ?_
      refine W.lcmp hx hb dL_law_1243 ?_
      refine lv_if_eq (tgt := 1249) hx hb dL_law_1244 (by decide) (fun _ => ?_) (fun h => absurd (zlc (by rw [sb_cl0, e3 c0, if_pos cb])) h)
      refine lv_goto (tgt := 1683) hx hb dL_law_1249 (by decide) ?_
      refine lv_iinc (v := nI (i + 4)) (lv' := [(4, .int (nI (i + 4))), (6, .int b0), (5, .int k0), (3, .ref aB), (2, .ref aR), (1, .ref aX), (0, .ref b)]) hx hb dL_law_1683 hl (k := 2) rfl (nI_add i 4) (by decide) rfl (fun ls hl => ?_)
      refine lv_goto (tgt := 23) hx hb dL_law_1686 (by decide) ?_
      refine W.widen (k := 100 + 4 * (i + 4)) (n := 3000 + 50 * (i + 4)) (by show 100 + 4 * i + 1 + 0 + 0 ≤ _; omega) (by show 3000 + 50 * i + 6 + 0 + 0 ≤ _; omega) ?_
      exact ih k0 pl rs po pq co go wl gu wk db dn iv qs tpo tco tgo twl tgu twk tdb tdn tiv tqs vpo vco vgo vln vwk vdb vdn viv vqs ex sh ld tw le op fa rd ml cz fb wy tr ak mx ms ur uk uy xe sg twy ttr tak tmx tms vtr vak vwy vxe vsg ot2 (zI_up hI (by omega)) H locs ls hw (lv_sub hl [0, 3, 4, 5, 6] rfl)
    · refine lv_lconst (v := 1) hx hb dL_law_1238 rfl ?_
      refine lv_goto (tgt := 1243) hx hb dL_law_1239 (by decide) ?_
      refine W.lcmp hx hb dL_law_1243 ?_
      refine lv_if_eq (tgt := 1249) hx hb dL_law_1244 (by decide) (fun _ => ?_) (fun h => absurd (zlc (by rw [sb_cl0, e3 c0, if_neg cb])) h)
      refine lv_goto (tgt := 1683) hx hb dL_law_1249 (by decide) ?_
      refine lv_iinc (v := nI (i + 4)) (lv' := [(4, .int (nI (i + 4))), (6, .int b0), (5, .int k0), (3, .ref aB), (2, .ref aR), (1, .ref aX), (0, .ref b)]) hx hb dL_law_1683 hl (k := 2) rfl (nI_add i 4) (by decide) rfl (fun ls hl => ?_)
      refine lv_goto (tgt := 23) hx hb dL_law_1686 (by decide) ?_
      refine W.widen (k := 100 + 4 * (i + 4)) (n := 3000 + 50 * (i + 4)) (by show 100 + 4 * i + 1 + 0 + 0 ≤ _; omega) (by show 3000 + 50 * i + 6 + 0 + 0 ≤ _; omega) ?_
      exact ih k0 pl rs po pq co go wl gu wk db dn iv qs tpo tco tgo twl tgu twk tdb tdn tiv tqs vpo vco vgo vln vwk vdb vdn viv vqs ex sh ld tw le op fa rd ml cz fb wy tr ak mx ms ur uk uy xe sg twy ttr tak tmx tms vtr vak vwy vxe vsg ot2 (zI_up hI (by omega)) H locs ls hw (lv_sub hl [0, 3, 4, 5, 6] rfl)
set_option maxHeartbeats 40000000 in
set_option maxRecDepth 100000 in
theorem lwc_21 {p : Program} {l : Launch} {e : Env} {S : State} {m : MethodId} {args : Array Value} {below : List Frame} {meth : Method} {c : Code} {Q : State → Prop} {G : xG} {A : Nat → Prop} (hst : l.stackTraces = false) (hc : xC p S m args meth c cL_law 9 RL wsL_law (some .boolean) G A) {b L : Nat} {xs : Nat → Int32} (hX : va_X b L xs S S.heap) (hbl : b < S.heap.size) (hbA : ¬ A b) (hL : L ≤ 2048) {aX aL aC aT aEx aSh aLd aTw aLe aOp aFa aM aWy aTr aAk aMx aMs aN bWy bTr bAk aNx aNs aR rEx rRd rTo rMi rCl rSh rFa aS aH sTr sAk sWy sXe sSg vTr vAk vWy vXe vSg aB : Nat} {i : Nat} (hi : i + 4 ≤ L) (ih : zGo p l e S m args below meth c Q G A b aX aL aC aT aEx aSh aLd aTw aLe aOp aFa aM aWy aTr aAk aMx aMs aN bWy bTr bAk aNx aNs aR rEx rRd rTo rMi rCl rSh rFa aS aH sTr sAk sWy sXe sSg vTr vAk vWy vXe vSg aB (i + 4) 23) : zGo p l e S m args below meth c Q G A b aX aL aC aT aEx aSh aLd aTw aLe aOp aFa aM aWy aTr aAk aMx aMs aN bWy bTr bAk aNx aNs aR rEx rRd rTo rMi rCl rSh rFa aS aH sTr sAk sWy sXe sSg vTr vAk vWy vXe vSg aB i 1252 := by
  unfold zGo at ih ⊢
  intro th pl rs po pq co go wl gu wk db dn iv qs tpo tco tgo twl tgu twk tdb tdn tiv tqs vpo vco vgo vln vwk vdb vdn viv vqs ex sh ld tw le op fa rd ml cz fb wy tr ak mx ms ur uk uy xe sg twy ttr tak tmx tms vtr vak vwy vxe vsg ot hI H locs ls hw hl
  obtain ⟨hx, hb, -, hown, hts, -⟩ := id hc
  have hN : i < 1000000 := by omega
  have hpl := hI.1.1
  have hex4 := hI.1.2.1
  have hld := hI.1.2.2.2.1
  have htt := hI.1.2.2.2.1
  have htw := hI.1.2.2.2.2.1
  have hrs := hI.1.2.2.2.2.2.2.1
  have hrd := hI.1.2.2.2.2.2.2.2.1
  have hsh := hI.2.1
  have hwl := zI_wl hI
  have htr := (zI_B hI).1
  have hak := (zI_B hI).2.1
  have hxe := zI_X hI
  have hky := zI_K hI
  have hkg := zI_Kg hI
  have hpw := zI_pw hI
  obtain ⟨k0, b0, ot2, e1, e2, e3⟩ := zo_remembered hI (xs (nI i + 1).toNatClampNeg) (xs (nI i + 2).toNatClampNeg) ot
  refine lv_aload_n hx hb dL_law_1252 rfl (lv_at hl 3 rfl) ?_
  refine lv_aload_n hx hb dL_law_1253 rfl (lv_at hl 4 rfl) ?_
  refine lv_iload hx hb dL_law_1254 (lv_at hl 0 rfl) ?_
  refine lv_iconst (v := 1) hx hb dL_law_1256 (by decide) ?_
  refine lv_iadd hx hb dL_law_1257 ?_
  refine va_sld hx hb hX hbl hbA hw.2.2 (zix 1 rfl (by omega) hL) dL_law_1258 ?_
  refine lv_aload_n hx hb dL_law_1259 rfl (lv_at hl 4 rfl) ?_
  refine lv_iload hx hb dL_law_1260 (lv_at hl 0 rfl) ?_
  refine lv_iconst (v := 2) hx hb dL_law_1262 (by decide) ?_
  refine lv_iadd hx hb dL_law_1263 ?_
  refine va_sld hx hb hX hbl hbA hw.2.2 (zix 2 rfl (by omega) hL) dL_law_1264 ?_
  refine lv_aload_n hx hb dL_law_1265 rfl (lv_at hl 1 rfl) ?_
  refine xcall_i (isC := [0, 9, 13, 14, 15, 1, 43]) hc hw (xrunSW (n := 4) (As := [.ref aX, .int (xs (nI i + 1).toNatClampNeg), .int (xs (nI i + 2).toNatClampNeg), .ref aB]) (rest := []) hc hw [0, 9, 13, 14, 15, 1, 43] (metL_remembered l G hst _ aX aL aC aT aM aWy aTr aAk aMx aMs aEx aSh aLd aTw aLe aOp aFa aB po co go wl gu wk db dn iv qs mx ms pl (xs (nI i + 1).toNatClampNeg) (xs (nI i + 2).toNatClampNeg) ot) gL_law_L_remembered rfl (by decide +kernel) ⟨Nat.le_of_ble_eq_true rfl, Nat.le_of_ble_eq_true rfl⟩ rfl rfl rfl rfl hl.1 (Nat.le_of_ble_eq_true rfl) dL_law_1266 ⟨by show 100 + 4 * i + 2 ≤ 601024; omega, by show 3000 + 50 * i + 12 ≤ 7293034; omega⟩) rfl [2, 3, 4, 5, 6, 7, 8, 10, 11, 12, 16, 17, 18, 19, 20, 21, 22, 23, 24, 25, 26, 27, 28, 29, 30, 31, 32, 33, 34, 35, 36, 37, 38, 39, 40, 41, 42] [37, 42, 0, 1, 2, 3, 4, 5, 6, 38, 7, 8, 9, 39, 40, 41, 10, 11, 12, 13, 14, 15, 16, 17, 18, 19, 20, 21, 22, 23, 24, 25, 26, 27, 28, 29, 30, 31, 32, 33, 34, 35, 36, 43] (fun u_1 => (xO aX 3 [.ref aL, .ref aC, .ref aT] :: xO aL 1 [.int pl, .ref aEx, .ref aSh, .ref aLd, .ref aTw, .ref aLe, .ref aOp, .ref aFa] :: xAI G aEx 10 ex :: xAZ G aSh 10 sh :: xAI G aLd 40 ld :: xAI G aTw 40 tw :: xAI G aLe 40 le :: xAZ G aOp 40 op :: xAI G aFa 10 fa :: xO aC 0 [.ref aL, .ref aM, .int po, .int co, .int go, .ref aWy, .int wl, .ref aTr, .ref aAk, .int gu, .int wk, .int db, .int dn, .int iv, .int qs] :: xAI G aWy 20 wy :: xAZ G aTr 40 tr :: xAZ G aAk 10 ak :: xO aM 2 [.ref aMx, .ref aMs] :: xAI G aMx 100 mx :: xAI G aMs 100 ms :: xO aT 0 [.ref aL, .ref aN, .int tpo, .int tco, .int tgo, .ref bWy, .int twl, .ref bTr, .ref bAk, .int tgu, .int twk, .int tdb, .int tdn, .int tiv, .int tqs] :: xAI G bWy 20 twy :: xAZ G bTr 40 ttr :: xAZ G bAk 10 tak :: xO aN 2 [.ref aNx, .ref aNs] :: xAI G aNx 100 tmx :: xAI G aNs 100 tms :: xO aR 5 [.int th, .int pl, .ref rEx, .ref rRd, .ref rTo, .int rs, .ref rMi, .ref rCl, .ref rSh, .ref rFa, .ref aS, .ref aH] :: xAI G rEx 10 ex :: xAI G rRd 40 rd :: xAI G rTo 40 ld :: xAI G rMi 20 ml :: xAZ G rCl 20 cz :: xAZ G rSh 10 sh :: xAI G rFa 10 fb :: xO aS 4 [.int pq, .int co, .int go, .ref sTr, .ref sAk, .ref sWy, .int wl, .ref sXe, .ref sSg, .int wk, .int db, .int dn, .int iv, .int qs] :: xAZ G sTr 20 ur :: xAZ G sAk 10 uk :: xAI G sWy 40 uy :: xAI G sXe 100 xe :: xAI G sSg 100 sg :: xO aH 4 [.int vpo, .int vco, .int vgo, .ref vTr, .ref vAk, .ref vWy, .int vln, .ref vXe, .ref vSg, .int vwk, .int vdb, .int vdn, .int viv, .int vqs] :: xAZ G vTr 20 vtr :: xAZ G vAk 10 vak :: xAI G vWy 40 vwy :: xAI G vXe 100 vxe :: xAI G vSg 100 vsg :: xAJ G aB 1 u_1 :: [])) (fun _ => rfl) rfl rfl rfl rfl (fun r_2 u_1 H locs hp_3 hw => ?_)
  rw [e1] at hp_3
  obtain ⟨e_r, e_u⟩ := hp_3
  have hw : xW G A S.heap (xO aX 3 [.ref aL, .ref aC, .ref aT] :: xO aL 1 [.int pl, .ref aEx, .ref aSh, .ref aLd, .ref aTw, .ref aLe, .ref aOp, .ref aFa] :: xAI G aEx 10 ex :: xAZ G aSh 10 sh :: xAI G aLd 40 ld :: xAI G aTw 40 tw :: xAI G aLe 40 le :: xAZ G aOp 40 op :: xAI G aFa 10 fa :: xO aC 0 [.ref aL, .ref aM, .int po, .int co, .int go, .ref aWy, .int wl, .ref aTr, .ref aAk, .int gu, .int wk, .int db, .int dn, .int iv, .int qs] :: xAI G aWy 20 wy :: xAZ G aTr 40 tr :: xAZ G aAk 10 ak :: xO aM 2 [.ref aMx, .ref aMs] :: xAI G aMx 100 mx :: xAI G aMs 100 ms :: xO aT 0 [.ref aL, .ref aN, .int tpo, .int tco, .int tgo, .ref bWy, .int twl, .ref bTr, .ref bAk, .int tgu, .int twk, .int tdb, .int tdn, .int tiv, .int tqs] :: xAI G bWy 20 twy :: xAZ G bTr 40 ttr :: xAZ G bAk 10 tak :: xO aN 2 [.ref aNx, .ref aNs] :: xAI G aNx 100 tmx :: xAI G aNs 100 tms :: xO aR 5 [.int th, .int pl, .ref rEx, .ref rRd, .ref rTo, .int rs, .ref rMi, .ref rCl, .ref rSh, .ref rFa, .ref aS, .ref aH] :: xAI G rEx 10 ex :: xAI G rRd 40 rd :: xAI G rTo 40 ld :: xAI G rMi 20 ml :: xAZ G rCl 20 cz :: xAZ G rSh 10 sh :: xAI G rFa 10 fb :: xO aS 4 [.int pq, .int co, .int go, .ref sTr, .ref sAk, .ref sWy, .int wl, .ref sXe, .ref sSg, .int wk, .int db, .int dn, .int iv, .int qs] :: xAZ G sTr 20 ur :: xAZ G sAk 10 uk :: xAI G sWy 40 uy :: xAI G sXe 100 xe :: xAI G sSg 100 sg :: xO aH 4 [.int vpo, .int vco, .int vgo, .ref vTr, .ref vAk, .ref vWy, .int vln, .ref vXe, .ref vSg, .int vwk, .int vdb, .int vdn, .int viv, .int vqs] :: xAZ G vTr 20 vtr :: xAZ G vAk 10 vak :: xAI G vWy 40 vwy :: xAI G vXe 100 vxe :: xAI G vSg 100 vsg :: xAJ G aB 1 ot2 :: []) H locs := by rw [e_u] at hw; exact hw
  have e_r : r_2 = k0 := e_r
  rw [e_r]
  clear e_r e_u
  refine lv_istore (lv' := [(5, .int k0), (4, .int (nI i)), (3, .ref aB), (2, .ref aR), (1, .ref aX), (0, .ref b)]) hx hb dL_law_1269 hl (by decide) rfl (fun ls hl => ?_)
  refine lv_aload_n hx hb dL_law_1271 rfl (lv_at hl 3 rfl) ?_
  refine lv_aload_n hx hb dL_law_1272 rfl (lv_at hl 5 rfl) ?_
  refine lv_iload hx hb dL_law_1273 (lv_at hl 1 rfl) ?_
  refine lv_iconst (v := 1) hx hb dL_law_1275 (by decide) ?_
  refine lv_iadd hx hb dL_law_1276 ?_
  refine va_sld hx hb hX hbl hbA hw.2.2 (zix 1 rfl (by omega) hL) dL_law_1277 ?_
  refine lv_aload_n hx hb dL_law_1278 rfl (lv_at hl 5 rfl) ?_
  refine lv_iload hx hb dL_law_1279 (lv_at hl 1 rfl) ?_
  refine lv_iconst (v := 2) hx hb dL_law_1281 (by decide) ?_
  refine lv_iadd hx hb dL_law_1282 ?_
  refine va_sld hx hb hX hbl hbA hw.2.2 (zix 2 rfl (by omega) hL) dL_law_1283 ?_
  refine xcall_i (isC := [23, 31, 35]) hc hw (xrunV (n := 2) (As := [.int (xs (nI i + 1).toNatClampNeg), .int (xs (nI i + 2).toNatClampNeg)]) (rest := []) hc hw [23, 31, 35] (metX5_remembered l G _ aR rEx rRd rTo rMi rCl rSh rFa aS aH sTr sAk sWy sXe sSg th pl rs pq co go wl wk db dn iv qs xe (xs (nI i + 1).toNatClampNeg) (xs (nI i + 2).toNatClampNeg) hpl) gL_law_X5_remembered rfl (by decide +kernel) ⟨Nat.le_of_ble_eq_true rfl, Nat.le_of_ble_eq_true rfl⟩ 23 rfl rfl rfl rfl rfl rfl hl.1 (Nat.le_of_ble_eq_true rfl) dL_law_1284 ⟨by show 100 + 4 * i + 2 + 0 ≤ 601024; omega, by show 3000 + 50 * i + 12 + 0 ≤ 7293034; omega⟩) rfl [0, 1, 2, 3, 4, 5, 6, 7, 8, 9, 10, 11, 12, 13, 14, 15, 16, 17, 18, 19, 20, 21, 22, 24, 25, 26, 27, 28, 29, 30, 32, 33, 34, 36, 37, 38, 39, 40, 41, 42, 43] [0, 1, 2, 3, 4, 5, 6, 7, 8, 9, 10, 11, 12, 13, 14, 15, 16, 17, 18, 19, 20, 21, 22, 41, 23, 24, 25, 26, 27, 28, 29, 42, 30, 31, 32, 43, 33, 34, 35, 36, 37, 38, 39, 40] (fun u_4 => (xO aX 3 [.ref aL, .ref aC, .ref aT] :: xO aL 1 [.int pl, .ref aEx, .ref aSh, .ref aLd, .ref aTw, .ref aLe, .ref aOp, .ref aFa] :: xAI G aEx 10 ex :: xAZ G aSh 10 sh :: xAI G aLd 40 ld :: xAI G aTw 40 tw :: xAI G aLe 40 le :: xAZ G aOp 40 op :: xAI G aFa 10 fa :: xO aC 0 [.ref aL, .ref aM, .int po, .int co, .int go, .ref aWy, .int wl, .ref aTr, .ref aAk, .int gu, .int wk, .int db, .int dn, .int iv, .int qs] :: xAI G aWy 20 wy :: xAZ G aTr 40 tr :: xAZ G aAk 10 ak :: xO aM 2 [.ref aMx, .ref aMs] :: xAI G aMx 100 mx :: xAI G aMs 100 ms :: xO aT 0 [.ref aL, .ref aN, .int tpo, .int tco, .int tgo, .ref bWy, .int twl, .ref bTr, .ref bAk, .int tgu, .int twk, .int tdb, .int tdn, .int tiv, .int tqs] :: xAI G bWy 20 twy :: xAZ G bTr 40 ttr :: xAZ G bAk 10 tak :: xO aN 2 [.ref aNx, .ref aNs] :: xAI G aNx 100 tmx :: xAI G aNs 100 tms :: xO aR 5 [.int u_4, .int pl, .ref rEx, .ref rRd, .ref rTo, .int rs, .ref rMi, .ref rCl, .ref rSh, .ref rFa, .ref aS, .ref aH] :: xAI G rEx 10 ex :: xAI G rRd 40 rd :: xAI G rTo 40 ld :: xAI G rMi 20 ml :: xAZ G rCl 20 cz :: xAZ G rSh 10 sh :: xAI G rFa 10 fb :: xO aS 4 [.int pq, .int co, .int go, .ref sTr, .ref sAk, .ref sWy, .int wl, .ref sXe, .ref sSg, .int wk, .int db, .int dn, .int iv, .int qs] :: xAZ G sTr 20 ur :: xAZ G sAk 10 uk :: xAI G sWy 40 uy :: xAI G sXe 100 xe :: xAI G sSg 100 sg :: xO aH 4 [.int vpo, .int vco, .int vgo, .ref vTr, .ref vAk, .ref vWy, .int vln, .ref vXe, .ref vSg, .int vwk, .int vdb, .int vdn, .int viv, .int vqs] :: xAZ G vTr 20 vtr :: xAZ G vAk 10 vak :: xAI G vWy 40 vwy :: xAI G vXe 100 vxe :: xAI G vSg 100 vsg :: xAJ G aB 1 ot2 :: [])) (fun _ => rfl) rfl rfl rfl rfl (fun r_5 u_4 H locs hp_6 hw => ?_)
  rw [e2] at hp_6
  obtain ⟨e_r, e_u⟩ := hp_6
  have hw : xW G A S.heap (xO aX 3 [.ref aL, .ref aC, .ref aT] :: xO aL 1 [.int pl, .ref aEx, .ref aSh, .ref aLd, .ref aTw, .ref aLe, .ref aOp, .ref aFa] :: xAI G aEx 10 ex :: xAZ G aSh 10 sh :: xAI G aLd 40 ld :: xAI G aTw 40 tw :: xAI G aLe 40 le :: xAZ G aOp 40 op :: xAI G aFa 10 fa :: xO aC 0 [.ref aL, .ref aM, .int po, .int co, .int go, .ref aWy, .int wl, .ref aTr, .ref aAk, .int gu, .int wk, .int db, .int dn, .int iv, .int qs] :: xAI G aWy 20 wy :: xAZ G aTr 40 tr :: xAZ G aAk 10 ak :: xO aM 2 [.ref aMx, .ref aMs] :: xAI G aMx 100 mx :: xAI G aMs 100 ms :: xO aT 0 [.ref aL, .ref aN, .int tpo, .int tco, .int tgo, .ref bWy, .int twl, .ref bTr, .ref bAk, .int tgu, .int twk, .int tdb, .int tdn, .int tiv, .int tqs] :: xAI G bWy 20 twy :: xAZ G bTr 40 ttr :: xAZ G bAk 10 tak :: xO aN 2 [.ref aNx, .ref aNs] :: xAI G aNx 100 tmx :: xAI G aNs 100 tms :: xO aR 5 [.int k0, .int pl, .ref rEx, .ref rRd, .ref rTo, .int rs, .ref rMi, .ref rCl, .ref rSh, .ref rFa, .ref aS, .ref aH] :: xAI G rEx 10 ex :: xAI G rRd 40 rd :: xAI G rTo 40 ld :: xAI G rMi 20 ml :: xAZ G rCl 20 cz :: xAZ G rSh 10 sh :: xAI G rFa 10 fb :: xO aS 4 [.int pq, .int co, .int go, .ref sTr, .ref sAk, .ref sWy, .int wl, .ref sXe, .ref sSg, .int wk, .int db, .int dn, .int iv, .int qs] :: xAZ G sTr 20 ur :: xAZ G sAk 10 uk :: xAI G sWy 40 uy :: xAI G sXe 100 xe :: xAI G sSg 100 sg :: xO aH 4 [.int vpo, .int vco, .int vgo, .ref vTr, .ref vAk, .ref vWy, .int vln, .ref vXe, .ref vSg, .int vwk, .int vdb, .int vdn, .int viv, .int vqs] :: xAZ G vTr 20 vtr :: xAZ G vAk 10 vak :: xAI G vWy 40 vwy :: xAI G vXe 100 vxe :: xAI G vSg 100 vsg :: xAJ G aB 1 ot2 :: []) H locs := by rw [e_u] at hw; exact hw
  have e_r : r_5 = b0 := e_r
  rw [e_r]
  clear e_r e_u
  refine lv_istore (lv' := [(6, .int b0), (5, .int k0), (4, .int (nI i)), (3, .ref aB), (2, .ref aR), (1, .ref aX), (0, .ref b)]) hx hb dL_law_1287 hl (by decide) rfl (fun ls hl => ?_)
  refine lv_aload_n hx hb dL_law_1289 rfl (lv_at hl 4 rfl) ?_
  refine xcall_i (isC := [23]) hc hw (xrunV (n := 0) (As := []) (rest := []) hc hw [23] (metX5_thrown l G _ aR rEx rRd rTo rMi rCl rSh rFa aS aH k0 pl rs) gL_law_X5_thrown rfl (by decide +kernel) ⟨Nat.le_of_ble_eq_true rfl, Nat.le_of_ble_eq_true rfl⟩ 23 rfl rfl rfl rfl rfl rfl hl.1 (Nat.le_of_ble_eq_true rfl) dL_law_1290 ⟨by show 100 + 4 * i + 2 + 0 + 0 ≤ 601024; omega, by show 3000 + 50 * i + 12 + 0 + 0 ≤ 7293034; omega⟩) rfl [0, 1, 2, 3, 4, 5, 6, 7, 8, 9, 10, 11, 12, 13, 14, 15, 16, 17, 18, 19, 20, 21, 22, 24, 25, 26, 27, 28, 29, 30, 31, 32, 33, 34, 35, 36, 37, 38, 39, 40, 41, 42, 43] [0, 1, 2, 3, 4, 5, 6, 7, 8, 9, 10, 11, 12, 13, 14, 15, 16, 17, 18, 19, 20, 21, 22, 43, 23, 24, 25, 26, 27, 28, 29, 30, 31, 32, 33, 34, 35, 36, 37, 38, 39, 40, 41, 42] (fun u_7 => (xO aX 3 [.ref aL, .ref aC, .ref aT] :: xO aL 1 [.int pl, .ref aEx, .ref aSh, .ref aLd, .ref aTw, .ref aLe, .ref aOp, .ref aFa] :: xAI G aEx 10 ex :: xAZ G aSh 10 sh :: xAI G aLd 40 ld :: xAI G aTw 40 tw :: xAI G aLe 40 le :: xAZ G aOp 40 op :: xAI G aFa 10 fa :: xO aC 0 [.ref aL, .ref aM, .int po, .int co, .int go, .ref aWy, .int wl, .ref aTr, .ref aAk, .int gu, .int wk, .int db, .int dn, .int iv, .int qs] :: xAI G aWy 20 wy :: xAZ G aTr 40 tr :: xAZ G aAk 10 ak :: xO aM 2 [.ref aMx, .ref aMs] :: xAI G aMx 100 mx :: xAI G aMs 100 ms :: xO aT 0 [.ref aL, .ref aN, .int tpo, .int tco, .int tgo, .ref bWy, .int twl, .ref bTr, .ref bAk, .int tgu, .int twk, .int tdb, .int tdn, .int tiv, .int tqs] :: xAI G bWy 20 twy :: xAZ G bTr 40 ttr :: xAZ G bAk 10 tak :: xO aN 2 [.ref aNx, .ref aNs] :: xAI G aNx 100 tmx :: xAI G aNs 100 tms :: xO aR 5 [.int k0, .int pl, .ref rEx, .ref rRd, .ref rTo, .int rs, .ref rMi, .ref rCl, .ref rSh, .ref rFa, .ref aS, .ref aH] :: xAI G rEx 10 ex :: xAI G rRd 40 rd :: xAI G rTo 40 ld :: xAI G rMi 20 ml :: xAZ G rCl 20 cz :: xAZ G rSh 10 sh :: xAI G rFa 10 fb :: xO aS 4 [.int pq, .int co, .int go, .ref sTr, .ref sAk, .ref sWy, .int wl, .ref sXe, .ref sSg, .int wk, .int db, .int dn, .int iv, .int qs] :: xAZ G sTr 20 ur :: xAZ G sAk 10 uk :: xAI G sWy 40 uy :: xAI G sXe 100 xe :: xAI G sSg 100 sg :: xO aH 4 [.int vpo, .int vco, .int vgo, .ref vTr, .ref vAk, .ref vWy, .int vln, .ref vXe, .ref vSg, .int vwk, .int vdb, .int vdn, .int viv, .int vqs] :: xAZ G vTr 20 vtr :: xAZ G vAk 10 vak :: xAI G vWy 40 vwy :: xAI G vXe 100 vxe :: xAI G vSg 100 vsg :: xAJ G aB 1 ot2 :: [])) (fun _ => rfl) rfl rfl rfl rfl (fun r_8 u_7 H locs hp_9 hw => ?_)
  have e_r : r_8 = k0 := hp_9
  rw [e_r]
  clear e_r
  refine lv_iload hx hb dL_law_1293 (lv_at hl 1 rfl) ?_
  refine lv_icmp_eq (tgt := 1300) hx hb dL_law_1295 (by decide) (fun _ => ?_) (fun h => absurd rfl h)
  refine lv_iload hx hb dL_law_1300 (lv_at hl 1 rfl) ?_
  refine lv_if_ne (tgt := 1317) hx hb dL_law_1302 (by decide) (fun c0 => ?_) (fun c0 => ?_)
  · refine lv_goto (tgt := 1683) hx hb dL_law_1317 (by decide) ?_
    refine lv_iinc (v := nI (i + 4)) (lv' := [(4, .int (nI (i + 4))), (6, .int b0), (5, .int k0), (3, .ref aB), (2, .ref aR), (1, .ref aX), (0, .ref b)]) hx hb dL_law_1683 hl (k := 2) rfl (nI_add i 4) (by decide) rfl (fun ls hl => ?_)
    refine lv_goto (tgt := 23) hx hb dL_law_1686 (by decide) ?_
    refine W.widen (k := 100 + 4 * (i + 4)) (n := 3000 + 50 * (i + 4)) (by show 100 + 4 * i + 2 + 0 + 0 ≤ _; omega) (by show 3000 + 50 * i + 12 + 0 + 0 ≤ _; omega) ?_
    exact ih k0 pl rs po pq co go wl gu wk db dn iv qs tpo tco tgo twl tgu twk tdb tdn tiv tqs vpo vco vgo vln vwk vdb vdn viv vqs ex sh ld tw le op fa rd ml cz fb wy tr ak mx ms ur uk uy xe sg twy ttr tak tmx tms vtr vak vwy vxe vsg ot2 (zI_up hI (by omega)) H locs ls hw (lv_sub hl [0, 3, 4, 5, 6] rfl)
  · refine lv_aload_n hx hb dL_law_1305 rfl (lv_at hl 3 rfl) ?_
    refine lv_iconst (v := 0) hx hb dL_law_1306 (by decide) ?_
    refine xlald hc hw 43 rfl (xin ⟨by decide, by decide⟩) dL_law_1307 ?_
    refine lv_iload hx hb dL_law_1308 (lv_at hl 0 rfl) ?_
    refine lv_i2l hx hb dL_law_1310 rfl ?_
    refine W.lcmp hx hb dL_law_1311 ?_
    refine lv_if_eq (tgt := 1317) hx hb dL_law_1312 (by decide) (fun _ => ?_) (fun h => absurd (zlc (by rw [sb_cl0]; exact e3 c0)) h)
    refine lv_goto (tgt := 1683) hx hb dL_law_1317 (by decide) ?_
    refine lv_iinc (v := nI (i + 4)) (lv' := [(4, .int (nI (i + 4))), (6, .int b0), (5, .int k0), (3, .ref aB), (2, .ref aR), (1, .ref aX), (0, .ref b)]) hx hb dL_law_1683 hl (k := 2) rfl (nI_add i 4) (by decide) rfl (fun ls hl => ?_)
    refine lv_goto (tgt := 23) hx hb dL_law_1686 (by decide) ?_
    refine W.widen (k := 100 + 4 * (i + 4)) (n := 3000 + 50 * (i + 4)) (by show 100 + 4 * i + 2 + 0 + 0 ≤ _; omega) (by show 3000 + 50 * i + 12 + 0 + 0 ≤ _; omega) ?_
    exact ih k0 pl rs po pq co go wl gu wk db dn iv qs tpo tco tgo twl tgu twk tdb tdn tiv tqs vpo vco vgo vln vwk vdb vdn viv vqs ex sh ld tw le op fa rd ml cz fb wy tr ak mx ms ur uk uy xe sg twy ttr tak tmx tms vtr vak vwy vxe vsg ot2 (zI_up hI (by omega)) H locs ls hw (lv_sub hl [0, 3, 4, 5, 6] rfl)
set_option maxHeartbeats 40000000 in
set_option maxRecDepth 100000 in
theorem lwc_22 {p : Program} {l : Launch} {e : Env} {S : State} {m : MethodId} {args : Array Value} {below : List Frame} {meth : Method} {c : Code} {Q : State → Prop} {G : xG} {A : Nat → Prop} (hst : l.stackTraces = false) (hc : xC p S m args meth c cL_law 9 RL wsL_law (some .boolean) G A) {b L : Nat} {xs : Nat → Int32} (hX : va_X b L xs S S.heap) (hbl : b < S.heap.size) (hbA : ¬ A b) (hL : L ≤ 2048) {aX aL aC aT aEx aSh aLd aTw aLe aOp aFa aM aWy aTr aAk aMx aMs aN bWy bTr bAk aNx aNs aR rEx rRd rTo rMi rCl rSh rFa aS aH sTr sAk sWy sXe sSg vTr vAk vWy vXe vSg aB : Nat} {i : Nat} (hi : i + 4 ≤ L) (ih : zGo p l e S m args below meth c Q G A b aX aL aC aT aEx aSh aLd aTw aLe aOp aFa aM aWy aTr aAk aMx aMs aN bWy bTr bAk aNx aNs aR rEx rRd rTo rMi rCl rSh rFa aS aH sTr sAk sWy sXe sSg vTr vAk vWy vXe vSg aB (i + 4) 23) : zGo p l e S m args below meth c Q G A b aX aL aC aT aEx aSh aLd aTw aLe aOp aFa aM aWy aTr aAk aMx aMs aN bWy bTr bAk aNx aNs aR rEx rRd rTo rMi rCl rSh rFa aS aH sTr sAk sWy sXe sSg vTr vAk vWy vXe vSg aB i 1320 := by
  unfold zGo at ih ⊢
  intro th pl rs po pq co go wl gu wk db dn iv qs tpo tco tgo twl tgu twk tdb tdn tiv tqs vpo vco vgo vln vwk vdb vdn viv vqs ex sh ld tw le op fa rd ml cz fb wy tr ak mx ms ur uk uy xe sg twy ttr tak tmx tms vtr vak vwy vxe vsg ot hI H locs ls hw hl
  obtain ⟨hx, hb, -, hown, hts, -⟩ := id hc
  have hN : i < 1000000 := by omega
  have hpl := hI.1.1
  have hex4 := hI.1.2.1
  have hld := hI.1.2.2.2.1
  have htt := hI.1.2.2.2.1
  have htw := hI.1.2.2.2.2.1
  have hrs := hI.1.2.2.2.2.2.2.1
  have hrd := hI.1.2.2.2.2.2.2.2.1
  have hsh := hI.2.1
  have hwl := zI_wl hI
  have htr := (zI_B hI).1
  have hak := (zI_B hI).2.1
  have hxe := zI_X hI
  have hky := zI_K hI
  have hkg := zI_Kg hI
  have hpw := zI_pw hI
  obtain ⟨k0, b0, ot2, e1, e2, e3⟩ := zo_strength hI (xs (nI i + 1).toNatClampNeg) (xs (nI i + 2).toNatClampNeg) ot
  refine lv_aload_n hx hb dL_law_1320 rfl (lv_at hl 3 rfl) ?_
  refine lv_aload_n hx hb dL_law_1321 rfl (lv_at hl 4 rfl) ?_
  refine lv_iload hx hb dL_law_1322 (lv_at hl 0 rfl) ?_
  refine lv_iconst (v := 1) hx hb dL_law_1324 (by decide) ?_
  refine lv_iadd hx hb dL_law_1325 ?_
  refine va_sld hx hb hX hbl hbA hw.2.2 (zix 1 rfl (by omega) hL) dL_law_1326 ?_
  refine lv_aload_n hx hb dL_law_1327 rfl (lv_at hl 4 rfl) ?_
  refine lv_iload hx hb dL_law_1328 (lv_at hl 0 rfl) ?_
  refine lv_iconst (v := 2) hx hb dL_law_1330 (by decide) ?_
  refine lv_iadd hx hb dL_law_1331 ?_
  refine va_sld hx hb hX hbl hbA hw.2.2 (zix 2 rfl (by omega) hL) dL_law_1332 ?_
  refine lv_aload_n hx hb dL_law_1333 rfl (lv_at hl 1 rfl) ?_
  refine xcall_i (isC := [0, 9, 13, 15, 1, 43]) hc hw (xrunSW (n := 4) (As := [.ref aX, .int (xs (nI i + 1).toNatClampNeg), .int (xs (nI i + 2).toNatClampNeg), .ref aB]) (rest := []) hc hw [0, 9, 13, 15, 1, 43] (metL_strength l G hst _ aX aL aC aT aM aWy aTr aAk aMx aMs aEx aSh aLd aTw aLe aOp aFa aB po co go wl gu wk db dn iv qs ms pl (xs (nI i + 1).toNatClampNeg) (xs (nI i + 2).toNatClampNeg) ot) gL_law_L_strength rfl (by decide +kernel) ⟨Nat.le_of_ble_eq_true rfl, Nat.le_of_ble_eq_true rfl⟩ rfl rfl rfl rfl hl.1 (Nat.le_of_ble_eq_true rfl) dL_law_1334 ⟨by show 100 + 4 * i + 2 ≤ 601024; omega, by show 3000 + 50 * i + 12 ≤ 7293034; omega⟩) rfl [2, 3, 4, 5, 6, 7, 8, 10, 11, 12, 14, 16, 17, 18, 19, 20, 21, 22, 23, 24, 25, 26, 27, 28, 29, 30, 31, 32, 33, 34, 35, 36, 37, 38, 39, 40, 41, 42] [38, 42, 0, 1, 2, 3, 4, 5, 6, 39, 7, 8, 9, 40, 10, 41, 11, 12, 13, 14, 15, 16, 17, 18, 19, 20, 21, 22, 23, 24, 25, 26, 27, 28, 29, 30, 31, 32, 33, 34, 35, 36, 37, 43] (fun u_1 => (xO aX 3 [.ref aL, .ref aC, .ref aT] :: xO aL 1 [.int pl, .ref aEx, .ref aSh, .ref aLd, .ref aTw, .ref aLe, .ref aOp, .ref aFa] :: xAI G aEx 10 ex :: xAZ G aSh 10 sh :: xAI G aLd 40 ld :: xAI G aTw 40 tw :: xAI G aLe 40 le :: xAZ G aOp 40 op :: xAI G aFa 10 fa :: xO aC 0 [.ref aL, .ref aM, .int po, .int co, .int go, .ref aWy, .int wl, .ref aTr, .ref aAk, .int gu, .int wk, .int db, .int dn, .int iv, .int qs] :: xAI G aWy 20 wy :: xAZ G aTr 40 tr :: xAZ G aAk 10 ak :: xO aM 2 [.ref aMx, .ref aMs] :: xAI G aMx 100 mx :: xAI G aMs 100 ms :: xO aT 0 [.ref aL, .ref aN, .int tpo, .int tco, .int tgo, .ref bWy, .int twl, .ref bTr, .ref bAk, .int tgu, .int twk, .int tdb, .int tdn, .int tiv, .int tqs] :: xAI G bWy 20 twy :: xAZ G bTr 40 ttr :: xAZ G bAk 10 tak :: xO aN 2 [.ref aNx, .ref aNs] :: xAI G aNx 100 tmx :: xAI G aNs 100 tms :: xO aR 5 [.int th, .int pl, .ref rEx, .ref rRd, .ref rTo, .int rs, .ref rMi, .ref rCl, .ref rSh, .ref rFa, .ref aS, .ref aH] :: xAI G rEx 10 ex :: xAI G rRd 40 rd :: xAI G rTo 40 ld :: xAI G rMi 20 ml :: xAZ G rCl 20 cz :: xAZ G rSh 10 sh :: xAI G rFa 10 fb :: xO aS 4 [.int pq, .int co, .int go, .ref sTr, .ref sAk, .ref sWy, .int wl, .ref sXe, .ref sSg, .int wk, .int db, .int dn, .int iv, .int qs] :: xAZ G sTr 20 ur :: xAZ G sAk 10 uk :: xAI G sWy 40 uy :: xAI G sXe 100 xe :: xAI G sSg 100 sg :: xO aH 4 [.int vpo, .int vco, .int vgo, .ref vTr, .ref vAk, .ref vWy, .int vln, .ref vXe, .ref vSg, .int vwk, .int vdb, .int vdn, .int viv, .int vqs] :: xAZ G vTr 20 vtr :: xAZ G vAk 10 vak :: xAI G vWy 40 vwy :: xAI G vXe 100 vxe :: xAI G vSg 100 vsg :: xAJ G aB 1 u_1 :: [])) (fun _ => rfl) rfl rfl rfl rfl (fun r_2 u_1 H locs hp_3 hw => ?_)
  rw [e1] at hp_3
  obtain ⟨e_r, e_u⟩ := hp_3
  have hw : xW G A S.heap (xO aX 3 [.ref aL, .ref aC, .ref aT] :: xO aL 1 [.int pl, .ref aEx, .ref aSh, .ref aLd, .ref aTw, .ref aLe, .ref aOp, .ref aFa] :: xAI G aEx 10 ex :: xAZ G aSh 10 sh :: xAI G aLd 40 ld :: xAI G aTw 40 tw :: xAI G aLe 40 le :: xAZ G aOp 40 op :: xAI G aFa 10 fa :: xO aC 0 [.ref aL, .ref aM, .int po, .int co, .int go, .ref aWy, .int wl, .ref aTr, .ref aAk, .int gu, .int wk, .int db, .int dn, .int iv, .int qs] :: xAI G aWy 20 wy :: xAZ G aTr 40 tr :: xAZ G aAk 10 ak :: xO aM 2 [.ref aMx, .ref aMs] :: xAI G aMx 100 mx :: xAI G aMs 100 ms :: xO aT 0 [.ref aL, .ref aN, .int tpo, .int tco, .int tgo, .ref bWy, .int twl, .ref bTr, .ref bAk, .int tgu, .int twk, .int tdb, .int tdn, .int tiv, .int tqs] :: xAI G bWy 20 twy :: xAZ G bTr 40 ttr :: xAZ G bAk 10 tak :: xO aN 2 [.ref aNx, .ref aNs] :: xAI G aNx 100 tmx :: xAI G aNs 100 tms :: xO aR 5 [.int th, .int pl, .ref rEx, .ref rRd, .ref rTo, .int rs, .ref rMi, .ref rCl, .ref rSh, .ref rFa, .ref aS, .ref aH] :: xAI G rEx 10 ex :: xAI G rRd 40 rd :: xAI G rTo 40 ld :: xAI G rMi 20 ml :: xAZ G rCl 20 cz :: xAZ G rSh 10 sh :: xAI G rFa 10 fb :: xO aS 4 [.int pq, .int co, .int go, .ref sTr, .ref sAk, .ref sWy, .int wl, .ref sXe, .ref sSg, .int wk, .int db, .int dn, .int iv, .int qs] :: xAZ G sTr 20 ur :: xAZ G sAk 10 uk :: xAI G sWy 40 uy :: xAI G sXe 100 xe :: xAI G sSg 100 sg :: xO aH 4 [.int vpo, .int vco, .int vgo, .ref vTr, .ref vAk, .ref vWy, .int vln, .ref vXe, .ref vSg, .int vwk, .int vdb, .int vdn, .int viv, .int vqs] :: xAZ G vTr 20 vtr :: xAZ G vAk 10 vak :: xAI G vWy 40 vwy :: xAI G vXe 100 vxe :: xAI G vSg 100 vsg :: xAJ G aB 1 ot2 :: []) H locs := by rw [e_u] at hw; exact hw
  have e_r : r_2 = k0 := e_r
  rw [e_r]
  clear e_r e_u
  refine lv_istore (lv' := [(5, .int k0), (4, .int (nI i)), (3, .ref aB), (2, .ref aR), (1, .ref aX), (0, .ref b)]) hx hb dL_law_1337 hl (by decide) rfl (fun ls hl => ?_)
  refine lv_aload_n hx hb dL_law_1339 rfl (lv_at hl 3 rfl) ?_
  refine lv_aload_n hx hb dL_law_1340 rfl (lv_at hl 5 rfl) ?_
  refine lv_iload hx hb dL_law_1341 (lv_at hl 1 rfl) ?_
  refine lv_iconst (v := 1) hx hb dL_law_1343 (by decide) ?_
  refine lv_iadd hx hb dL_law_1344 ?_
  refine va_sld hx hb hX hbl hbA hw.2.2 (zix 1 rfl (by omega) hL) dL_law_1345 ?_
  refine lv_aload_n hx hb dL_law_1346 rfl (lv_at hl 5 rfl) ?_
  refine lv_iload hx hb dL_law_1347 (lv_at hl 1 rfl) ?_
  refine lv_iconst (v := 2) hx hb dL_law_1349 (by decide) ?_
  refine lv_iadd hx hb dL_law_1350 ?_
  refine va_sld hx hb hX hbl hbA hw.2.2 (zix 2 rfl (by omega) hL) dL_law_1351 ?_
  refine xcall_i (isC := [23, 31, 35, 36]) hc hw (xrunV (n := 2) (As := [.int (xs (nI i + 1).toNatClampNeg), .int (xs (nI i + 2).toNatClampNeg)]) (rest := []) hc hw [23, 31, 35, 36] (metX5_strength l G _ aR rEx rRd rTo rMi rCl rSh rFa aS aH sTr sAk sWy sXe sSg th pl rs pq co go wl wk db dn iv qs xe sg (xs (nI i + 1).toNatClampNeg) (xs (nI i + 2).toNatClampNeg) hpl) gL_law_X5_strength rfl (by decide +kernel) ⟨Nat.le_of_ble_eq_true rfl, Nat.le_of_ble_eq_true rfl⟩ 23 rfl rfl rfl rfl rfl rfl hl.1 (Nat.le_of_ble_eq_true rfl) dL_law_1352 ⟨by show 100 + 4 * i + 2 + 0 ≤ 601024; omega, by show 3000 + 50 * i + 12 + 0 ≤ 7293034; omega⟩) rfl [0, 1, 2, 3, 4, 5, 6, 7, 8, 9, 10, 11, 12, 13, 14, 15, 16, 17, 18, 19, 20, 21, 22, 24, 25, 26, 27, 28, 29, 30, 32, 33, 34, 37, 38, 39, 40, 41, 42, 43] [0, 1, 2, 3, 4, 5, 6, 7, 8, 9, 10, 11, 12, 13, 14, 15, 16, 17, 18, 19, 20, 21, 22, 40, 23, 24, 25, 26, 27, 28, 29, 41, 30, 31, 32, 42, 43, 33, 34, 35, 36, 37, 38, 39] (fun u_4 => (xO aX 3 [.ref aL, .ref aC, .ref aT] :: xO aL 1 [.int pl, .ref aEx, .ref aSh, .ref aLd, .ref aTw, .ref aLe, .ref aOp, .ref aFa] :: xAI G aEx 10 ex :: xAZ G aSh 10 sh :: xAI G aLd 40 ld :: xAI G aTw 40 tw :: xAI G aLe 40 le :: xAZ G aOp 40 op :: xAI G aFa 10 fa :: xO aC 0 [.ref aL, .ref aM, .int po, .int co, .int go, .ref aWy, .int wl, .ref aTr, .ref aAk, .int gu, .int wk, .int db, .int dn, .int iv, .int qs] :: xAI G aWy 20 wy :: xAZ G aTr 40 tr :: xAZ G aAk 10 ak :: xO aM 2 [.ref aMx, .ref aMs] :: xAI G aMx 100 mx :: xAI G aMs 100 ms :: xO aT 0 [.ref aL, .ref aN, .int tpo, .int tco, .int tgo, .ref bWy, .int twl, .ref bTr, .ref bAk, .int tgu, .int twk, .int tdb, .int tdn, .int tiv, .int tqs] :: xAI G bWy 20 twy :: xAZ G bTr 40 ttr :: xAZ G bAk 10 tak :: xO aN 2 [.ref aNx, .ref aNs] :: xAI G aNx 100 tmx :: xAI G aNs 100 tms :: xO aR 5 [.int u_4, .int pl, .ref rEx, .ref rRd, .ref rTo, .int rs, .ref rMi, .ref rCl, .ref rSh, .ref rFa, .ref aS, .ref aH] :: xAI G rEx 10 ex :: xAI G rRd 40 rd :: xAI G rTo 40 ld :: xAI G rMi 20 ml :: xAZ G rCl 20 cz :: xAZ G rSh 10 sh :: xAI G rFa 10 fb :: xO aS 4 [.int pq, .int co, .int go, .ref sTr, .ref sAk, .ref sWy, .int wl, .ref sXe, .ref sSg, .int wk, .int db, .int dn, .int iv, .int qs] :: xAZ G sTr 20 ur :: xAZ G sAk 10 uk :: xAI G sWy 40 uy :: xAI G sXe 100 xe :: xAI G sSg 100 sg :: xO aH 4 [.int vpo, .int vco, .int vgo, .ref vTr, .ref vAk, .ref vWy, .int vln, .ref vXe, .ref vSg, .int vwk, .int vdb, .int vdn, .int viv, .int vqs] :: xAZ G vTr 20 vtr :: xAZ G vAk 10 vak :: xAI G vWy 40 vwy :: xAI G vXe 100 vxe :: xAI G vSg 100 vsg :: xAJ G aB 1 ot2 :: [])) (fun _ => rfl) rfl rfl rfl rfl (fun r_5 u_4 H locs hp_6 hw => ?_)
  rw [e2] at hp_6
  obtain ⟨e_r, e_u⟩ := hp_6
  have hw : xW G A S.heap (xO aX 3 [.ref aL, .ref aC, .ref aT] :: xO aL 1 [.int pl, .ref aEx, .ref aSh, .ref aLd, .ref aTw, .ref aLe, .ref aOp, .ref aFa] :: xAI G aEx 10 ex :: xAZ G aSh 10 sh :: xAI G aLd 40 ld :: xAI G aTw 40 tw :: xAI G aLe 40 le :: xAZ G aOp 40 op :: xAI G aFa 10 fa :: xO aC 0 [.ref aL, .ref aM, .int po, .int co, .int go, .ref aWy, .int wl, .ref aTr, .ref aAk, .int gu, .int wk, .int db, .int dn, .int iv, .int qs] :: xAI G aWy 20 wy :: xAZ G aTr 40 tr :: xAZ G aAk 10 ak :: xO aM 2 [.ref aMx, .ref aMs] :: xAI G aMx 100 mx :: xAI G aMs 100 ms :: xO aT 0 [.ref aL, .ref aN, .int tpo, .int tco, .int tgo, .ref bWy, .int twl, .ref bTr, .ref bAk, .int tgu, .int twk, .int tdb, .int tdn, .int tiv, .int tqs] :: xAI G bWy 20 twy :: xAZ G bTr 40 ttr :: xAZ G bAk 10 tak :: xO aN 2 [.ref aNx, .ref aNs] :: xAI G aNx 100 tmx :: xAI G aNs 100 tms :: xO aR 5 [.int k0, .int pl, .ref rEx, .ref rRd, .ref rTo, .int rs, .ref rMi, .ref rCl, .ref rSh, .ref rFa, .ref aS, .ref aH] :: xAI G rEx 10 ex :: xAI G rRd 40 rd :: xAI G rTo 40 ld :: xAI G rMi 20 ml :: xAZ G rCl 20 cz :: xAZ G rSh 10 sh :: xAI G rFa 10 fb :: xO aS 4 [.int pq, .int co, .int go, .ref sTr, .ref sAk, .ref sWy, .int wl, .ref sXe, .ref sSg, .int wk, .int db, .int dn, .int iv, .int qs] :: xAZ G sTr 20 ur :: xAZ G sAk 10 uk :: xAI G sWy 40 uy :: xAI G sXe 100 xe :: xAI G sSg 100 sg :: xO aH 4 [.int vpo, .int vco, .int vgo, .ref vTr, .ref vAk, .ref vWy, .int vln, .ref vXe, .ref vSg, .int vwk, .int vdb, .int vdn, .int viv, .int vqs] :: xAZ G vTr 20 vtr :: xAZ G vAk 10 vak :: xAI G vWy 40 vwy :: xAI G vXe 100 vxe :: xAI G vSg 100 vsg :: xAJ G aB 1 ot2 :: []) H locs := by rw [e_u] at hw; exact hw
  have e_r : r_5 = b0 := e_r
  rw [e_r]
  clear e_r e_u
  refine lv_istore (lv' := [(6, .int b0), (5, .int k0), (4, .int (nI i)), (3, .ref aB), (2, .ref aR), (1, .ref aX), (0, .ref b)]) hx hb dL_law_1355 hl (by decide) rfl (fun ls hl => ?_)
  refine lv_aload_n hx hb dL_law_1357 rfl (lv_at hl 4 rfl) ?_
  refine xcall_i (isC := [23]) hc hw (xrunV (n := 0) (As := []) (rest := []) hc hw [23] (metX5_thrown l G _ aR rEx rRd rTo rMi rCl rSh rFa aS aH k0 pl rs) gL_law_X5_thrown rfl (by decide +kernel) ⟨Nat.le_of_ble_eq_true rfl, Nat.le_of_ble_eq_true rfl⟩ 23 rfl rfl rfl rfl rfl rfl hl.1 (Nat.le_of_ble_eq_true rfl) dL_law_1358 ⟨by show 100 + 4 * i + 2 + 0 + 0 ≤ 601024; omega, by show 3000 + 50 * i + 12 + 0 + 0 ≤ 7293034; omega⟩) rfl [0, 1, 2, 3, 4, 5, 6, 7, 8, 9, 10, 11, 12, 13, 14, 15, 16, 17, 18, 19, 20, 21, 22, 24, 25, 26, 27, 28, 29, 30, 31, 32, 33, 34, 35, 36, 37, 38, 39, 40, 41, 42, 43] [0, 1, 2, 3, 4, 5, 6, 7, 8, 9, 10, 11, 12, 13, 14, 15, 16, 17, 18, 19, 20, 21, 22, 43, 23, 24, 25, 26, 27, 28, 29, 30, 31, 32, 33, 34, 35, 36, 37, 38, 39, 40, 41, 42] (fun u_7 => (xO aX 3 [.ref aL, .ref aC, .ref aT] :: xO aL 1 [.int pl, .ref aEx, .ref aSh, .ref aLd, .ref aTw, .ref aLe, .ref aOp, .ref aFa] :: xAI G aEx 10 ex :: xAZ G aSh 10 sh :: xAI G aLd 40 ld :: xAI G aTw 40 tw :: xAI G aLe 40 le :: xAZ G aOp 40 op :: xAI G aFa 10 fa :: xO aC 0 [.ref aL, .ref aM, .int po, .int co, .int go, .ref aWy, .int wl, .ref aTr, .ref aAk, .int gu, .int wk, .int db, .int dn, .int iv, .int qs] :: xAI G aWy 20 wy :: xAZ G aTr 40 tr :: xAZ G aAk 10 ak :: xO aM 2 [.ref aMx, .ref aMs] :: xAI G aMx 100 mx :: xAI G aMs 100 ms :: xO aT 0 [.ref aL, .ref aN, .int tpo, .int tco, .int tgo, .ref bWy, .int twl, .ref bTr, .ref bAk, .int tgu, .int twk, .int tdb, .int tdn, .int tiv, .int tqs] :: xAI G bWy 20 twy :: xAZ G bTr 40 ttr :: xAZ G bAk 10 tak :: xO aN 2 [.ref aNx, .ref aNs] :: xAI G aNx 100 tmx :: xAI G aNs 100 tms :: xO aR 5 [.int k0, .int pl, .ref rEx, .ref rRd, .ref rTo, .int rs, .ref rMi, .ref rCl, .ref rSh, .ref rFa, .ref aS, .ref aH] :: xAI G rEx 10 ex :: xAI G rRd 40 rd :: xAI G rTo 40 ld :: xAI G rMi 20 ml :: xAZ G rCl 20 cz :: xAZ G rSh 10 sh :: xAI G rFa 10 fb :: xO aS 4 [.int pq, .int co, .int go, .ref sTr, .ref sAk, .ref sWy, .int wl, .ref sXe, .ref sSg, .int wk, .int db, .int dn, .int iv, .int qs] :: xAZ G sTr 20 ur :: xAZ G sAk 10 uk :: xAI G sWy 40 uy :: xAI G sXe 100 xe :: xAI G sSg 100 sg :: xO aH 4 [.int vpo, .int vco, .int vgo, .ref vTr, .ref vAk, .ref vWy, .int vln, .ref vXe, .ref vSg, .int vwk, .int vdb, .int vdn, .int viv, .int vqs] :: xAZ G vTr 20 vtr :: xAZ G vAk 10 vak :: xAI G vWy 40 vwy :: xAI G vXe 100 vxe :: xAI G vSg 100 vsg :: xAJ G aB 1 ot2 :: [])) (fun _ => rfl) rfl rfl rfl rfl (fun r_8 u_7 H locs hp_9 hw => ?_)
  have e_r : r_8 = k0 := hp_9
  rw [e_r]
  clear e_r
  refine lv_iload hx hb dL_law_1361 (lv_at hl 1 rfl) ?_
  refine lv_icmp_eq (tgt := 1368) hx hb dL_law_1363 (by decide) (fun _ => ?_) (fun h => absurd rfl h)
  refine lv_iload hx hb dL_law_1368 (lv_at hl 1 rfl) ?_
  refine lv_if_ne (tgt := 1385) hx hb dL_law_1370 (by decide) (fun c0 => ?_) (fun c0 => ?_)
  · refine lv_goto (tgt := 1683) hx hb dL_law_1385 (by decide) ?_
    refine lv_iinc (v := nI (i + 4)) (lv' := [(4, .int (nI (i + 4))), (6, .int b0), (5, .int k0), (3, .ref aB), (2, .ref aR), (1, .ref aX), (0, .ref b)]) hx hb dL_law_1683 hl (k := 2) rfl (nI_add i 4) (by decide) rfl (fun ls hl => ?_)
    refine lv_goto (tgt := 23) hx hb dL_law_1686 (by decide) ?_
    refine W.widen (k := 100 + 4 * (i + 4)) (n := 3000 + 50 * (i + 4)) (by show 100 + 4 * i + 2 + 0 + 0 ≤ _; omega) (by show 3000 + 50 * i + 12 + 0 + 0 ≤ _; omega) ?_
    exact ih k0 pl rs po pq co go wl gu wk db dn iv qs tpo tco tgo twl tgu twk tdb tdn tiv tqs vpo vco vgo vln vwk vdb vdn viv vqs ex sh ld tw le op fa rd ml cz fb wy tr ak mx ms ur uk uy xe sg twy ttr tak tmx tms vtr vak vwy vxe vsg ot2 (zI_up hI (by omega)) H locs ls hw (lv_sub hl [0, 3, 4, 5, 6] rfl)
  · refine lv_aload_n hx hb dL_law_1373 rfl (lv_at hl 3 rfl) ?_
    refine lv_iconst (v := 0) hx hb dL_law_1374 (by decide) ?_
    refine xlald hc hw 43 rfl (xin ⟨by decide, by decide⟩) dL_law_1375 ?_
    refine lv_iload hx hb dL_law_1376 (lv_at hl 0 rfl) ?_
    refine lv_i2l hx hb dL_law_1378 rfl ?_
    refine W.lcmp hx hb dL_law_1379 ?_
    refine lv_if_eq (tgt := 1385) hx hb dL_law_1380 (by decide) (fun _ => ?_) (fun h => absurd (zlc (by rw [sb_cl0]; exact e3 c0)) h)
    refine lv_goto (tgt := 1683) hx hb dL_law_1385 (by decide) ?_
    refine lv_iinc (v := nI (i + 4)) (lv' := [(4, .int (nI (i + 4))), (6, .int b0), (5, .int k0), (3, .ref aB), (2, .ref aR), (1, .ref aX), (0, .ref b)]) hx hb dL_law_1683 hl (k := 2) rfl (nI_add i 4) (by decide) rfl (fun ls hl => ?_)
    refine lv_goto (tgt := 23) hx hb dL_law_1686 (by decide) ?_
    refine W.widen (k := 100 + 4 * (i + 4)) (n := 3000 + 50 * (i + 4)) (by show 100 + 4 * i + 2 + 0 + 0 ≤ _; omega) (by show 3000 + 50 * i + 12 + 0 + 0 ≤ _; omega) ?_
    exact ih k0 pl rs po pq co go wl gu wk db dn iv qs tpo tco tgo twl tgu twk tdb tdn tiv tqs vpo vco vgo vln vwk vdb vdn viv vqs ex sh ld tw le op fa rd ml cz fb wy tr ak mx ms ur uk uy xe sg twy ttr tak tmx tms vtr vak vwy vxe vsg ot2 (zI_up hI (by omega)) H locs ls hw (lv_sub hl [0, 3, 4, 5, 6] rfl)
set_option maxHeartbeats 40000000 in
set_option maxRecDepth 100000 in
theorem lwc_23 {p : Program} {l : Launch} {e : Env} {S : State} {m : MethodId} {args : Array Value} {below : List Frame} {meth : Method} {c : Code} {Q : State → Prop} {G : xG} {A : Nat → Prop} (hst : l.stackTraces = false) (hc : xC p S m args meth c cL_law 9 RL wsL_law (some .boolean) G A) {b L : Nat} {xs : Nat → Int32} (hX : va_X b L xs S S.heap) (hbl : b < S.heap.size) (hbA : ¬ A b) (hL : L ≤ 2048) {aX aL aC aT aEx aSh aLd aTw aLe aOp aFa aM aWy aTr aAk aMx aMs aN bWy bTr bAk aNx aNs aR rEx rRd rTo rMi rCl rSh rFa aS aH sTr sAk sWy sXe sSg vTr vAk vWy vXe vSg aB : Nat} {i : Nat} (hi : i + 4 ≤ L) (ih : zGo p l e S m args below meth c Q G A b aX aL aC aT aEx aSh aLd aTw aLe aOp aFa aM aWy aTr aAk aMx aMs aN bWy bTr bAk aNx aNs aR rEx rRd rTo rMi rCl rSh rFa aS aH sTr sAk sWy sXe sSg vTr vAk vWy vXe vSg aB (i + 4) 23) : zGo p l e S m args below meth c Q G A b aX aL aC aT aEx aSh aLd aTw aLe aOp aFa aM aWy aTr aAk aMx aMs aN bWy bTr bAk aNx aNs aR rEx rRd rTo rMi rCl rSh rFa aS aH sTr sAk sWy sXe sSg vTr vAk vWy vXe vSg aB i 1388 := by
  unfold zGo at ih ⊢
  intro th pl rs po pq co go wl gu wk db dn iv qs tpo tco tgo twl tgu twk tdb tdn tiv tqs vpo vco vgo vln vwk vdb vdn viv vqs ex sh ld tw le op fa rd ml cz fb wy tr ak mx ms ur uk uy xe sg twy ttr tak tmx tms vtr vak vwy vxe vsg ot hI H locs ls hw hl
  obtain ⟨hx, hb, -, hown, hts, -⟩ := id hc
  have hN : i < 1000000 := by omega
  have hpl := hI.1.1
  have hex4 := hI.1.2.1
  have hld := hI.1.2.2.2.1
  have htt := hI.1.2.2.2.1
  have htw := hI.1.2.2.2.2.1
  have hrs := hI.1.2.2.2.2.2.2.1
  have hrd := hI.1.2.2.2.2.2.2.2.1
  have hsh := hI.2.1
  have hwl := zI_wl hI
  have htr := (zI_B hI).1
  have hak := (zI_B hI).2.1
  have hxe := zI_X hI
  have hky := zI_K hI
  have hkg := zI_Kg hI
  have hpw := zI_pw hI
  obtain ⟨k0, b0, ot2, e1, e2, e3⟩ := zo_knowsWay hI (xs (nI i + 1).toNatClampNeg) ot
  refine lv_aload_n hx hb dL_law_1388 rfl (lv_at hl 3 rfl) ?_
  refine lv_aload_n hx hb dL_law_1389 rfl (lv_at hl 4 rfl) ?_
  refine lv_iload hx hb dL_law_1390 (lv_at hl 0 rfl) ?_
  refine lv_iconst (v := 1) hx hb dL_law_1392 (by decide) ?_
  refine lv_iadd hx hb dL_law_1393 ?_
  refine va_sld hx hb hX hbl hbA hw.2.2 (zix 1 rfl (by omega) hL) dL_law_1394 ?_
  refine lv_aload_n hx hb dL_law_1395 rfl (lv_at hl 1 rfl) ?_
  refine xcall_i (isC := [0, 9, 13, 14, 15, 1, 2, 4, 7, 43]) hc hw (xrunSW (n := 3) (As := [.ref aX, .int (xs (nI i + 1).toNatClampNeg), .ref aB]) (rest := []) hc hw [0, 9, 13, 14, 15, 1, 2, 4, 7, 43] (metL_knowsWay l G hst _ aX aL aC aT aM aWy aTr aAk aMx aMs aEx aSh aLd aTw aLe aOp aFa aB po co go wl gu wk db dn iv qs mx ms pl ex ld op (xs (nI i + 1).toNatClampNeg) ot hpl) gL_law_L_knowsWay rfl (by decide +kernel) ⟨Nat.le_of_ble_eq_true rfl, Nat.le_of_ble_eq_true rfl⟩ rfl rfl rfl rfl hl.1 (Nat.le_of_ble_eq_true rfl) dL_law_1396 ⟨by show 100 + 4 * i + 1 ≤ 601024; omega, by show 3000 + 50 * i + 6 ≤ 7293034; omega⟩) rfl [3, 5, 6, 8, 10, 11, 12, 16, 17, 18, 19, 20, 21, 22, 23, 24, 25, 26, 27, 28, 29, 30, 31, 32, 33, 34, 35, 36, 37, 38, 39, 40, 41, 42] [34, 39, 40, 0, 41, 1, 2, 42, 3, 35, 4, 5, 6, 36, 37, 38, 7, 8, 9, 10, 11, 12, 13, 14, 15, 16, 17, 18, 19, 20, 21, 22, 23, 24, 25, 26, 27, 28, 29, 30, 31, 32, 33, 43] (fun u_1 => (xO aX 3 [.ref aL, .ref aC, .ref aT] :: xO aL 1 [.int pl, .ref aEx, .ref aSh, .ref aLd, .ref aTw, .ref aLe, .ref aOp, .ref aFa] :: xAI G aEx 10 ex :: xAZ G aSh 10 sh :: xAI G aLd 40 ld :: xAI G aTw 40 tw :: xAI G aLe 40 le :: xAZ G aOp 40 op :: xAI G aFa 10 fa :: xO aC 0 [.ref aL, .ref aM, .int po, .int co, .int go, .ref aWy, .int wl, .ref aTr, .ref aAk, .int gu, .int wk, .int db, .int dn, .int iv, .int qs] :: xAI G aWy 20 wy :: xAZ G aTr 40 tr :: xAZ G aAk 10 ak :: xO aM 2 [.ref aMx, .ref aMs] :: xAI G aMx 100 mx :: xAI G aMs 100 ms :: xO aT 0 [.ref aL, .ref aN, .int tpo, .int tco, .int tgo, .ref bWy, .int twl, .ref bTr, .ref bAk, .int tgu, .int twk, .int tdb, .int tdn, .int tiv, .int tqs] :: xAI G bWy 20 twy :: xAZ G bTr 40 ttr :: xAZ G bAk 10 tak :: xO aN 2 [.ref aNx, .ref aNs] :: xAI G aNx 100 tmx :: xAI G aNs 100 tms :: xO aR 5 [.int th, .int pl, .ref rEx, .ref rRd, .ref rTo, .int rs, .ref rMi, .ref rCl, .ref rSh, .ref rFa, .ref aS, .ref aH] :: xAI G rEx 10 ex :: xAI G rRd 40 rd :: xAI G rTo 40 ld :: xAI G rMi 20 ml :: xAZ G rCl 20 cz :: xAZ G rSh 10 sh :: xAI G rFa 10 fb :: xO aS 4 [.int pq, .int co, .int go, .ref sTr, .ref sAk, .ref sWy, .int wl, .ref sXe, .ref sSg, .int wk, .int db, .int dn, .int iv, .int qs] :: xAZ G sTr 20 ur :: xAZ G sAk 10 uk :: xAI G sWy 40 uy :: xAI G sXe 100 xe :: xAI G sSg 100 sg :: xO aH 4 [.int vpo, .int vco, .int vgo, .ref vTr, .ref vAk, .ref vWy, .int vln, .ref vXe, .ref vSg, .int vwk, .int vdb, .int vdn, .int viv, .int vqs] :: xAZ G vTr 20 vtr :: xAZ G vAk 10 vak :: xAI G vWy 40 vwy :: xAI G vXe 100 vxe :: xAI G vSg 100 vsg :: xAJ G aB 1 u_1 :: [])) (fun _ => rfl) rfl rfl rfl rfl (fun r_2 u_1 H locs hp_3 hw => ?_)
  rw [e1] at hp_3
  obtain ⟨e_r, e_u⟩ := hp_3
  have hw : xW G A S.heap (xO aX 3 [.ref aL, .ref aC, .ref aT] :: xO aL 1 [.int pl, .ref aEx, .ref aSh, .ref aLd, .ref aTw, .ref aLe, .ref aOp, .ref aFa] :: xAI G aEx 10 ex :: xAZ G aSh 10 sh :: xAI G aLd 40 ld :: xAI G aTw 40 tw :: xAI G aLe 40 le :: xAZ G aOp 40 op :: xAI G aFa 10 fa :: xO aC 0 [.ref aL, .ref aM, .int po, .int co, .int go, .ref aWy, .int wl, .ref aTr, .ref aAk, .int gu, .int wk, .int db, .int dn, .int iv, .int qs] :: xAI G aWy 20 wy :: xAZ G aTr 40 tr :: xAZ G aAk 10 ak :: xO aM 2 [.ref aMx, .ref aMs] :: xAI G aMx 100 mx :: xAI G aMs 100 ms :: xO aT 0 [.ref aL, .ref aN, .int tpo, .int tco, .int tgo, .ref bWy, .int twl, .ref bTr, .ref bAk, .int tgu, .int twk, .int tdb, .int tdn, .int tiv, .int tqs] :: xAI G bWy 20 twy :: xAZ G bTr 40 ttr :: xAZ G bAk 10 tak :: xO aN 2 [.ref aNx, .ref aNs] :: xAI G aNx 100 tmx :: xAI G aNs 100 tms :: xO aR 5 [.int th, .int pl, .ref rEx, .ref rRd, .ref rTo, .int rs, .ref rMi, .ref rCl, .ref rSh, .ref rFa, .ref aS, .ref aH] :: xAI G rEx 10 ex :: xAI G rRd 40 rd :: xAI G rTo 40 ld :: xAI G rMi 20 ml :: xAZ G rCl 20 cz :: xAZ G rSh 10 sh :: xAI G rFa 10 fb :: xO aS 4 [.int pq, .int co, .int go, .ref sTr, .ref sAk, .ref sWy, .int wl, .ref sXe, .ref sSg, .int wk, .int db, .int dn, .int iv, .int qs] :: xAZ G sTr 20 ur :: xAZ G sAk 10 uk :: xAI G sWy 40 uy :: xAI G sXe 100 xe :: xAI G sSg 100 sg :: xO aH 4 [.int vpo, .int vco, .int vgo, .ref vTr, .ref vAk, .ref vWy, .int vln, .ref vXe, .ref vSg, .int vwk, .int vdb, .int vdn, .int viv, .int vqs] :: xAZ G vTr 20 vtr :: xAZ G vAk 10 vak :: xAI G vWy 40 vwy :: xAI G vXe 100 vxe :: xAI G vSg 100 vsg :: xAJ G aB 1 ot2 :: []) H locs := by rw [e_u] at hw; exact hw
  have e_r : r_2 = k0 := e_r
  rw [e_r]
  clear e_r e_u
  refine lv_istore (lv' := [(5, .int k0), (4, .int (nI i)), (3, .ref aB), (2, .ref aR), (1, .ref aX), (0, .ref b)]) hx hb dL_law_1399 hl (by decide) rfl (fun ls hl => ?_)
  refine lv_aload_n hx hb dL_law_1401 rfl (lv_at hl 3 rfl) ?_
  refine lv_aload_n hx hb dL_law_1402 rfl (lv_at hl 5 rfl) ?_
  refine lv_iload hx hb dL_law_1403 (lv_at hl 1 rfl) ?_
  refine lv_iconst (v := 1) hx hb dL_law_1405 (by decide) ?_
  refine lv_iadd hx hb dL_law_1406 ?_
  refine va_sld hx hb hX hbl hbA hw.2.2 (zix 1 rfl (by omega) hL) dL_law_1407 ?_
  refine xcall_i (isC := [23, 25, 26, 28, 31, 35]) hc hw (xrunV (n := 1) (As := [.int (xs (nI i + 1).toNatClampNeg)]) (rest := []) hc hw [23, 25, 26, 28, 31, 35] (metX5_knowsWay l G _ aR rEx rRd rTo rMi rCl rSh rFa aS aH sTr sAk sWy sXe sSg th pl rs rd ld cz pq co go wl wk db dn iv qs xe (xs (nI i + 1).toNatClampNeg) hpl hrd htt hxe hpw) gL_law_X5_knowsWay rfl (by decide +kernel) ⟨Nat.le_of_ble_eq_true rfl, Nat.le_of_ble_eq_true rfl⟩ 23 rfl rfl rfl rfl rfl rfl hl.1 (Nat.le_of_ble_eq_true rfl) dL_law_1408 ⟨by show 100 + 4 * i + 1 + 0 ≤ 601024; omega, by show 3000 + 50 * i + 6 + 0 ≤ 7293034; omega⟩) rfl [0, 1, 2, 3, 4, 5, 6, 7, 8, 9, 10, 11, 12, 13, 14, 15, 16, 17, 18, 19, 20, 21, 22, 24, 27, 29, 30, 32, 33, 34, 36, 37, 38, 39, 40, 41, 42, 43] [0, 1, 2, 3, 4, 5, 6, 7, 8, 9, 10, 11, 12, 13, 14, 15, 16, 17, 18, 19, 20, 21, 22, 38, 23, 39, 40, 24, 41, 25, 26, 42, 27, 28, 29, 43, 30, 31, 32, 33, 34, 35, 36, 37] (fun u_4 => (xO aX 3 [.ref aL, .ref aC, .ref aT] :: xO aL 1 [.int pl, .ref aEx, .ref aSh, .ref aLd, .ref aTw, .ref aLe, .ref aOp, .ref aFa] :: xAI G aEx 10 ex :: xAZ G aSh 10 sh :: xAI G aLd 40 ld :: xAI G aTw 40 tw :: xAI G aLe 40 le :: xAZ G aOp 40 op :: xAI G aFa 10 fa :: xO aC 0 [.ref aL, .ref aM, .int po, .int co, .int go, .ref aWy, .int wl, .ref aTr, .ref aAk, .int gu, .int wk, .int db, .int dn, .int iv, .int qs] :: xAI G aWy 20 wy :: xAZ G aTr 40 tr :: xAZ G aAk 10 ak :: xO aM 2 [.ref aMx, .ref aMs] :: xAI G aMx 100 mx :: xAI G aMs 100 ms :: xO aT 0 [.ref aL, .ref aN, .int tpo, .int tco, .int tgo, .ref bWy, .int twl, .ref bTr, .ref bAk, .int tgu, .int twk, .int tdb, .int tdn, .int tiv, .int tqs] :: xAI G bWy 20 twy :: xAZ G bTr 40 ttr :: xAZ G bAk 10 tak :: xO aN 2 [.ref aNx, .ref aNs] :: xAI G aNx 100 tmx :: xAI G aNs 100 tms :: xO aR 5 [.int u_4, .int pl, .ref rEx, .ref rRd, .ref rTo, .int rs, .ref rMi, .ref rCl, .ref rSh, .ref rFa, .ref aS, .ref aH] :: xAI G rEx 10 ex :: xAI G rRd 40 rd :: xAI G rTo 40 ld :: xAI G rMi 20 ml :: xAZ G rCl 20 cz :: xAZ G rSh 10 sh :: xAI G rFa 10 fb :: xO aS 4 [.int pq, .int co, .int go, .ref sTr, .ref sAk, .ref sWy, .int wl, .ref sXe, .ref sSg, .int wk, .int db, .int dn, .int iv, .int qs] :: xAZ G sTr 20 ur :: xAZ G sAk 10 uk :: xAI G sWy 40 uy :: xAI G sXe 100 xe :: xAI G sSg 100 sg :: xO aH 4 [.int vpo, .int vco, .int vgo, .ref vTr, .ref vAk, .ref vWy, .int vln, .ref vXe, .ref vSg, .int vwk, .int vdb, .int vdn, .int viv, .int vqs] :: xAZ G vTr 20 vtr :: xAZ G vAk 10 vak :: xAI G vWy 40 vwy :: xAI G vXe 100 vxe :: xAI G vSg 100 vsg :: xAJ G aB 1 ot2 :: [])) (fun _ => rfl) rfl rfl rfl rfl (fun r_5 u_4 H locs hp_6 hw => ?_)
  rw [e2] at hp_6
  obtain ⟨e_r, e_u⟩ := hp_6
  have hw : xW G A S.heap (xO aX 3 [.ref aL, .ref aC, .ref aT] :: xO aL 1 [.int pl, .ref aEx, .ref aSh, .ref aLd, .ref aTw, .ref aLe, .ref aOp, .ref aFa] :: xAI G aEx 10 ex :: xAZ G aSh 10 sh :: xAI G aLd 40 ld :: xAI G aTw 40 tw :: xAI G aLe 40 le :: xAZ G aOp 40 op :: xAI G aFa 10 fa :: xO aC 0 [.ref aL, .ref aM, .int po, .int co, .int go, .ref aWy, .int wl, .ref aTr, .ref aAk, .int gu, .int wk, .int db, .int dn, .int iv, .int qs] :: xAI G aWy 20 wy :: xAZ G aTr 40 tr :: xAZ G aAk 10 ak :: xO aM 2 [.ref aMx, .ref aMs] :: xAI G aMx 100 mx :: xAI G aMs 100 ms :: xO aT 0 [.ref aL, .ref aN, .int tpo, .int tco, .int tgo, .ref bWy, .int twl, .ref bTr, .ref bAk, .int tgu, .int twk, .int tdb, .int tdn, .int tiv, .int tqs] :: xAI G bWy 20 twy :: xAZ G bTr 40 ttr :: xAZ G bAk 10 tak :: xO aN 2 [.ref aNx, .ref aNs] :: xAI G aNx 100 tmx :: xAI G aNs 100 tms :: xO aR 5 [.int k0, .int pl, .ref rEx, .ref rRd, .ref rTo, .int rs, .ref rMi, .ref rCl, .ref rSh, .ref rFa, .ref aS, .ref aH] :: xAI G rEx 10 ex :: xAI G rRd 40 rd :: xAI G rTo 40 ld :: xAI G rMi 20 ml :: xAZ G rCl 20 cz :: xAZ G rSh 10 sh :: xAI G rFa 10 fb :: xO aS 4 [.int pq, .int co, .int go, .ref sTr, .ref sAk, .ref sWy, .int wl, .ref sXe, .ref sSg, .int wk, .int db, .int dn, .int iv, .int qs] :: xAZ G sTr 20 ur :: xAZ G sAk 10 uk :: xAI G sWy 40 uy :: xAI G sXe 100 xe :: xAI G sSg 100 sg :: xO aH 4 [.int vpo, .int vco, .int vgo, .ref vTr, .ref vAk, .ref vWy, .int vln, .ref vXe, .ref vSg, .int vwk, .int vdb, .int vdn, .int viv, .int vqs] :: xAZ G vTr 20 vtr :: xAZ G vAk 10 vak :: xAI G vWy 40 vwy :: xAI G vXe 100 vxe :: xAI G vSg 100 vsg :: xAJ G aB 1 ot2 :: []) H locs := by rw [e_u] at hw; exact hw
  have e_r : r_5 = b0 := e_r
  rw [e_r]
  clear e_r e_u
  refine lv_istore (lv' := [(6, .int b0), (5, .int k0), (4, .int (nI i)), (3, .ref aB), (2, .ref aR), (1, .ref aX), (0, .ref b)]) hx hb dL_law_1411 hl (by decide) rfl (fun ls hl => ?_)
  refine lv_aload_n hx hb dL_law_1413 rfl (lv_at hl 4 rfl) ?_
  refine xcall_i (isC := [23]) hc hw (xrunV (n := 0) (As := []) (rest := []) hc hw [23] (metX5_thrown l G _ aR rEx rRd rTo rMi rCl rSh rFa aS aH k0 pl rs) gL_law_X5_thrown rfl (by decide +kernel) ⟨Nat.le_of_ble_eq_true rfl, Nat.le_of_ble_eq_true rfl⟩ 23 rfl rfl rfl rfl rfl rfl hl.1 (Nat.le_of_ble_eq_true rfl) dL_law_1414 ⟨by show 100 + 4 * i + 1 + 0 + 0 ≤ 601024; omega, by show 3000 + 50 * i + 6 + 0 + 0 ≤ 7293034; omega⟩) rfl [0, 1, 2, 3, 4, 5, 6, 7, 8, 9, 10, 11, 12, 13, 14, 15, 16, 17, 18, 19, 20, 21, 22, 24, 25, 26, 27, 28, 29, 30, 31, 32, 33, 34, 35, 36, 37, 38, 39, 40, 41, 42, 43] [0, 1, 2, 3, 4, 5, 6, 7, 8, 9, 10, 11, 12, 13, 14, 15, 16, 17, 18, 19, 20, 21, 22, 43, 23, 24, 25, 26, 27, 28, 29, 30, 31, 32, 33, 34, 35, 36, 37, 38, 39, 40, 41, 42] (fun u_7 => (xO aX 3 [.ref aL, .ref aC, .ref aT] :: xO aL 1 [.int pl, .ref aEx, .ref aSh, .ref aLd, .ref aTw, .ref aLe, .ref aOp, .ref aFa] :: xAI G aEx 10 ex :: xAZ G aSh 10 sh :: xAI G aLd 40 ld :: xAI G aTw 40 tw :: xAI G aLe 40 le :: xAZ G aOp 40 op :: xAI G aFa 10 fa :: xO aC 0 [.ref aL, .ref aM, .int po, .int co, .int go, .ref aWy, .int wl, .ref aTr, .ref aAk, .int gu, .int wk, .int db, .int dn, .int iv, .int qs] :: xAI G aWy 20 wy :: xAZ G aTr 40 tr :: xAZ G aAk 10 ak :: xO aM 2 [.ref aMx, .ref aMs] :: xAI G aMx 100 mx :: xAI G aMs 100 ms :: xO aT 0 [.ref aL, .ref aN, .int tpo, .int tco, .int tgo, .ref bWy, .int twl, .ref bTr, .ref bAk, .int tgu, .int twk, .int tdb, .int tdn, .int tiv, .int tqs] :: xAI G bWy 20 twy :: xAZ G bTr 40 ttr :: xAZ G bAk 10 tak :: xO aN 2 [.ref aNx, .ref aNs] :: xAI G aNx 100 tmx :: xAI G aNs 100 tms :: xO aR 5 [.int k0, .int pl, .ref rEx, .ref rRd, .ref rTo, .int rs, .ref rMi, .ref rCl, .ref rSh, .ref rFa, .ref aS, .ref aH] :: xAI G rEx 10 ex :: xAI G rRd 40 rd :: xAI G rTo 40 ld :: xAI G rMi 20 ml :: xAZ G rCl 20 cz :: xAZ G rSh 10 sh :: xAI G rFa 10 fb :: xO aS 4 [.int pq, .int co, .int go, .ref sTr, .ref sAk, .ref sWy, .int wl, .ref sXe, .ref sSg, .int wk, .int db, .int dn, .int iv, .int qs] :: xAZ G sTr 20 ur :: xAZ G sAk 10 uk :: xAI G sWy 40 uy :: xAI G sXe 100 xe :: xAI G sSg 100 sg :: xO aH 4 [.int vpo, .int vco, .int vgo, .ref vTr, .ref vAk, .ref vWy, .int vln, .ref vXe, .ref vSg, .int vwk, .int vdb, .int vdn, .int viv, .int vqs] :: xAZ G vTr 20 vtr :: xAZ G vAk 10 vak :: xAI G vWy 40 vwy :: xAI G vXe 100 vxe :: xAI G vSg 100 vsg :: xAJ G aB 1 ot2 :: [])) (fun _ => rfl) rfl rfl rfl rfl (fun r_8 u_7 H locs hp_9 hw => ?_)
  have e_r : r_8 = k0 := hp_9
  rw [e_r]
  clear e_r
  refine lv_iload hx hb dL_law_1417 (lv_at hl 1 rfl) ?_
  refine lv_icmp_eq (tgt := 1424) hx hb dL_law_1419 (by decide) (fun _ => ?_) (fun h => absurd rfl h)
  refine lv_iload hx hb dL_law_1424 (lv_at hl 1 rfl) ?_
  refine lv_if_ne (tgt := 1448) hx hb dL_law_1426 (by decide) (fun c0 => ?_) (fun c0 => ?_)
  · refine lv_goto (tgt := 1683) hx hb dL_law_1448 (by decide) ?_
    refine lv_iinc (v := nI (i + 4)) (lv' := [(4, .int (nI (i + 4))), (6, .int b0), (5, .int k0), (3, .ref aB), (2, .ref aR), (1, .ref aX), (0, .ref b)]) hx hb dL_law_1683 hl (k := 2) rfl (nI_add i 4) (by decide) rfl (fun ls hl => ?_)
    refine lv_goto (tgt := 23) hx hb dL_law_1686 (by decide) ?_
    refine W.widen (k := 100 + 4 * (i + 4)) (n := 3000 + 50 * (i + 4)) (by show 100 + 4 * i + 1 + 0 + 0 ≤ _; omega) (by show 3000 + 50 * i + 6 + 0 + 0 ≤ _; omega) ?_
    exact ih k0 pl rs po pq co go wl gu wk db dn iv qs tpo tco tgo twl tgu twk tdb tdn tiv tqs vpo vco vgo vln vwk vdb vdn viv vqs ex sh ld tw le op fa rd ml cz fb wy tr ak mx ms ur uk uy xe sg twy ttr tak tmx tms vtr vak vwy vxe vsg ot2 (zI_up hI (by omega)) H locs ls hw (lv_sub hl [0, 3, 4, 5, 6] rfl)
  · refine lv_aload_n hx hb dL_law_1429 rfl (lv_at hl 3 rfl) ?_
    refine lv_iconst (v := 0) hx hb dL_law_1430 (by decide) ?_
    refine xlald hc hw 43 rfl (xin ⟨by decide, by decide⟩) dL_law_1431 ?_
    refine lv_iload hx hb dL_law_1432 (lv_at hl 0 rfl) ?_
    refine lv_if_eq (tgt := 1441) hx hb dL_law_1434 (by decide) (fun cb => ?_) (fun cb => ?_)
    · refine lv_lconst (v := 0) hx hb dL_law_1441 rfl ?_
      refine W.lcmp hx hb dL_law_1442 ?_
      refine lv_if_eq (tgt := 1448) hx hb dL_law_1443 (by decide) (fun _ => ?_) (fun h => absurd (zlc (by rw [sb_cl0, e3 c0, if_pos cb])) h)
      refine lv_goto (tgt := 1683) hx hb dL_law_1448 (by decide) ?_
      refine lv_iinc (v := nI (i + 4)) (lv' := [(4, .int (nI (i + 4))), (6, .int b0), (5, .int k0), (3, .ref aB), (2, .ref aR), (1, .ref aX), (0, .ref b)]) hx hb dL_law_1683 hl (k := 2) rfl (nI_add i 4) (by decide) rfl (fun ls hl => ?_)
      refine lv_goto (tgt := 23) hx hb dL_law_1686 (by decide) ?_
      refine W.widen (k := 100 + 4 * (i + 4)) (n := 3000 + 50 * (i + 4)) (by show 100 + 4 * i + 1 + 0 + 0 ≤ _; omega) (by show 3000 + 50 * i + 6 + 0 + 0 ≤ _; omega) ?_
      exact ih k0 pl rs po pq co go wl gu wk db dn iv qs tpo tco tgo twl tgu twk tdb tdn tiv tqs vpo vco vgo vln vwk vdb vdn viv vqs ex sh ld tw le op fa rd ml cz fb wy tr ak mx ms ur uk uy xe sg twy ttr tak tmx tms vtr vak vwy vxe vsg ot2 (zI_up hI (by omega)) H locs ls hw (lv_sub hl [0, 3, 4, 5, 6] rfl)
    · refine lv_lconst (v := 1) hx hb dL_law_1437 rfl ?_
      refine lv_goto (tgt := 1442) hx hb dL_law_1438 (by decide) ?_
      refine W.lcmp hx hb dL_law_1442 ?_
      refine lv_if_eq (tgt := 1448) hx hb dL_law_1443 (by decide) (fun _ => ?_) (fun h => absurd (zlc (by rw [sb_cl0, e3 c0, if_neg cb])) h)
      refine lv_goto (tgt := 1683) hx hb dL_law_1448 (by decide) ?_
      refine lv_iinc (v := nI (i + 4)) (lv' := [(4, .int (nI (i + 4))), (6, .int b0), (5, .int k0), (3, .ref aB), (2, .ref aR), (1, .ref aX), (0, .ref b)]) hx hb dL_law_1683 hl (k := 2) rfl (nI_add i 4) (by decide) rfl (fun ls hl => ?_)
      refine lv_goto (tgt := 23) hx hb dL_law_1686 (by decide) ?_
      refine W.widen (k := 100 + 4 * (i + 4)) (n := 3000 + 50 * (i + 4)) (by show 100 + 4 * i + 1 + 0 + 0 ≤ _; omega) (by show 3000 + 50 * i + 6 + 0 + 0 ≤ _; omega) ?_
      exact ih k0 pl rs po pq co go wl gu wk db dn iv qs tpo tco tgo twl tgu twk tdb tdn tiv tqs vpo vco vgo vln vwk vdb vdn viv vqs ex sh ld tw le op fa rd ml cz fb wy tr ak mx ms ur uk uy xe sg twy ttr tak tmx tms vtr vak vwy vxe vsg ot2 (zI_up hI (by omega)) H locs ls hw (lv_sub hl [0, 3, 4, 5, 6] rfl)
