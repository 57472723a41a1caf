theorem xsubW {G : xG} {A : Nat → Prop} {h H : Heap} {ws w2 : va_W} {locs : List Loc} (hw : xW G A h ws H locs) (isP : List Nat) (hnP : va_nd isP = true) (hP : isP.map (fun i => ws[i]?) = w2.map some) : xW G A h w2 H locs :=
  ⟨hw.1.sub isP (xpick hP), hw.2.1.sub isP hnP hP, hw.2.2⟩
theorem ybnd {ex : Nat → Int32} {q : Int32} (hex4 : ∀ k, k < 10 → 0 ≤ (ex k).toInt ∧ (ex k).toInt ≤ 4) (hq : 0 ≤ q.toInt ∧ q.toInt < 10) : (4 * q + ex q.toNatClampNeg).toInt = 4 * q.toInt + (ex q.toNatClampNeg).toInt := by
  have h4 := hex4 _ (xcl hq)
  obtain ⟨j, h1, h2, h3⟩ := xofI hq.1
  obtain ⟨k, k1, k2, k3⟩ := xofI h4.1
  rw [k3]
  rw [k2, h2, show (4 : Int32) = nI 4 from rfl, pk_mul, nI_add, nI_toInt (by omega), nI_toInt (by omega)]
  omega
theorem ybi {ex : Nat → Int32} {q : Int32} {i : Nat} (hex4 : ∀ k, k < 10 → 0 ≤ (ex k).toInt ∧ (ex k).toInt ≤ 4) (hq : 0 ≤ q.toInt ∧ q.toInt < 10) (hlo : ((i : Nat) : Int) ≤ (4 * q + ex q.toNatClampNeg : Int32).toInt) (h : ¬ 4 * q + ex q.toNatClampNeg ≤ nI i) : 0 ≤ (nI i).toInt ∧ (nI i).toInt < 40 := by
  have h2 := xlt2 hlo h
  have h4 := hex4 _ (xcl hq)
  rw [ybnd hex4 hq] at h2
  omega
theorem y4i (i : Nat) : 4 * nI i = nI (4 * i) := by rw [show (4 : Int32) = nI 4 from rfl, pk_mul]
def LX5_digest_a (da : Nat → Int32) : Nat → Nat → (Int64) → (Int64)
  | 0, i, d => d
  | n + 1, i, d =>
    if 10 ≤ (nI i) then (d) else (LX5_digest_a da n (i + 1) ((d * 31) + ((da (nI i).toNatClampNeg).toInt64)))
set_option maxHeartbeats 40000000 in
set_option maxRecDepth 100000 in
theorem lpX5_digest_a {pg : Program} {l : Launch} {en : Env} {s : State} {mi : MethodId} {args : Array Value} {below : List Frame} {meth : Method} {cd : Code} {A : Nat → Prop} {Q : State → Prop} (G : xG) (hc : xC pg s mi args meth cd cX5_digest 8 RX5 wsX5_digest (some .long) G A) (aR : Nat) (rEx : Nat) (rRd : Nat) (rTo : Nat) (rMi : Nat) (rCl : Nat) (rSh : Nat) (rFa : Nat) (aS : Nat) (aH : Nat) (sTr : Nat) (sAk : Nat) (sWy : Nat) (sXe : Nat) (sSg : Nat) (aD : Nat) (th : Int32) (pl : Int32) (rs : Int32) (ex : Nat → Int32) (rd : Nat → Int32) (tt : Nat → Int32) (ml : Nat → Int32) (cz : Nat → Int32) (sh : Nat → Int32) (po : Int32) (co : Int32) (go : Int32) (ln : Int32) (wk : Int32) (db : Int32) (dn : Int32) (iv : Int32) (qs : Int32) (tr : Nat → Int32) (xe : Nat → Int32) (sg : Nat → Int32) (da : Nat → Int32) (hpl : 0 ≤ pl.toInt ∧ pl.toInt ≤ 10) (hex4 : ∀ k, k < 10 → 0 ≤ (ex k).toInt ∧ (ex k).toInt ≤ 4) (hrd : ∀ k, k < 40 → 0 ≤ (rd k).toInt ∧ (rd k).toInt < 20) :
    ∀ (n i : Nat) (d : Int64), ((i : Nat) : Int) ≤ (10 : Int32).toInt → (10 : Int32).toInt < ((i + n : Nat) : Int) → ∀ (H : Heap) (locs : List Loc) (ls : Array Slot), xW G A s.heap [xO aR 5 [.int th, .int pl, .ref rEx, .ref rRd, .ref rTo, .int rs, .ref rMi, .ref rCl, .ref rSh, .ref rFa, .ref aS, .ref aH], xAI G rEx 10 ex, xAI G rRd 40 rd, xAI G rTo 40 tt, xAI G rMi 20 ml, xAZ G rCl 20 cz, xAZ G rSh 10 sh, xO aS 4 [.int po, .int co, .int go, .ref sTr, .ref sAk, .ref sWy, .int ln, .ref sXe, .ref sSg, .int wk, .int db, .int dn, .int iv, .int qs], xAZ G sTr 20 tr, xAI G sXe 100 xe, xAI G sSg 100 sg, xAI G aD 10 da] H locs → lv_has ls 8 [(0, .ref aR), (1, .ref aD), (2, .long d), (4, .ref aD), (5, .int 10), (6, .int (nI i))] → (∀ (z : (Int64)), z = LX5_digest_a da n i d → ∀ (H1 : Heap) (locs1 : List Loc) (ls1 : Array Slot), xW G A s.heap [xO aR 5 [.int th, .int pl, .ref rEx, .ref rRd, .ref rTo, .int rs, .ref rMi, .ref rCl, .ref rSh, .ref rFa, .ref aS, .ref aH], xAI G rEx 10 ex, xAI G rRd 40 rd, xAI G rTo 40 tt, xAI G rMi 20 ml, xAZ G rCl 20 cz, xAZ G rSh 10 sh, xO aS 4 [.int po, .int co, .int go, .ref sTr, .ref sAk, .ref sWy, .int ln, .ref sXe, .ref sSg, .int wk, .int db, .int dn, .int iv, .int qs], xAZ G sTr 20 tr, xAI G sXe 100 xe, xAI G sSg 100 sg, xAI G aD 10 da] H1 locs1 → lv_has ls1 8 [(0, .ref aR), (1, .ref aD), (2, .long z), (4, .ref aD), (5, .int 10)] → W pg l en ⟨1, 1, 10, 21⟩ s mi args below meth cd H1 locs1 1 10 Q (F0 mi 156 ls1 [])) → W pg l en ⟨1, 1, 10, 21⟩ s mi args below meth cd H locs 1 10 Q (F0 mi 126 ls []) := by
  obtain ⟨hx, hb, -, hown, hts, -⟩ := id hc
  intro n
  induction n with
  | zero =>
    intro i d hlo hfu
    intros; exact absurd hfu (by omega)
  | succ n ih =>
    intro i d hlo hfu  H locs ls hw hl K
    refine lv_iload hx hb dX5_digest_126 (lv_at hl 5 rfl) ?_
    refine lv_iload hx hb dX5_digest_128 (lv_at hl 4 rfl) ?_
    refine lv_icmp_ge (tgt := 156) hx hb dX5_digest_130 (by decide) (fun c_2 => ?_) (fun c_2 => ?_)
    · exact K d (Eq.symm (if_pos c_2)) H locs ls hw (lv_sub hl [0, 1, 2, 3, 4] rfl)
    · refine lv_aload hx hb dX5_digest_133 (lv_at hl 3 rfl) ?_
      refine lv_iload hx hb dX5_digest_135 (lv_at hl 5 rfl) ?_
      refine xiald hc hw 11 rfl (xinB hlo c_2 (by decide)) dX5_digest_137 ?_
      refine lv_istore (lv' := [(7, .int (da (nI i).toNatClampNeg)), (0, .ref aR), (1, .ref aD), (2, .long d), (4, .ref aD), (5, .int 10), (6, .int (nI i))]) hx hb dX5_digest_138 hl (by decide) rfl (fun ls hl => ?_)
      refine lv_lload_n hx hb dX5_digest_140 rfl (lv_at hl 3 rfl) ?_
      refine lv_ldc2 hx hb hown (hts _ lkX5_digest_cL202) dX5_digest_141 ?_
      refine lv_lmul hx hb dX5_digest_144 ?_
      refine lv_iload hx hb dX5_digest_145 (lv_at hl 0 rfl) ?_
      refine lv_i2l hx hb dX5_digest_147 rfl ?_
      refine lv_ladd hx hb dX5_digest_148 ?_
      refine lv_lstore_n (lv' := [(2, .long ((d * 31) + ((da (nI i).toNatClampNeg).toInt64))), (7, .int (da (nI i).toNatClampNeg)), (0, .ref aR), (1, .ref aD), (4, .ref aD), (5, .int 10), (6, .int (nI i))]) hx hb dX5_digest_149 rfl hl (by decide) rfl (fun ls hl => ?_)
      refine lv_iinc (v := nI (i + 1)) (lv' := [(6, .int (nI (i + 1))), (2, .long ((d * 31) + ((da (nI i).toNatClampNeg).toInt64))), (7, .int (da (nI i).toNatClampNeg)), (0, .ref aR), (1, .ref aD), (4, .ref aD), (5, .int 10)]) hx hb dX5_digest_150 hl (k := 6) rfl (nI_1 _) (by decide) rfl (fun ls hl => ?_)
      refine lv_goto (tgt := 126) hx hb dX5_digest_153 (by decide) ?_
      exact ih (i + 1) ((d * 31) + ((da (nI i).toNatClampNeg).toInt64)) (xlt hlo c_2) (by omega) H locs ls hw (lv_sub hl [3, 4, 1, 5, 6, 0] rfl) (fun z e => K z (xtr1 (if_neg c_2) e))
def LX5_digest_e (ex : Nat → Int32) (rd : Nat → Int32) (tt : Nat → Int32) (ml : Nat → Int32) (cz : Nat → Int32) (tr : Nat → Int32) (pp : Int32) : Nat → Nat → (Int64) → (Int64)
  | 0, i, d => d
  | n + 1, i, d =>
    if ((4 * pp) + (ex pp.toNatClampNeg)) ≤ (nI i) then (d) else (if (cz (rd (nI i).toNatClampNeg).toNatClampNeg) = 0 then (xbind (FX5_one 1) (fun r21 => xbind (FX5_one (tr (rd (nI i).toNatClampNeg).toNatClampNeg)) (fun r25 => LX5_digest_e ex rd tt ml cz tr pp n (i + 1) ((((((((d * 31) + ((tt (nI i).toNatClampNeg).toInt64)) * 31) + ((ml (rd (nI i).toNatClampNeg).toNatClampNeg).toInt64)) * 31) + r21.toInt64) * 31) + r25.toInt64)))) else (xbind (FX5_one 0) (fun r13 => xbind (FX5_one (tr (rd (nI i).toNatClampNeg).toNatClampNeg)) (fun r17 => LX5_digest_e ex rd tt ml cz tr pp n (i + 1) ((((((((d * 31) + ((tt (nI i).toNatClampNeg).toInt64)) * 31) + ((ml (rd (nI i).toNatClampNeg).toNatClampNeg).toInt64)) * 31) + r13.toInt64) * 31) + r17.toInt64)))))
set_option maxHeartbeats 40000000 in
set_option maxRecDepth 100000 in
theorem lpX5_digest_e {pg : Program} {l : Launch} {en : Env} {s : State} {mi : MethodId} {args : Array Value} {below : List Frame} {meth : Method} {cd : Code} {A : Nat → Prop} {Q : State → Prop} (G : xG) (hc : xC pg s mi args meth cd cX5_digest 8 RX5 wsX5_digest (some .long) G A) (aR : Nat) (rEx : Nat) (rRd : Nat) (rTo : Nat) (rMi : Nat) (rCl : Nat) (rSh : Nat) (rFa : Nat) (aS : Nat) (aH : Nat) (sTr : Nat) (sAk : Nat) (sWy : Nat) (sXe : Nat) (sSg : Nat) (aD : Nat) (th : Int32) (pl : Int32) (rs : Int32) (ex : Nat → Int32) (rd : Nat → Int32) (tt : Nat → Int32) (ml : Nat → Int32) (cz : Nat → Int32) (sh : Nat → Int32) (po : Int32) (co : Int32) (go : Int32) (ln : Int32) (wk : Int32) (db : Int32) (dn : Int32) (iv : Int32) (qs : Int32) (tr : Nat → Int32) (xe : Nat → Int32) (sg : Nat → Int32) (pp : Int32) (da : Nat → Int32) (hpl : 0 ≤ pl.toInt ∧ pl.toInt ≤ 10) (hex4 : ∀ k, k < 10 → 0 ≤ (ex k).toInt ∧ (ex k).toInt ≤ 4) (hrd : ∀ k, k < 40 → 0 ≤ (rd k).toInt ∧ (rd k).toInt < 20) (hqp : 0 ≤ pp.toInt ∧ pp.toInt < 10) :
    ∀ (n i : Nat) (d : Int64), ((i : Nat) : Int) ≤ ((4 * pp) + (ex pp.toNatClampNeg) : Int32).toInt → ((4 * pp) + (ex pp.toNatClampNeg) : Int32).toInt < ((i + n : Nat) : Int) → ∀ (H : Heap) (locs : List Loc) (ls : Array Slot), xW G A s.heap [xO aR 5 [.int th, .int pl, .ref rEx, .ref rRd, .ref rTo, .int rs, .ref rMi, .ref rCl, .ref rSh, .ref rFa, .ref aS, .ref aH], xAI G rEx 10 ex, xAI G rRd 40 rd, xAI G rTo 40 tt, xAI G rMi 20 ml, xAZ G rCl 20 cz, xAZ G rSh 10 sh, xO aS 4 [.int po, .int co, .int go, .ref sTr, .ref sAk, .ref sWy, .int ln, .ref sXe, .ref sSg, .int wk, .int db, .int dn, .int iv, .int qs], xAZ G sTr 20 tr, xAI G sXe 100 xe, xAI G sSg 100 sg, xAI G aD 10 da] H locs → lv_has ls 8 [(0, .ref aR), (1, .ref aD), (2, .long d), (4, .int pp), (5, .int (nI i))] → (∀ (z : (Int64)), z = LX5_digest_e ex rd tt ml cz tr pp n i d → ∀ (H1 : Heap) (locs1 : List Loc) (ls1 : Array Slot), xW G A s.heap [xO aR 5 [.int th, .int pl, .ref rEx, .ref rRd, .ref rTo, .int rs, .ref rMi, .ref rCl, .ref rSh, .ref rFa, .ref aS, .ref aH], xAI G rEx 10 ex, xAI G rRd 40 rd, xAI G rTo 40 tt, xAI G rMi 20 ml, xAZ G rCl 20 cz, xAZ G rSh 10 sh, xO aS 4 [.int po, .int co, .int go, .ref sTr, .ref sAk, .ref sWy, .int ln, .ref sXe, .ref sSg, .int wk, .int db, .int dn, .int iv, .int qs], xAZ G sTr 20 tr, xAI G sXe 100 xe, xAI G sSg 100 sg, xAI G aD 10 da] H1 locs1 → lv_has ls1 8 [(0, .ref aR), (1, .ref aD), (2, .long z), (4, .int pp)] → W pg l en ⟨1, 1, 10, 21⟩ s mi args below meth cd H1 locs1 1 10 Q (F0 mi 316 ls1 [])) → W pg l en ⟨1, 1, 10, 21⟩ s mi args below meth cd H locs 1 10 Q (F0 mi 205 ls []) := by
  obtain ⟨hx, hb, -, hown, hts, -⟩ := id hc
  intro n
  induction n with
  | zero =>
    intro i d hlo hfu
    intros; exact absurd hfu (by omega)
  | succ n ih =>
    intro i d hlo hfu  H locs ls hw hl K
    refine lv_iload hx hb dX5_digest_205 (lv_at hl 4 rfl) ?_
    refine lv_iconst (v := 4) hx hb dX5_digest_207 (by decide) ?_
    refine lv_iload hx hb dX5_digest_208 (lv_at hl 3 rfl) ?_
    refine lv_imul hx hb dX5_digest_210 ?_
    refine lv_aload_n hx hb dX5_digest_211 rfl (lv_at hl 0 rfl) ?_
    refine xget (C := RX5) (T := TX5) (N := 12) hc hw inX5_digest_X5 0 rfl rfl 2 (by decide) lkX5_digest_f9 rfl rfl dX5_digest_212 ?_
    refine lv_iload hx hb dX5_digest_215 (lv_at hl 3 rfl) ?_
    refine xiald hc hw 1 rfl (xin hqp) dX5_digest_217 ?_
    refine lv_iadd hx hb dX5_digest_218 ?_
    refine lv_icmp_ge (tgt := 316) hx hb dX5_digest_219 (by decide) (fun c_10 => ?_) (fun c_10 => ?_)
    · exact K d (Eq.symm (if_pos c_10)) H locs ls hw (lv_sub hl [0, 1, 2, 3] rfl)
    · refine lv_lload_n hx hb dX5_digest_222 rfl (lv_at hl 2 rfl) ?_
      refine lv_ldc2 hx hb hown (hts _ lkX5_digest_cL202) dX5_digest_223 ?_
      refine lv_lmul hx hb dX5_digest_226 ?_
      refine lv_aload_n hx hb dX5_digest_227 rfl (lv_at hl 0 rfl) ?_
      refine xget (C := RX5) (T := TX5) (N := 12) hc hw inX5_digest_X5 0 rfl rfl 4 (by decide) lkX5_digest_f16 rfl rfl dX5_digest_228 ?_
      refine lv_iload hx hb dX5_digest_231 (lv_at hl 4 rfl) ?_
      refine xiald hc hw 3 rfl (xin (ybi hex4 hqp hlo c_10)) dX5_digest_233 ?_
      refine lv_i2l hx hb dX5_digest_234 rfl ?_
      refine lv_ladd hx hb dX5_digest_235 ?_
      refine lv_ldc2 hx hb hown (hts _ lkX5_digest_cL202) dX5_digest_236 ?_
      refine lv_lmul hx hb dX5_digest_239 ?_
      refine lv_aload_n hx hb dX5_digest_240 rfl (lv_at hl 0 rfl) ?_
      refine xget (C := RX5) (T := TX5) (N := 12) hc hw inX5_digest_X5 0 rfl rfl 6 (by decide) lkX5_digest_f19 rfl rfl dX5_digest_241 ?_
      refine lv_aload_n hx hb dX5_digest_244 rfl (lv_at hl 0 rfl) ?_
      refine xget (C := RX5) (T := TX5) (N := 12) hc hw inX5_digest_X5 0 rfl rfl 3 (by decide) lkX5_digest_f13 rfl rfl dX5_digest_245 ?_
      refine lv_iload hx hb dX5_digest_248 (lv_at hl 4 rfl) ?_
      refine xiald hc hw 2 rfl (xin (ybi hex4 hqp hlo c_10)) dX5_digest_250 ?_
      refine xiald hc hw 4 rfl (xin (hrd _ (xcl (ybi hex4 hqp hlo c_10)))) dX5_digest_251 ?_
      refine lv_i2l hx hb dX5_digest_252 rfl ?_
      refine lv_ladd hx hb dX5_digest_253 ?_
      refine lv_lstore_n (lv' := [(2, .long ((((d * 31) + ((tt (nI i).toNatClampNeg).toInt64)) * 31) + ((ml (rd (nI i).toNatClampNeg).toNatClampNeg).toInt64))), (0, .ref aR), (1, .ref aD), (4, .int pp), (5, .int (nI i))]) hx hb dX5_digest_254 rfl hl (by decide) rfl (fun ls hl => ?_)
      refine lv_lload_n hx hb dX5_digest_255 rfl (lv_at hl 0 rfl) ?_
      refine lv_ldc2 hx hb hown (hts _ lkX5_digest_cL202) dX5_digest_256 ?_
      refine lv_lmul hx hb dX5_digest_259 ?_
      refine lv_aload_n hx hb dX5_digest_260 rfl (lv_at hl 1 rfl) ?_
      refine xget (C := RX5) (T := TX5) (N := 12) hc hw inX5_digest_X5 0 rfl rfl 7 (by decide) lkX5_digest_f22 rfl rfl dX5_digest_261 ?_
      refine lv_aload_n hx hb dX5_digest_264 rfl (lv_at hl 1 rfl) ?_
      refine xget (C := RX5) (T := TX5) (N := 12) hc hw inX5_digest_X5 0 rfl rfl 3 (by decide) lkX5_digest_f13 rfl rfl dX5_digest_265 ?_
      refine lv_iload hx hb dX5_digest_268 (lv_at hl 4 rfl) ?_
      refine xiald hc hw 2 rfl (xin (ybi hex4 hqp hlo c_10)) dX5_digest_270 ?_
      refine xzald hc hw 5 rfl (xin (hrd _ (xcl (ybi hex4 hqp hlo c_10)))) dX5_digest_271 ?_
      refine lv_if_ne (tgt := 279) hx hb dX5_digest_272 (by decide) (fun c_11 => ?_) (fun c_11 => ?_)
      · refine lv_iconst (v := 0) hx hb dX5_digest_279 (by decide) ?_
        refine xcall_i (isC := []) hc hw (xrunS (n := 1) (As := [.int 0]) (rest := [.long (((((d * 31) + ((tt (nI i).toNatClampNeg).toInt64)) * 31) + ((ml (rd (nI i).toNatClampNeg).toNatClampNeg).toInt64)) * 31)]) hc hw [] (metX5_one l G _ 0) gX5_digest_X5_one rfl (by decide +kernel) ⟨Nat.le_of_ble_eq_true rfl, Nat.le_of_ble_eq_true rfl⟩ rfl rfl rfl rfl hl.1 (Nat.le_of_ble_eq_true rfl) dX5_digest_280 ⟨Nat.le_of_ble_eq_true rfl, Nat.le_of_ble_eq_true rfl⟩) rfl [0, 1, 2, 3, 4, 5, 6, 7, 8, 9, 10, 11] [0, 1, 2, 3, 4, 5, 6, 7, 8, 9, 10, 11] (fun u12 => [xO aR 5 [.int th, .int pl, .ref rEx, .ref rRd, .ref rTo, .int rs, .ref rMi, .ref rCl, .ref rSh, .ref rFa, .ref aS, .ref aH], xAI G rEx 10 ex, xAI G rRd 40 rd, xAI G rTo 40 tt, xAI G rMi 20 ml, xAZ G rCl 20 cz, xAZ G rSh 10 sh, xO aS 4 [.int po, .int co, .int go, .ref sTr, .ref sAk, .ref sWy, .int ln, .ref sXe, .ref sSg, .int wk, .int db, .int dn, .int iv, .int qs], xAZ G sTr 20 tr, xAI G sXe 100 xe, xAI G sSg 100 sg, xAI G aD 10 da]) (fun _ => rfl) rfl rfl rfl rfl (fun r13 u12 H locs hp14 hw => ?_)
        refine lv_i2l hx hb dX5_digest_283 rfl ?_
        refine lv_ladd hx hb dX5_digest_284 ?_
        refine lv_ldc2 hx hb hown (hts _ lkX5_digest_cL202) dX5_digest_285 ?_
        refine lv_lmul hx hb dX5_digest_288 ?_
        refine lv_aload_n hx hb dX5_digest_289 rfl (lv_at hl 1 rfl) ?_
        refine xget (C := RX5) (T := TX5) (N := 12) hc hw inX5_digest_X5 0 rfl rfl 10 (by decide) lkX5_digest_f35 rfl rfl dX5_digest_290 ?_
        refine xgetN (C := RX4) (T := TX4) (N := 14) hc hw inX5_digest_X4 7 rfl rfl 3 (by decide) nkX5_67 rfl rfl dX5_digest_293 ?_
        refine lv_aload_n hx hb dX5_digest_296 rfl (lv_at hl 1 rfl) ?_
        refine xget (C := RX5) (T := TX5) (N := 12) hc hw inX5_digest_X5 0 rfl rfl 3 (by decide) lkX5_digest_f13 rfl rfl dX5_digest_297 ?_
        refine lv_iload hx hb dX5_digest_300 (lv_at hl 4 rfl) ?_
        refine xiald hc hw 2 rfl (xin (ybi hex4 hqp hlo c_10)) dX5_digest_302 ?_
        refine xzald hc hw 8 rfl (xin (hrd _ (xcl (ybi hex4 hqp hlo c_10)))) dX5_digest_303 ?_
        refine xcall_i (isC := []) hc hw (xrunS (n := 1) (As := [.int (tr (rd (nI i).toNatClampNeg).toNatClampNeg)]) (rest := [.long (((((((d * 31) + ((tt (nI i).toNatClampNeg).toInt64)) * 31) + ((ml (rd (nI i).toNatClampNeg).toNatClampNeg).toInt64)) * 31) + r13.toInt64) * 31)]) hc hw [] (metX5_one l G _ (tr (rd (nI i).toNatClampNeg).toNatClampNeg)) gX5_digest_X5_one rfl (by decide +kernel) ⟨Nat.le_of_ble_eq_true rfl, Nat.le_of_ble_eq_true rfl⟩ rfl rfl rfl rfl hl.1 (Nat.le_of_ble_eq_true rfl) dX5_digest_304 ⟨Nat.le_of_ble_eq_true rfl, Nat.le_of_ble_eq_true rfl⟩) rfl [0, 1, 2, 3, 4, 5, 6, 7, 8, 9, 10, 11] [0, 1, 2, 3, 4, 5, 6, 7, 8, 9, 10, 11] (fun u16 => [xO aR 5 [.int th, .int pl, .ref rEx, .ref rRd, .ref rTo, .int rs, .ref rMi, .ref rCl, .ref rSh, .ref rFa, .ref aS, .ref aH], xAI G rEx 10 ex, xAI G rRd 40 rd, xAI G rTo 40 tt, xAI G rMi 20 ml, xAZ G rCl 20 cz, xAZ G rSh 10 sh, xO aS 4 [.int po, .int co, .int go, .ref sTr, .ref sAk, .ref sWy, .int ln, .ref sXe, .ref sSg, .int wk, .int db, .int dn, .int iv, .int qs], xAZ G sTr 20 tr, xAI G sXe 100 xe, xAI G sSg 100 sg, xAI G aD 10 da]) (fun _ => rfl) rfl rfl rfl rfl (fun r17 u16 H locs hp18 hw => ?_)
        refine lv_i2l hx hb dX5_digest_307 rfl ?_
        refine lv_ladd hx hb dX5_digest_308 ?_
        refine lv_lstore_n (lv' := [(2, .long ((((((((d * 31) + ((tt (nI i).toNatClampNeg).toInt64)) * 31) + ((ml (rd (nI i).toNatClampNeg).toNatClampNeg).toInt64)) * 31) + r13.toInt64) * 31) + r17.toInt64)), (0, .ref aR), (1, .ref aD), (4, .int pp), (5, .int (nI i))]) hx hb dX5_digest_309 rfl hl (by decide) rfl (fun ls hl => ?_)
        refine lv_iinc (v := nI (i + 1)) (lv' := [(5, .int (nI (i + 1))), (2, .long ((((((((d * 31) + ((tt (nI i).toNatClampNeg).toInt64)) * 31) + ((ml (rd (nI i).toNatClampNeg).toNatClampNeg).toInt64)) * 31) + r13.toInt64) * 31) + r17.toInt64)), (0, .ref aR), (1, .ref aD), (4, .int pp)]) hx hb dX5_digest_310 hl (k := 4) rfl (nI_1 _) (by decide) rfl (fun ls hl => ?_)
        refine lv_goto (tgt := 205) hx hb dX5_digest_313 (by decide) ?_
        exact ih (i + 1) ((((((((d * 31) + ((tt (nI i).toNatClampNeg).toInt64)) * 31) + ((ml (rd (nI i).toNatClampNeg).toNatClampNeg).toInt64)) * 31) + r13.toInt64) * 31) + r17.toInt64) (xlt hlo c_10) (by omega) H locs ls hw (lv_sub hl [2, 3, 1, 4, 0] rfl) (fun z e => K z (xtr1 (Eq.trans (if_neg c_10) (Eq.trans (if_neg c_11) (xb hp14 (xb hp18 rfl)))) e))
      · refine lv_iconst (v := 1) hx hb dX5_digest_275 (by decide) ?_
        refine lv_goto (tgt := 280) hx hb dX5_digest_276 (by decide) ?_
        refine xcall_i (isC := []) hc hw (xrunS (n := 1) (As := [.int 1]) (rest := [.long (((((d * 31) + ((tt (nI i).toNatClampNeg).toInt64)) * 31) + ((ml (rd (nI i).toNatClampNeg).toNatClampNeg).toInt64)) * 31)]) hc hw [] (metX5_one l G _ 1) gX5_digest_X5_one rfl (by decide +kernel) ⟨Nat.le_of_ble_eq_true rfl, Nat.le_of_ble_eq_true rfl⟩ rfl rfl rfl rfl hl.1 (Nat.le_of_ble_eq_true rfl) dX5_digest_280 ⟨Nat.le_of_ble_eq_true rfl, Nat.le_of_ble_eq_true rfl⟩) rfl [0, 1, 2, 3, 4, 5, 6, 7, 8, 9, 10, 11] [0, 1, 2, 3, 4, 5, 6, 7, 8, 9, 10, 11] (fun u20 => [xO aR 5 [.int th, .int pl, .ref rEx, .ref rRd, .ref rTo, .int rs, .ref rMi, .ref rCl, .ref rSh, .ref rFa, .ref aS, .ref aH], xAI G rEx 10 ex, xAI G rRd 40 rd, xAI G rTo 40 tt, xAI G rMi 20 ml, xAZ G rCl 20 cz, xAZ G rSh 10 sh, xO aS 4 [.int po, .int co, .int go, .ref sTr, .ref sAk, .ref sWy, .int ln, .ref sXe, .ref sSg, .int wk, .int db, .int dn, .int iv, .int qs], xAZ G sTr 20 tr, xAI G sXe 100 xe, xAI G sSg 100 sg, xAI G aD 10 da]) (fun _ => rfl) rfl rfl rfl rfl (fun r21 u20 H locs hp22 hw => ?_)
        refine lv_i2l hx hb dX5_digest_283 rfl ?_
        refine lv_ladd hx hb dX5_digest_284 ?_
        refine lv_ldc2 hx hb hown (hts _ lkX5_digest_cL202) dX5_digest_285 ?_
        refine lv_lmul hx hb dX5_digest_288 ?_
        refine lv_aload_n hx hb dX5_digest_289 rfl (lv_at hl 1 rfl) ?_
        refine xget (C := RX5) (T := TX5) (N := 12) hc hw inX5_digest_X5 0 rfl rfl 10 (by decide) lkX5_digest_f35 rfl rfl dX5_digest_290 ?_
        refine xgetN (C := RX4) (T := TX4) (N := 14) hc hw inX5_digest_X4 7 rfl rfl 3 (by decide) nkX5_67 rfl rfl dX5_digest_293 ?_
        refine lv_aload_n hx hb dX5_digest_296 rfl (lv_at hl 1 rfl) ?_
        refine xget (C := RX5) (T := TX5) (N := 12) hc hw inX5_digest_X5 0 rfl rfl 3 (by decide) lkX5_digest_f13 rfl rfl dX5_digest_297 ?_
        refine lv_iload hx hb dX5_digest_300 (lv_at hl 4 rfl) ?_
        refine xiald hc hw 2 rfl (xin (ybi hex4 hqp hlo c_10)) dX5_digest_302 ?_
        refine xzald hc hw 8 rfl (xin (hrd _ (xcl (ybi hex4 hqp hlo c_10)))) dX5_digest_303 ?_
        refine xcall_i (isC := []) hc hw (xrunS (n := 1) (As := [.int (tr (rd (nI i).toNatClampNeg).toNatClampNeg)]) (rest := [.long (((((((d * 31) + ((tt (nI i).toNatClampNeg).toInt64)) * 31) + ((ml (rd (nI i).toNatClampNeg).toNatClampNeg).toInt64)) * 31) + r21.toInt64) * 31)]) hc hw [] (metX5_one l G _ (tr (rd (nI i).toNatClampNeg).toNatClampNeg)) gX5_digest_X5_one rfl (by decide +kernel) ⟨Nat.le_of_ble_eq_true rfl, Nat.le_of_ble_eq_true rfl⟩ rfl rfl rfl rfl hl.1 (Nat.le_of_ble_eq_true rfl) dX5_digest_304 ⟨Nat.le_of_ble_eq_true rfl, Nat.le_of_ble_eq_true rfl⟩) rfl [0, 1, 2, 3, 4, 5, 6, 7, 8, 9, 10, 11] [0, 1, 2, 3, 4, 5, 6, 7, 8, 9, 10, 11] (fun u24 => [xO aR 5 [.int th, .int pl, .ref rEx, .ref rRd, .ref rTo, .int rs, .ref rMi, .ref rCl, .ref rSh, .ref rFa, .ref aS, .ref aH], xAI G rEx 10 ex, xAI G rRd 40 rd, xAI G rTo 40 tt, xAI G rMi 20 ml, xAZ G rCl 20 cz, xAZ G rSh 10 sh, xO aS 4 [.int po, .int co, .int go, .ref sTr, .ref sAk, .ref sWy, .int ln, .ref sXe, .ref sSg, .int wk, .int db, .int dn, .int iv, .int qs], xAZ G sTr 20 tr, xAI G sXe 100 xe, xAI G sSg 100 sg, xAI G aD 10 da]) (fun _ => rfl) rfl rfl rfl rfl (fun r25 u24 H locs hp26 hw => ?_)
        refine lv_i2l hx hb dX5_digest_307 rfl ?_
        refine lv_ladd hx hb dX5_digest_308 ?_
        refine lv_lstore_n (lv' := [(2, .long ((((((((d * 31) + ((tt (nI i).toNatClampNeg).toInt64)) * 31) + ((ml (rd (nI i).toNatClampNeg).toNatClampNeg).toInt64)) * 31) + r21.toInt64) * 31) + r25.toInt64)), (0, .ref aR), (1, .ref aD), (4, .int pp), (5, .int (nI i))]) hx hb dX5_digest_309 rfl hl (by decide) rfl (fun ls hl => ?_)
        refine lv_iinc (v := nI (i + 1)) (lv' := [(5, .int (nI (i + 1))), (2, .long ((((((((d * 31) + ((tt (nI i).toNatClampNeg).toInt64)) * 31) + ((ml (rd (nI i).toNatClampNeg).toNatClampNeg).toInt64)) * 31) + r21.toInt64) * 31) + r25.toInt64)), (0, .ref aR), (1, .ref aD), (4, .int pp)]) hx hb dX5_digest_310 hl (k := 4) rfl (nI_1 _) (by decide) rfl (fun ls hl => ?_)
        refine lv_goto (tgt := 205) hx hb dX5_digest_313 (by decide) ?_
        exact ih (i + 1) ((((((((d * 31) + ((tt (nI i).toNatClampNeg).toInt64)) * 31) + ((ml (rd (nI i).toNatClampNeg).toNatClampNeg).toInt64)) * 31) + r21.toInt64) * 31) + r25.toInt64) (xlt hlo c_10) (by omega) H locs ls hw (lv_sub hl [2, 3, 1, 4, 0] rfl) (fun z e => K z (xtr1 (Eq.trans (if_neg c_10) (Eq.trans (if_pos c_11) (xb hp22 (xb hp26 rfl)))) e))
def LX5_digest_p (pl : Int32) (ex : Nat → Int32) (rd : Nat → Int32) (tt : Nat → Int32) (ml : Nat → Int32) (cz : Nat → Int32) (sh : Nat → Int32) (tr : Nat → Int32) : Nat → Nat → (Int64) → (Int64)
  | 0, i, d => d
  | n + 1, i, d =>
    if pl ≤ (nI i) then (d) else (xbind (FX5_one (sh (nI i).toNatClampNeg)) (fun r7 => xbind (LX5_digest_e ex rd tt ml cz tr (nI i) 5 (4 * i) ((((d * 31) + r7.toInt64) * 31) + ((ex (nI i).toNatClampNeg).toInt64))) (fun z10 => LX5_digest_p pl ex rd tt ml cz sh tr n (i + 1) z10)))
set_option maxHeartbeats 40000000 in
set_option maxRecDepth 100000 in
theorem lpX5_digest_p {pg : Program} {l : Launch} {en : Env} {s : State} {mi : MethodId} {args : Array Value} {below : List Frame} {meth : Method} {cd : Code} {A : Nat → Prop} {Q : State → Prop} (G : xG) (hc : xC pg s mi args meth cd cX5_digest 8 RX5 wsX5_digest (some .long) G A) (aR : Nat) (rEx : Nat) (rRd : Nat) (rTo : Nat) (rMi : Nat) (rCl : Nat) (rSh : Nat) (rFa : Nat) (aS : Nat) (aH : Nat) (sTr : Nat) (sAk : Nat) (sWy : Nat) (sXe : Nat) (sSg : Nat) (aD : Nat) (th : Int32) (pl : Int32) (rs : Int32) (ex : Nat → Int32) (rd : Nat → Int32) (tt : Nat → Int32) (ml : Nat → Int32) (cz : Nat → Int32) (sh : Nat → Int32) (po : Int32) (co : Int32) (go : Int32) (ln : Int32) (wk : Int32) (db : Int32) (dn : Int32) (iv : Int32) (qs : Int32) (tr : Nat → Int32) (xe : Nat → Int32) (sg : Nat → Int32) (da : Nat → Int32) (hpl : 0 ≤ pl.toInt ∧ pl.toInt ≤ 10) (hex4 : ∀ k, k < 10 → 0 ≤ (ex k).toInt ∧ (ex k).toInt ≤ 4) (hrd : ∀ k, k < 40 → 0 ≤ (rd k).toInt ∧ (rd k).toInt < 20) :
    ∀ (n i : Nat) (d : Int64), ((i : Nat) : Int) ≤ (pl : Int32).toInt → (pl : Int32).toInt < ((i + n : Nat) : Int) → ∀ (H : Heap) (locs : List Loc) (ls : Array Slot), xW G A s.heap [xO aR 5 [.int th, .int pl, .ref rEx, .ref rRd, .ref rTo, .int rs, .ref rMi, .ref rCl, .ref rSh, .ref rFa, .ref aS, .ref aH], xAI G rEx 10 ex, xAI G rRd 40 rd, xAI G rTo 40 tt, xAI G rMi 20 ml, xAZ G rCl 20 cz, xAZ G rSh 10 sh, xO aS 4 [.int po, .int co, .int go, .ref sTr, .ref sAk, .ref sWy, .int ln, .ref sXe, .ref sSg, .int wk, .int db, .int dn, .int iv, .int qs], xAZ G sTr 20 tr, xAI G sXe 100 xe, xAI G sSg 100 sg, xAI G aD 10 da] H locs → lv_has ls 8 [(0, .ref aR), (1, .ref aD), (2, .long d), (4, .int (nI i))] → (∀ (z : (Int64)), z = LX5_digest_p pl ex rd tt ml cz sh tr n i d → ∀ (H1 : Heap) (locs1 : List Loc) (ls1 : Array Slot), xW G A s.heap [xO aR 5 [.int th, .int pl, .ref rEx, .ref rRd, .ref rTo, .int rs, .ref rMi, .ref rCl, .ref rSh, .ref rFa, .ref aS, .ref aH], xAI G rEx 10 ex, xAI G rRd 40 rd, xAI G rTo 40 tt, xAI G rMi 20 ml, xAZ G rCl 20 cz, xAZ G rSh 10 sh, xO aS 4 [.int po, .int co, .int go, .ref sTr, .ref sAk, .ref sWy, .int ln, .ref sXe, .ref sSg, .int wk, .int db, .int dn, .int iv, .int qs], xAZ G sTr 20 tr, xAI G sXe 100 xe, xAI G sSg 100 sg, xAI G aD 10 da] H1 locs1 → lv_has ls1 8 [(0, .ref aR), (1, .ref aD), (2, .long z)] → W pg l en ⟨1, 1, 10, 21⟩ s mi args below meth cd H1 locs1 1 10 Q (F0 mi 322 ls1 [])) → W pg l en ⟨1, 1, 10, 21⟩ s mi args below meth cd H locs 1 10 Q (F0 mi 159 ls []) := by
  obtain ⟨hx, hb, -, hown, hts, -⟩ := id hc
  intro n
  induction n with
  | zero =>
    intro i d hlo hfu
    intros; exact absurd hfu (by omega)
  | succ n ih =>
    intro i d hlo hfu  H locs ls hw hl K
    refine lv_iload hx hb dX5_digest_159 (lv_at hl 3 rfl) ?_
    refine lv_aload_n hx hb dX5_digest_161 rfl (lv_at hl 0 rfl) ?_
    refine xget (C := RX5) (T := TX5) (N := 12) hc hw inX5_digest_X5 0 rfl rfl 1 (by decide) lkX5_digest_f46 rfl rfl dX5_digest_162 ?_
    refine lv_icmp_ge (tgt := 322) hx hb dX5_digest_165 (by decide) (fun c_5 => ?_) (fun c_5 => ?_)
    · exact K d (Eq.symm (if_pos c_5)) H locs ls hw (lv_sub hl [0, 1, 2] rfl)
    · refine lv_lload_n hx hb dX5_digest_168 rfl (lv_at hl 2 rfl) ?_
      refine lv_ldc2 hx hb hown (hts _ lkX5_digest_cL202) dX5_digest_169 ?_
      refine lv_lmul hx hb dX5_digest_172 ?_
      refine lv_aload_n hx hb dX5_digest_173 rfl (lv_at hl 0 rfl) ?_
      refine xget (C := RX5) (T := TX5) (N := 12) hc hw inX5_digest_X5 0 rfl rfl 8 (by decide) lkX5_digest_f26 rfl rfl dX5_digest_174 ?_
      refine lv_iload hx hb dX5_digest_177 (lv_at hl 3 rfl) ?_
      refine xzald hc hw 6 rfl (xinB hlo c_5 hpl.2) dX5_digest_179 ?_
      refine xcall_i (isC := []) hc hw (xrunS (n := 1) (As := [.int (sh (nI i).toNatClampNeg)]) (rest := [.long (d * 31)]) hc hw [] (metX5_one l G _ (sh (nI i).toNatClampNeg)) gX5_digest_X5_one rfl (by decide +kernel) ⟨Nat.le_of_ble_eq_true rfl, Nat.le_of_ble_eq_true rfl⟩ rfl rfl rfl rfl hl.1 (Nat.le_of_ble_eq_true rfl) dX5_digest_180 ⟨Nat.le_of_ble_eq_true rfl, Nat.le_of_ble_eq_true rfl⟩) rfl [0, 1, 2, 3, 4, 5, 6, 7, 8, 9, 10, 11] [0, 1, 2, 3, 4, 5, 6, 7, 8, 9, 10, 11] (fun u6 => [xO aR 5 [.int th, .int pl, .ref rEx, .ref rRd, .ref rTo, .int rs, .ref rMi, .ref rCl, .ref rSh, .ref rFa, .ref aS, .ref aH], xAI G rEx 10 ex, xAI G rRd 40 rd, xAI G rTo 40 tt, xAI G rMi 20 ml, xAZ G rCl 20 cz, xAZ G rSh 10 sh, xO aS 4 [.int po, .int co, .int go, .ref sTr, .ref sAk, .ref sWy, .int ln, .ref sXe, .ref sSg, .int wk, .int db, .int dn, .int iv, .int qs], xAZ G sTr 20 tr, xAI G sXe 100 xe, xAI G sSg 100 sg, xAI G aD 10 da]) (fun _ => rfl) rfl rfl rfl rfl (fun r7 u6 H locs hp8 hw => ?_)
      refine lv_i2l hx hb dX5_digest_183 rfl ?_
      refine lv_ladd hx hb dX5_digest_184 ?_
      refine lv_ldc2 hx hb hown (hts _ lkX5_digest_cL202) dX5_digest_185 ?_
      refine lv_lmul hx hb dX5_digest_188 ?_
      refine lv_aload_n hx hb dX5_digest_189 rfl (lv_at hl 0 rfl) ?_
      refine xget (C := RX5) (T := TX5) (N := 12) hc hw inX5_digest_X5 0 rfl rfl 2 (by decide) lkX5_digest_f9 rfl rfl dX5_digest_190 ?_
      refine lv_iload hx hb dX5_digest_193 (lv_at hl 3 rfl) ?_
      refine xiald hc hw 1 rfl (xinB hlo c_5 hpl.2) dX5_digest_195 ?_
      refine lv_i2l hx hb dX5_digest_196 rfl ?_
      refine lv_ladd hx hb dX5_digest_197 ?_
      refine lv_lstore_n (lv' := [(2, .long ((((d * 31) + r7.toInt64) * 31) + ((ex (nI i).toNatClampNeg).toInt64))), (0, .ref aR), (1, .ref aD), (4, .int (nI i))]) hx hb dX5_digest_198 rfl hl (by decide) rfl (fun ls hl => ?_)
      refine lv_iconst (v := 4) hx hb dX5_digest_199 (by decide) ?_
      refine lv_iload hx hb dX5_digest_200 (lv_at hl 3 rfl) ?_
      refine lv_imul hx hb dX5_digest_202 ?_
      refine lv_istore (lv' := [(5, .int (4 * (nI i))), (2, .long ((((d * 31) + r7.toInt64) * 31) + ((ex (nI i).toNatClampNeg).toInt64))), (0, .ref aR), (1, .ref aD), (4, .int (nI i))]) hx hb dX5_digest_203 hl (by decide) rfl (fun ls hl => ?_)
      rw [y4i] at hl
      refine lpX5_digest_e G hc aR rEx rRd rTo rMi rCl rSh rFa aS aH sTr sAk sWy sXe sSg aD th pl rs ex rd tt ml cz sh po co go ln wk db dn iv qs tr xe sg (nI i) da hpl hex4 hrd (xnIB hlo c_5 hpl.2) 5 (4 * i) ((((d * 31) + r7.toInt64) * 31) + ((ex (nI i).toNatClampNeg).toInt64)) (by rw [ybnd hex4 (xnIB hlo c_5 hpl.2)]; have h8 := hex4 _ (xcl (xnIB hlo c_5 hpl.2)); have h9 := xlt2 hlo c_5; omega) (by rw [ybnd hex4 (xnIB hlo c_5 hpl.2)]; have h8 := hex4 _ (xcl (xnIB hlo c_5 hpl.2)); have h9 := xlt2 hlo c_5; omega) _ _ _ hw (lv_sub hl [2, 3, 1, 4, 0] rfl) (fun z10 ek11 H locs ls hw hl => ?_)
      refine lv_iinc (v := nI (i + 1)) (lv' := [(4, .int (nI (i + 1))), (0, .ref aR), (1, .ref aD), (2, .long z10)]) hx hb dX5_digest_316 hl (k := 3) rfl (nI_1 _) (by decide) rfl (fun ls hl => ?_)
      refine lv_goto (tgt := 159) hx hb dX5_digest_319 (by decide) ?_
      exact ih (i + 1) z10 (xlt hlo c_5) (by omega) H locs ls hw (lv_sub hl [1, 2, 3, 0] rfl) (fun z e => K z (xtr1 (Eq.trans (if_neg c_5) (xb hp8 (xb ek11 rfl))) e))
def LX5_digest_q (pl : Int32) (xe : Nat → Int32) (sg : Nat → Int32) (gg : Int32) : Nat → Nat → (Int64) → (Int64)
  | 0, i, d => d
  | n + 1, i, d =>
    if pl ≤ (nI i) then (d) else (xbind (FX5_strengthOf xe sg ((10 * gg) + (nI i))) (fun r17 => LX5_digest_q pl xe sg gg n (i + 1) ((((d * 31) + ((xe ((10 * gg) + (nI i)).toNatClampNeg).toInt64)) * 31) + r17.toInt64)))
set_option maxHeartbeats 40000000 in
set_option maxRecDepth 100000 in
theorem lpX5_digest_q {pg : Program} {l : Launch} {en : Env} {s : State} {mi : MethodId} {args : Array Value} {below : List Frame} {meth : Method} {cd : Code} {A : Nat → Prop} {Q : State → Prop} (G : xG) (hc : xC pg s mi args meth cd cX5_digest 8 RX5 wsX5_digest (some .long) G A) (aR : Nat) (rEx : Nat) (rRd : Nat) (rTo : Nat) (rMi : Nat) (rCl : Nat) (rSh : Nat) (rFa : Nat) (aS : Nat) (aH : Nat) (sTr : Nat) (sAk : Nat) (sWy : Nat) (sXe : Nat) (sSg : Nat) (aD : Nat) (th : Int32) (pl : Int32) (rs : Int32) (ex : Nat → Int32) (rd : Nat → Int32) (tt : Nat → Int32) (ml : Nat → Int32) (cz : Nat → Int32) (sh : Nat → Int32) (po : Int32) (co : Int32) (go : Int32) (ln : Int32) (wk : Int32) (db : Int32) (dn : Int32) (iv : Int32) (qs : Int32) (tr : Nat → Int32) (xe : Nat → Int32) (sg : Nat → Int32) (gg : Int32) (da : Nat → Int32) (hpl : 0 ≤ pl.toInt ∧ pl.toInt ≤ 10) (hex4 : ∀ k, k < 10 → 0 ≤ (ex k).toInt ∧ (ex k).toInt ≤ 4) (hrd : ∀ k, k < 40 → 0 ≤ (rd k).toInt ∧ (rd k).toInt < 20) (hgg : 0 ≤ gg.toInt ∧ gg.toInt < 10) :
    ∀ (n i : Nat) (d : Int64), ((i : Nat) : Int) ≤ (pl : Int32).toInt → (pl : Int32).toInt < ((i + n : Nat) : Int) → ∀ (H : Heap) (locs : List Loc) (ls : Array Slot), xW G A s.heap [xO aR 5 [.int th, .int pl, .ref rEx, .ref rRd, .ref rTo, .int rs, .ref rMi, .ref rCl, .ref rSh, .ref rFa, .ref aS, .ref aH], xAI G rEx 10 ex, xAI G rRd 40 rd, xAI G rTo 40 tt, xAI G rMi 20 ml, xAZ G rCl 20 cz, xAZ G rSh 10 sh, xO aS 4 [.int po, .int co, .int go, .ref sTr, .ref sAk, .ref sWy, .int ln, .ref sXe, .ref sSg, .int wk, .int db, .int dn, .int iv, .int qs], xAZ G sTr 20 tr, xAI G sXe 100 xe, xAI G sSg 100 sg, xAI G aD 10 da] H locs → lv_has ls 8 [(0, .ref aR), (1, .ref aD), (2, .long d), (4, .int gg), (5, .int (nI i))] → (∀ (z : (Int64)), z = LX5_digest_q pl xe sg gg n i d → ∀ (H1 : Heap) (locs1 : List Loc) (ls1 : Array Slot), xW G A s.heap [xO aR 5 [.int th, .int pl, .ref rEx, .ref rRd, .ref rTo, .int rs, .ref rMi, .ref rCl, .ref rSh, .ref rFa, .ref aS, .ref aH], xAI G rEx 10 ex, xAI G rRd 40 rd, xAI G rTo 40 tt, xAI G rMi 20 ml, xAZ G rCl 20 cz, xAZ G rSh 10 sh, xO aS 4 [.int po, .int co, .int go, .ref sTr, .ref sAk, .ref sWy, .int ln, .ref sXe, .ref sSg, .int wk, .int db, .int dn, .int iv, .int qs], xAZ G sTr 20 tr, xAI G sXe 100 xe, xAI G sSg 100 sg, xAI G aD 10 da] H1 locs1 → lv_has ls1 8 [(0, .ref aR), (1, .ref aD), (2, .long z), (4, .int gg)] → W pg l en ⟨1, 1, 10, 21⟩ s mi args below meth cd H1 locs1 1 10 Q (F0 mi 394 ls1 [])) → W pg l en ⟨1, 1, 10, 21⟩ s mi args below meth cd H locs 1 10 Q (F0 mi 337 ls []) := by
  obtain ⟨hx, hb, -, hown, hts, -⟩ := id hc
  intro n
  induction n with
  | zero =>
    intro i d hlo hfu
    intros; exact absurd hfu (by omega)
  | succ n ih =>
    intro i d hlo hfu  H locs ls hw hl K
    refine lv_iload hx hb dX5_digest_337 (lv_at hl 4 rfl) ?_
    refine lv_aload_n hx hb dX5_digest_339 rfl (lv_at hl 0 rfl) ?_
    refine xget (C := RX5) (T := TX5) (N := 12) hc hw inX5_digest_X5 0 rfl rfl 1 (by decide) lkX5_digest_f46 rfl rfl dX5_digest_340 ?_
    refine lv_icmp_ge (tgt := 394) hx hb dX5_digest_343 (by decide) (fun c_15 => ?_) (fun c_15 => ?_)
    · exact K d (Eq.symm (if_pos c_15)) H locs ls hw (lv_sub hl [0, 1, 2, 3] rfl)
    · refine lv_lload_n hx hb dX5_digest_346 rfl (lv_at hl 2 rfl) ?_
      refine lv_ldc2 hx hb hown (hts _ lkX5_digest_cL202) dX5_digest_347 ?_
      refine lv_lmul hx hb dX5_digest_350 ?_
      refine lv_aload_n hx hb dX5_digest_351 rfl (lv_at hl 0 rfl) ?_
      refine xget (C := RX5) (T := TX5) (N := 12) hc hw inX5_digest_X5 0 rfl rfl 10 (by decide) lkX5_digest_f35 rfl rfl dX5_digest_352 ?_
      refine xgetN (C := RX4) (T := TX4) (N := 14) hc hw inX5_digest_X4 7 rfl rfl 7 (by decide) nkX5_175 rfl rfl dX5_digest_355 ?_
      refine lv_bipush (v := 10) hx hb dX5_digest_358 (by decide) ?_
      refine lv_iload hx hb dX5_digest_360 (lv_at hl 3 rfl) ?_
      refine lv_imul hx hb dX5_digest_362 ?_
      refine lv_iload hx hb dX5_digest_363 (lv_at hl 4 rfl) ?_
      refine lv_iadd hx hb dX5_digest_365 ?_
      refine xiald hc hw 9 rfl (xin (ym10in hgg (xnIB hlo c_15 hpl.2))) dX5_digest_366 ?_
      refine lv_i2l hx hb dX5_digest_367 rfl ?_
      refine lv_ladd hx hb dX5_digest_368 ?_
      refine lv_ldc2 hx hb hown (hts _ lkX5_digest_cL202) dX5_digest_369 ?_
      refine lv_lmul hx hb dX5_digest_372 ?_
      refine lv_aload_n hx hb dX5_digest_373 rfl (lv_at hl 0 rfl) ?_
      refine lv_bipush (v := 10) hx hb dX5_digest_374 (by decide) ?_
      refine lv_iload hx hb dX5_digest_376 (lv_at hl 3 rfl) ?_
      refine lv_imul hx hb dX5_digest_378 ?_
      refine lv_iload hx hb dX5_digest_379 (lv_at hl 4 rfl) ?_
      refine lv_iadd hx hb dX5_digest_381 ?_
      refine xcall_i (isC := [0, 7, 9, 10]) hc hw (xrunV (n := 1) (As := [.int ((10 * gg) + (nI i))]) (rest := [.long (((d * 31) + ((xe ((10 * gg) + (nI i)).toNatClampNeg).toInt64)) * 31)]) hc hw [0, 7, 9, 10] (metX5_strengthOf l G _ aR rEx rRd rTo rMi rCl rSh rFa aS aH sTr sAk sWy sXe sSg th pl rs po co go ln wk db dn iv qs xe sg ((10 * gg) + (nI i)) (ym10in hgg (xnIB hlo c_15 hpl.2))) gX5_digest_X5_strengthOf rfl (by decide +kernel) ⟨Nat.le_of_ble_eq_true rfl, Nat.le_of_ble_eq_true rfl⟩ 0 rfl rfl rfl rfl rfl rfl hl.1 (Nat.le_of_ble_eq_true rfl) dX5_digest_382 ⟨Nat.le_of_ble_eq_true rfl, Nat.le_of_ble_eq_true rfl⟩) rfl [1, 2, 3, 4, 5, 6, 8, 11] [8, 0, 1, 2, 3, 4, 5, 9, 6, 10, 11, 7] (fun u16 => [xO aR 5 [.int th, .int pl, .ref rEx, .ref rRd, .ref rTo, .int rs, .ref rMi, .ref rCl, .ref rSh, .ref rFa, .ref aS, .ref aH], xAI G rEx 10 ex, xAI G rRd 40 rd, xAI G rTo 40 tt, xAI G rMi 20 ml, xAZ G rCl 20 cz, xAZ G rSh 10 sh, xO aS 4 [.int po, .int co, .int go, .ref sTr, .ref sAk, .ref sWy, .int ln, .ref sXe, .ref sSg, .int wk, .int db, .int dn, .int iv, .int qs], xAZ G sTr 20 tr, xAI G sXe 100 xe, xAI G sSg 100 sg, xAI G aD 10 da]) (fun _ => rfl) rfl rfl rfl rfl (fun r17 u16 H locs hp18 hw => ?_)
      refine lv_i2l hx hb dX5_digest_385 rfl ?_
      refine lv_ladd hx hb dX5_digest_386 ?_
      refine lv_lstore_n (lv' := [(2, .long ((((d * 31) + ((xe ((10 * gg) + (nI i)).toNatClampNeg).toInt64)) * 31) + r17.toInt64)), (0, .ref aR), (1, .ref aD), (4, .int gg), (5, .int (nI i))]) hx hb dX5_digest_387 rfl hl (by decide) rfl (fun ls hl => ?_)
      refine lv_iinc (v := nI (i + 1)) (lv' := [(5, .int (nI (i + 1))), (2, .long ((((d * 31) + ((xe ((10 * gg) + (nI i)).toNatClampNeg).toInt64)) * 31) + r17.toInt64)), (0, .ref aR), (1, .ref aD), (4, .int gg)]) hx hb dX5_digest_388 hl (k := 4) rfl (nI_1 _) (by decide) rfl (fun ls hl => ?_)
      refine lv_goto (tgt := 337) hx hb dX5_digest_391 (by decide) ?_
      exact ih (i + 1) ((((d * 31) + ((xe ((10 * gg) + (nI i)).toNatClampNeg).toInt64)) * 31) + r17.toInt64) (xlt hlo c_15) (by omega) H locs ls hw (lv_sub hl [2, 3, 1, 4, 0] rfl) (fun z e => K z (xtr1 (Eq.trans (if_neg c_15) (xb hp18 rfl)) e))
def LX5_digest_g (pl : Int32) (xe : Nat → Int32) (sg : Nat → Int32) : Nat → Nat → (Int64) → (Int64)
  | 0, i, d => d
  | n + 1, i, d =>
    if pl ≤ (nI i) then (d) else (xbind (LX5_digest_q pl xe sg (nI i) 11 0 d) (fun z15 => LX5_digest_g pl xe sg n (i + 1) z15))
set_option maxHeartbeats 40000000 in
set_option maxRecDepth 100000 in
theorem lpX5_digest_g {pg : Program} {l : Launch} {en : Env} {s : State} {mi : MethodId} {args : Array Value} {below : List Frame} {meth : Method} {cd : Code} {A : Nat → Prop} {Q : State → Prop} (G : xG) (hc : xC pg s mi args meth cd cX5_digest 8 RX5 wsX5_digest (some .long) G A) (aR : Nat) (rEx : Nat) (rRd : Nat) (rTo : Nat) (rMi : Nat) (rCl : Nat) (rSh : Nat) (rFa : Nat) (aS : Nat) (aH : Nat) (sTr : Nat) (sAk : Nat) (sWy : Nat) (sXe : Nat) (sSg : Nat) (aD : Nat) (th : Int32) (pl : Int32) (rs : Int32) (ex : Nat → Int32) (rd : Nat → Int32) (tt : Nat → Int32) (ml : Nat → Int32) (cz : Nat → Int32) (sh : Nat → Int32) (po : Int32) (co : Int32) (go : Int32) (ln : Int32) (wk : Int32) (db : Int32) (dn : Int32) (iv : Int32) (qs : Int32) (tr : Nat → Int32) (xe : Nat → Int32) (sg : Nat → Int32) (da : Nat → Int32) (hpl : 0 ≤ pl.toInt ∧ pl.toInt ≤ 10) (hex4 : ∀ k, k < 10 → 0 ≤ (ex k).toInt ∧ (ex k).toInt ≤ 4) (hrd : ∀ k, k < 40 → 0 ≤ (rd k).toInt ∧ (rd k).toInt < 20) :
    ∀ (n i : Nat) (d : Int64), ((i : Nat) : Int) ≤ (pl : Int32).toInt → (pl : Int32).toInt < ((i + n : Nat) : Int) → ∀ (H : Heap) (locs : List Loc) (ls : Array Slot), xW G A s.heap [xO aR 5 [.int th, .int pl, .ref rEx, .ref rRd, .ref rTo, .int rs, .ref rMi, .ref rCl, .ref rSh, .ref rFa, .ref aS, .ref aH], xAI G rEx 10 ex, xAI G rRd 40 rd, xAI G rTo 40 tt, xAI G rMi 20 ml, xAZ G rCl 20 cz, xAZ G rSh 10 sh, xO aS 4 [.int po, .int co, .int go, .ref sTr, .ref sAk, .ref sWy, .int ln, .ref sXe, .ref sSg, .int wk, .int db, .int dn, .int iv, .int qs], xAZ G sTr 20 tr, xAI G sXe 100 xe, xAI G sSg 100 sg, xAI G aD 10 da] H locs → lv_has ls 8 [(0, .ref aR), (1, .ref aD), (2, .long d), (4, .int (nI i))] → (∀ (z : (Int64)), z = LX5_digest_g pl xe sg n i d → ∀ (H1 : Heap) (locs1 : List Loc) (ls1 : Array Slot), xW G A s.heap [xO aR 5 [.int th, .int pl, .ref rEx, .ref rRd, .ref rTo, .int rs, .ref rMi, .ref rCl, .ref rSh, .ref rFa, .ref aS, .ref aH], xAI G rEx 10 ex, xAI G rRd 40 rd, xAI G rTo 40 tt, xAI G rMi 20 ml, xAZ G rCl 20 cz, xAZ G rSh 10 sh, xO aS 4 [.int po, .int co, .int go, .ref sTr, .ref sAk, .ref sWy, .int ln, .ref sXe, .ref sSg, .int wk, .int db, .int dn, .int iv, .int qs], xAZ G sTr 20 tr, xAI G sXe 100 xe, xAI G sSg 100 sg, xAI G aD 10 da] H1 locs1 → lv_has ls1 8 [(0, .ref aR), (1, .ref aD), (2, .long z)] → W pg l en ⟨1, 1, 10, 21⟩ s mi args below meth cd H1 locs1 1 10 Q (F0 mi 400 ls1 [])) → W pg l en ⟨1, 1, 10, 21⟩ s mi args below meth cd H locs 1 10 Q (F0 mi 325 ls []) := by
  obtain ⟨hx, hb, -, hown, hts, -⟩ := id hc
  intro n
  induction n with
  | zero =>
    intro i d hlo hfu
    intros; exact absurd hfu (by omega)
  | succ n ih =>
    intro i d hlo hfu  H locs ls hw hl K
    refine lv_iload hx hb dX5_digest_325 (lv_at hl 3 rfl) ?_
    refine lv_aload_n hx hb dX5_digest_327 rfl (lv_at hl 0 rfl) ?_
    refine xget (C := RX5) (T := TX5) (N := 12) hc hw inX5_digest_X5 0 rfl rfl 1 (by decide) lkX5_digest_f46 rfl rfl dX5_digest_328 ?_
    refine lv_icmp_ge (tgt := 400) hx hb dX5_digest_331 (by decide) (fun c_14 => ?_) (fun c_14 => ?_)
    · exact K d (Eq.symm (if_pos c_14)) H locs ls hw (lv_sub hl [0, 1, 2] rfl)
    · refine lv_iconst (v := 0) hx hb dX5_digest_334 (by decide) ?_
      refine lv_istore (lv' := [(5, .int 0), (0, .ref aR), (1, .ref aD), (2, .long d), (4, .int (nI i))]) hx hb dX5_digest_335 hl (by decide) rfl (fun ls hl => ?_)
      refine lpX5_digest_q G hc aR rEx rRd rTo rMi rCl rSh rFa aS aH sTr sAk sWy sXe sSg aD th pl rs ex rd tt ml cz sh po co go ln wk db dn iv qs tr xe sg (nI i) da hpl hex4 hrd (xnIB hlo c_14 hpl.2) 11 0 d (hpl.1) (by have := hpl.2; omega) _ _ _ hw (lv_sub hl [1, 2, 3, 4, 0] rfl) (fun z15 ek16 H locs ls hw hl => ?_)
      refine lv_iinc (v := nI (i + 1)) (lv' := [(4, .int (nI (i + 1))), (0, .ref aR), (1, .ref aD), (2, .long z15)]) hx hb dX5_digest_394 hl (k := 3) rfl (nI_1 _) (by decide) rfl (fun ls hl => ?_)
      refine lv_goto (tgt := 325) hx hb dX5_digest_397 (by decide) ?_
      exact ih (i + 1) z15 (xlt hlo c_14) (by omega) H locs ls hw (lv_sub hl [1, 2, 3, 0] rfl) (fun z e => K z (xtr1 (Eq.trans (if_neg c_14) (xb ek16 rfl)) e))
def FX5_digest (pl : Int32) (ex : Nat → Int32) (rd : Nat → Int32) (tt : Nat → Int32) (ml : Nat → Int32) (cz : Nat → Int32) (sh : Nat → Int32) (po : Int32) (co : Int32) (go : Int32) (ln : Int32) (wk : Int32) (db : Int32) (dn : Int32) (iv : Int32) (qs : Int32) (tr : Nat → Int32) (xe : Nat → Int32) (sg : Nat → Int32) : Int64 × (Int32) :=
  xbind (LX5_digest_a (upd (upd (upd (upd (upd (upd (upd (upd (upd (upd (fun _ => 0) (0 : Int32).toNatClampNeg pl) (1 : Int32).toNatClampNeg po) (2 : Int32).toNatClampNeg co) (3 : Int32).toNatClampNeg go) (4 : Int32).toNatClampNeg ln) (5 : Int32).toNatClampNeg wk) (6 : Int32).toNatClampNeg db) (7 : Int32).toNatClampNeg dn) (8 : Int32).toNatClampNeg iv) (9 : Int32).toNatClampNeg qs) 11 0 1873) (fun z3 => xbind (LX5_digest_p pl ex rd tt ml cz sh tr 11 0 z3) (fun z12 => xbind (LX5_digest_g pl xe sg 11 0 z12) (fun z17 => (z17, 0))))
set_option maxHeartbeats 40000000 in
set_option maxRecDepth 100000 in
theorem metX5_digest (l : Launch) (G : xG) (sz : Nat) (aR : Nat) (rEx : Nat) (rRd : Nat) (rTo : Nat) (rMi : Nat) (rCl : Nat) (rSh : Nat) (rFa : Nat) (aS : Nat) (aH : Nat) (sTr : Nat) (sAk : Nat) (sWy : Nat) (sXe : Nat) (sSg : Nat) (th : Int32) (pl : Int32) (rs : Int32) (ex : Nat → Int32) (rd : Nat → Int32) (tt : Nat → Int32) (ml : Nat → Int32) (cz : Nat → Int32) (sh : Nat → Int32) (po : Int32) (co : Int32) (go : Int32) (ln : Int32) (wk : Int32) (db : Int32) (dn : Int32) (iv : Int32) (qs : Int32) (tr : Nat → Int32) (xe : Nat → Int32) (sg : Nat → Int32) (hpl : 0 ≤ pl.toInt ∧ pl.toInt ≤ 10) (hex4 : ∀ k, k < 10 → 0 ≤ (ex k).toInt ∧ (ex k).toInt ≤ 4) (hrd : ∀ k, k < 40 → 0 ≤ (rd k).toInt ∧ (rd k).toInt < 20) : xM l yX5_digest wsX5_digest ⟨1, 1, 10, 21⟩ G [.ref aR] [xO aR 5 [.int th, .int pl, .ref rEx, .ref rRd, .ref rTo, .int rs, .ref rMi, .ref rCl, .ref rSh, .ref rFa, .ref aS, .ref aH], xAI G rEx 10 ex, xAI G rRd 40 rd, xAI G rTo 40 tt, xAI G rMi 20 ml, xAZ G rCl 20 cz, xAZ G rSh 10 sh, xO aS 4 [.int po, .int co, .int go, .ref sTr, .ref sAk, .ref sWy, .int ln, .ref sXe, .ref sSg, .int wk, .int db, .int dn, .int iv, .int qs], xAZ G sTr 20 tr, xAI G sXe 100 xe, xAI G sSg 100 sg] sz (xQl G [xO aR 5 [.int th, .int pl, .ref rEx, .ref rRd, .ref rTo, .int rs, .ref rMi, .ref rCl, .ref rSh, .ref rFa, .ref aS, .ref aH], xAI G rEx 10 ex, xAI G rRd 40 rd, xAI G rTo 40 tt, xAI G rMi 20 ml, xAZ G rCl 20 cz, xAZ G rSh 10 sh, xO aS 4 [.int po, .int co, .int go, .ref sTr, .ref sAk, .ref sWy, .int ln, .ref sXe, .ref sSg, .int wk, .int db, .int dn, .int iv, .int qs], xAZ G sTr 20 tr, xAI G sXe 100 xe, xAI G sSg 100 sg] sz (fun (r : Int64) (u : (Int32)) => r = (FX5_digest pl ex rd tt ml cz sh po co go ln wk db dn iv qs tr xe sg).1 ∧ u = (FX5_digest pl ex rd tt ml cz sh po co go ln wk db dn iv qs tr xe sg).2) (fun u : (Int32) => [xO aR 5 [.int u, .int pl, .ref rEx, .ref rRd, .ref rTo, .int rs, .ref rMi, .ref rCl, .ref rSh, .ref rFa, .ref aS, .ref aH], xAI G rEx 10 ex, xAI G rRd 40 rd, xAI G rTo 40 tt, xAI G rMi 20 ml, xAZ G rCl 20 cz, xAZ G rSh 10 sh, xO aS 4 [.int po, .int co, .int go, .ref sTr, .ref sAk, .ref sWy, .int ln, .ref sXe, .ref sSg, .int wk, .int db, .int dn, .int iv, .int qs], xAZ G sTr 20 tr, xAI G sXe 100 xe, xAI G sSg 100 sg])) := by
  refine xof (own := RX5) (cc := cX5_digest) (maxL := 8) (ret := (some .long)) rfl (by decide) rfl (Nat.le_of_ble_eq_true rfl) ?_
  intro pg en s mi below meth cd hc hnm hw ls hl
  obtain ⟨hx, hb, -, hown, hts, -⟩ := id hc
  have hl : lv_has ls 8 [(0, .ref aR)] := hl
  refine lv_aload_n hx hb dX5_digest_0 rfl (lv_at hl 0 rfl) ?_
  refine lv_iconst (v := 0) hx hb dX5_digest_1 (by decide) ?_
  refine xput (C := RX5) (T := TX5) (N := 12) (ty := .int) hc hw inX5_digest_X5 tyX5 tyX5_ok nmX5 0 [xO aR 5 [.int 0, .int pl, .ref rEx, .ref rRd, .ref rTo, .int rs, .ref rMi, .ref rCl, .ref rSh, .ref rFa, .ref aS, .ref aH], xAI G rEx 10 ex, xAI G rRd 40 rd, xAI G rTo 40 tt, xAI G rMi 20 ml, xAZ G rCl 20 cz, xAZ G rSh 10 sh, xO aS 4 [.int po, .int co, .int go, .ref sTr, .ref sAk, .ref sWy, .int ln, .ref sXe, .ref sSg, .int wk, .int db, .int dn, .int iv, .int qs], xAZ G sTr 20 tr, xAI G sXe 100 xe, xAI G sSg 100 sg] rfl rfl 0 (by decide) lkX5_digest_f42 rfl rfl rfl rfl (Nat.le_of_ble_eq_true rfl) rfl dX5_digest_2 (fun H locs hw => ?_)
  refine lv_bipush (v := 10) hx hb dX5_digest_5 (by decide) ?_
  refine xnewaI hc hw 10 lkX5_digest_aI (by decide) rfl (Nat.le_of_ble_eq_true rfl) (Nat.le_of_ble_eq_true rfl) (Nat.le_of_ble_eq_true rfl) dX5_digest_7 (fun q1 H hw => ?_)
  have hw : xW _ _ _ [xO aR 5 [.int 0, .int pl, .ref rEx, .ref rRd, .ref rTo, .int rs, .ref rMi, .ref rCl, .ref rSh, .ref rFa, .ref aS, .ref aH], xAI G rEx 10 ex, xAI G rRd 40 rd, xAI G rTo 40 tt, xAI G rMi 20 ml, xAZ G rCl 20 cz, xAZ G rSh 10 sh, xO aS 4 [.int po, .int co, .int go, .ref sTr, .ref sAk, .ref sWy, .int ln, .ref sXe, .ref sSg, .int wk, .int db, .int dn, .int iv, .int qs], xAZ G sTr 20 tr, xAI G sXe 100 xe, xAI G sSg 100 sg, xAI G q1 10 (fun _ => 0)] H _ := hw
  refine lv_dup hx hb dX5_digest_9 rfl ?_
  refine lv_iconst (v := 0) hx hb dX5_digest_10 (by decide) ?_
  refine lv_aload_n hx hb dX5_digest_11 rfl (lv_at hl 0 rfl) ?_
  refine xget (C := RX5) (T := TX5) (N := 12) hc hw inX5_digest_X5 0 rfl rfl 1 (by decide) lkX5_digest_f46 rfl rfl dX5_digest_12 ?_
  refine xiast hc hw 11 [xO aR 5 [.int 0, .int pl, .ref rEx, .ref rRd, .ref rTo, .int rs, .ref rMi, .ref rCl, .ref rSh, .ref rFa, .ref aS, .ref aH], xAI G rEx 10 ex, xAI G rRd 40 rd, xAI G rTo 40 tt, xAI G rMi 20 ml, xAZ G rCl 20 cz, xAZ G rSh 10 sh, xO aS 4 [.int po, .int co, .int go, .ref sTr, .ref sAk, .ref sWy, .int ln, .ref sXe, .ref sSg, .int wk, .int db, .int dn, .int iv, .int qs], xAZ G sTr 20 tr, xAI G sXe 100 xe, xAI G sSg 100 sg, xAI G q1 10 (upd (fun _ => 0) (0 : Int32).toNatClampNeg pl)] rfl (xin ⟨by decide, by decide⟩) rfl dX5_digest_15 (fun H locs hw => ?_)
  refine lv_dup hx hb dX5_digest_16 rfl ?_
  refine lv_iconst (v := 1) hx hb dX5_digest_17 (by decide) ?_
  refine lv_aload_n hx hb dX5_digest_18 rfl (lv_at hl 0 rfl) ?_
  refine xget (C := RX5) (T := TX5) (N := 12) hc hw inX5_digest_X5 0 rfl rfl 10 (by decide) lkX5_digest_f35 rfl rfl dX5_digest_19 ?_
  refine xgetN (C := RX4) (T := TX4) (N := 14) hc hw inX5_digest_X4 7 rfl rfl 0 (by decide) nkX5_61 rfl rfl dX5_digest_22 ?_
  refine xiast hc hw 11 [xO aR 5 [.int 0, .int pl, .ref rEx, .ref rRd, .ref rTo, .int rs, .ref rMi, .ref rCl, .ref rSh, .ref rFa, .ref aS, .ref aH], xAI G rEx 10 ex, xAI G rRd 40 rd, xAI G rTo 40 tt, xAI G rMi 20 ml, xAZ G rCl 20 cz, xAZ G rSh 10 sh, xO aS 4 [.int po, .int co, .int go, .ref sTr, .ref sAk, .ref sWy, .int ln, .ref sXe, .ref sSg, .int wk, .int db, .int dn, .int iv, .int qs], xAZ G sTr 20 tr, xAI G sXe 100 xe, xAI G sSg 100 sg, xAI G q1 10 (upd (upd (fun _ => 0) (0 : Int32).toNatClampNeg pl) (1 : Int32).toNatClampNeg po)] rfl (xin ⟨by decide, by decide⟩) rfl dX5_digest_25 (fun H locs hw => ?_)
  refine lv_dup hx hb dX5_digest_26 rfl ?_
  refine lv_iconst (v := 2) hx hb dX5_digest_27 (by decide) ?_
  refine lv_aload_n hx hb dX5_digest_28 rfl (lv_at hl 0 rfl) ?_
  refine xget (C := RX5) (T := TX5) (N := 12) hc hw inX5_digest_X5 0 rfl rfl 10 (by decide) lkX5_digest_f35 rfl rfl dX5_digest_29 ?_
  refine xgetN (C := RX4) (T := TX4) (N := 14) hc hw inX5_digest_X4 7 rfl rfl 1 (by decide) nkX5_97 rfl rfl dX5_digest_32 ?_
  refine xiast hc hw 11 [xO aR 5 [.int 0, .int pl, .ref rEx, .ref rRd, .ref rTo, .int rs, .ref rMi, .ref rCl, .ref rSh, .ref rFa, .ref aS, .ref aH], xAI G rEx 10 ex, xAI G rRd 40 rd, xAI G rTo 40 tt, xAI G rMi 20 ml, xAZ G rCl 20 cz, xAZ G rSh 10 sh, xO aS 4 [.int po, .int co, .int go, .ref sTr, .ref sAk, .ref sWy, .int ln, .ref sXe, .ref sSg, .int wk, .int db, .int dn, .int iv, .int qs], xAZ G sTr 20 tr, xAI G sXe 100 xe, xAI G sSg 100 sg, xAI G q1 10 (upd (upd (upd (fun _ => 0) (0 : Int32).toNatClampNeg pl) (1 : Int32).toNatClampNeg po) (2 : Int32).toNatClampNeg co)] rfl (xin ⟨by decide, by decide⟩) rfl dX5_digest_35 (fun H locs hw => ?_)
  refine lv_dup hx hb dX5_digest_36 rfl ?_
  refine lv_iconst (v := 3) hx hb dX5_digest_37 (by decide) ?_
  refine lv_aload_n hx hb dX5_digest_38 rfl (lv_at hl 0 rfl) ?_
  refine xget (C := RX5) (T := TX5) (N := 12) hc hw inX5_digest_X5 0 rfl rfl 10 (by decide) lkX5_digest_f35 rfl rfl dX5_digest_39 ?_
  refine xgetN (C := RX4) (T := TX4) (N := 14) hc hw inX5_digest_X4 7 rfl rfl 2 (by decide) nkX5_103 rfl rfl dX5_digest_42 ?_
  refine xiast hc hw 11 [xO aR 5 [.int 0, .int pl, .ref rEx, .ref rRd, .ref rTo, .int rs, .ref rMi, .ref rCl, .ref rSh, .ref rFa, .ref aS, .ref aH], xAI G rEx 10 ex, xAI G rRd 40 rd, xAI G rTo 40 tt, xAI G rMi 20 ml, xAZ G rCl 20 cz, xAZ G rSh 10 sh, xO aS 4 [.int po, .int co, .int go, .ref sTr, .ref sAk, .ref sWy, .int ln, .ref sXe, .ref sSg, .int wk, .int db, .int dn, .int iv, .int qs], xAZ G sTr 20 tr, xAI G sXe 100 xe, xAI G sSg 100 sg, xAI G q1 10 (upd (upd (upd (upd (fun _ => 0) (0 : Int32).toNatClampNeg pl) (1 : Int32).toNatClampNeg po) (2 : Int32).toNatClampNeg co) (3 : Int32).toNatClampNeg go)] rfl (xin ⟨by decide, by decide⟩) rfl dX5_digest_45 (fun H locs hw => ?_)
  refine lv_dup hx hb dX5_digest_46 rfl ?_
  refine lv_iconst (v := 4) hx hb dX5_digest_47 (by decide) ?_
  refine lv_aload_n hx hb dX5_digest_48 rfl (lv_at hl 0 rfl) ?_
  refine xget (C := RX5) (T := TX5) (N := 12) hc hw inX5_digest_X5 0 rfl rfl 10 (by decide) lkX5_digest_f35 rfl rfl dX5_digest_49 ?_
  refine xgetN (C := RX4) (T := TX4) (N := 14) hc hw inX5_digest_X4 7 rfl rfl 6 (by decide) nkX5_84 rfl rfl dX5_digest_52 ?_
  refine xiast hc hw 11 [xO aR 5 [.int 0, .int pl, .ref rEx, .ref rRd, .ref rTo, .int rs, .ref rMi, .ref rCl, .ref rSh, .ref rFa, .ref aS, .ref aH], xAI G rEx 10 ex, xAI G rRd 40 rd, xAI G rTo 40 tt, xAI G rMi 20 ml, xAZ G rCl 20 cz, xAZ G rSh 10 sh, xO aS 4 [.int po, .int co, .int go, .ref sTr, .ref sAk, .ref sWy, .int ln, .ref sXe, .ref sSg, .int wk, .int db, .int dn, .int iv, .int qs], xAZ G sTr 20 tr, xAI G sXe 100 xe, xAI G sSg 100 sg, xAI G q1 10 (upd (upd (upd (upd (upd (fun _ => 0) (0 : Int32).toNatClampNeg pl) (1 : Int32).toNatClampNeg po) (2 : Int32).toNatClampNeg co) (3 : Int32).toNatClampNeg go) (4 : Int32).toNatClampNeg ln)] rfl (xin ⟨by decide, by decide⟩) rfl dX5_digest_55 (fun H locs hw => ?_)
  refine lv_dup hx hb dX5_digest_56 rfl ?_
  refine lv_iconst (v := 5) hx hb dX5_digest_57 (by decide) ?_
  refine lv_aload_n hx hb dX5_digest_58 rfl (lv_at hl 0 rfl) ?_
  refine xget (C := RX5) (T := TX5) (N := 12) hc hw inX5_digest_X5 0 rfl rfl 10 (by decide) lkX5_digest_f35 rfl rfl dX5_digest_59 ?_
  refine xgetN (C := RX4) (T := TX4) (N := 14) hc hw inX5_digest_X4 7 rfl rfl 9 (by decide) nkX5_87 rfl rfl dX5_digest_62 ?_
  refine xiast hc hw 11 [xO aR 5 [.int 0, .int pl, .ref rEx, .ref rRd, .ref rTo, .int rs, .ref rMi, .ref rCl, .ref rSh, .ref rFa, .ref aS, .ref aH], xAI G rEx 10 ex, xAI G rRd 40 rd, xAI G rTo 40 tt, xAI G rMi 20 ml, xAZ G rCl 20 cz, xAZ G rSh 10 sh, xO aS 4 [.int po, .int co, .int go, .ref sTr, .ref sAk, .ref sWy, .int ln, .ref sXe, .ref sSg, .int wk, .int db, .int dn, .int iv, .int qs], xAZ G sTr 20 tr, xAI G sXe 100 xe, xAI G sSg 100 sg, xAI G q1 10 (upd (upd (upd (upd (upd (upd (fun _ => 0) (0 : Int32).toNatClampNeg pl) (1 : Int32).toNatClampNeg po) (2 : Int32).toNatClampNeg co) (3 : Int32).toNatClampNeg go) (4 : Int32).toNatClampNeg ln) (5 : Int32).toNatClampNeg wk)] rfl (xin ⟨by decide, by decide⟩) rfl dX5_digest_65 (fun H locs hw => ?_)
  refine lv_dup hx hb dX5_digest_66 rfl ?_
  refine lv_bipush (v := 6) hx hb dX5_digest_67 (by decide) ?_
  refine lv_aload_n hx hb dX5_digest_69 rfl (lv_at hl 0 rfl) ?_
  refine xget (C := RX5) (T := TX5) (N := 12) hc hw inX5_digest_X5 0 rfl rfl 10 (by decide) lkX5_digest_f35 rfl rfl dX5_digest_70 ?_
  refine xgetN (C := RX4) (T := TX4) (N := 14) hc hw inX5_digest_X4 7 rfl rfl 10 (by decide) nkX5_122 rfl rfl dX5_digest_73 ?_
  refine xiast hc hw 11 [xO aR 5 [.int 0, .int pl, .ref rEx, .ref rRd, .ref rTo, .int rs, .ref rMi, .ref rCl, .ref rSh, .ref rFa, .ref aS, .ref aH], xAI G rEx 10 ex, xAI G rRd 40 rd, xAI G rTo 40 tt, xAI G rMi 20 ml, xAZ G rCl 20 cz, xAZ G rSh 10 sh, xO aS 4 [.int po, .int co, .int go, .ref sTr, .ref sAk, .ref sWy, .int ln, .ref sXe, .ref sSg, .int wk, .int db, .int dn, .int iv, .int qs], xAZ G sTr 20 tr, xAI G sXe 100 xe, xAI G sSg 100 sg, xAI G q1 10 (upd (upd (upd (upd (upd (upd (upd (fun _ => 0) (0 : Int32).toNatClampNeg pl) (1 : Int32).toNatClampNeg po) (2 : Int32).toNatClampNeg co) (3 : Int32).toNatClampNeg go) (4 : Int32).toNatClampNeg ln) (5 : Int32).toNatClampNeg wk) (6 : Int32).toNatClampNeg db)] rfl (xin ⟨by decide, by decide⟩) rfl dX5_digest_76 (fun H locs hw => ?_)
  refine lv_dup hx hb dX5_digest_77 rfl ?_
  refine lv_bipush (v := 7) hx hb dX5_digest_78 (by decide) ?_
  refine lv_aload_n hx hb dX5_digest_80 rfl (lv_at hl 0 rfl) ?_
  refine xget (C := RX5) (T := TX5) (N := 12) hc hw inX5_digest_X5 0 rfl rfl 10 (by decide) lkX5_digest_f35 rfl rfl dX5_digest_81 ?_
  refine xgetN (C := RX4) (T := TX4) (N := 14) hc hw inX5_digest_X4 7 rfl rfl 11 (by decide) nkX5_156 rfl rfl dX5_digest_84 ?_
  refine xiast hc hw 11 [xO aR 5 [.int 0, .int pl, .ref rEx, .ref rRd, .ref rTo, .int rs, .ref rMi, .ref rCl, .ref rSh, .ref rFa, .ref aS, .ref aH], xAI G rEx 10 ex, xAI G rRd 40 rd, xAI G rTo 40 tt, xAI G rMi 20 ml, xAZ G rCl 20 cz, xAZ G rSh 10 sh, xO aS 4 [.int po, .int co, .int go, .ref sTr, .ref sAk, .ref sWy, .int ln, .ref sXe, .ref sSg, .int wk, .int db, .int dn, .int iv, .int qs], xAZ G sTr 20 tr, xAI G sXe 100 xe, xAI G sSg 100 sg, xAI G q1 10 (upd (upd (upd (upd (upd (upd (upd (upd (fun _ => 0) (0 : Int32).toNatClampNeg pl) (1 : Int32).toNatClampNeg po) (2 : Int32).toNatClampNeg co) (3 : Int32).toNatClampNeg go) (4 : Int32).toNatClampNeg ln) (5 : Int32).toNatClampNeg wk) (6 : Int32).toNatClampNeg db) (7 : Int32).toNatClampNeg dn)] rfl (xin ⟨by decide, by decide⟩) rfl dX5_digest_87 (fun H locs hw => ?_)
  refine lv_dup hx hb dX5_digest_88 rfl ?_
  refine lv_bipush (v := 8) hx hb dX5_digest_89 (by decide) ?_
  refine lv_aload_n hx hb dX5_digest_91 rfl (lv_at hl 0 rfl) ?_
  refine xget (C := RX5) (T := TX5) (N := 12) hc hw inX5_digest_X5 0 rfl rfl 10 (by decide) lkX5_digest_f35 rfl rfl dX5_digest_92 ?_
  refine xgetN (C := RX4) (T := TX4) (N := 14) hc hw inX5_digest_X4 7 rfl rfl 12 (by decide) nkX5_146 rfl rfl dX5_digest_95 ?_
  refine xiast hc hw 11 [xO aR 5 [.int 0, .int pl, .ref rEx, .ref rRd, .ref rTo, .int rs, .ref rMi, .ref rCl, .ref rSh, .ref rFa, .ref aS, .ref aH], xAI G rEx 10 ex, xAI G rRd 40 rd, xAI G rTo 40 tt, xAI G rMi 20 ml, xAZ G rCl 20 cz, xAZ G rSh 10 sh, xO aS 4 [.int po, .int co, .int go, .ref sTr, .ref sAk, .ref sWy, .int ln, .ref sXe, .ref sSg, .int wk, .int db, .int dn, .int iv, .int qs], xAZ G sTr 20 tr, xAI G sXe 100 xe, xAI G sSg 100 sg, xAI G q1 10 (upd (upd (upd (upd (upd (upd (upd (upd (upd (fun _ => 0) (0 : Int32).toNatClampNeg pl) (1 : Int32).toNatClampNeg po) (2 : Int32).toNatClampNeg co) (3 : Int32).toNatClampNeg go) (4 : Int32).toNatClampNeg ln) (5 : Int32).toNatClampNeg wk) (6 : Int32).toNatClampNeg db) (7 : Int32).toNatClampNeg dn) (8 : Int32).toNatClampNeg iv)] rfl (xin ⟨by decide, by decide⟩) rfl dX5_digest_98 (fun H locs hw => ?_)
  refine lv_dup hx hb dX5_digest_99 rfl ?_
  refine lv_bipush (v := 9) hx hb dX5_digest_100 (by decide) ?_
  refine lv_aload_n hx hb dX5_digest_102 rfl (lv_at hl 0 rfl) ?_
  refine xget (C := RX5) (T := TX5) (N := 12) hc hw inX5_digest_X5 0 rfl rfl 10 (by decide) lkX5_digest_f35 rfl rfl dX5_digest_103 ?_
  refine xgetN (C := RX4) (T := TX4) (N := 14) hc hw inX5_digest_X4 7 rfl rfl 13 (by decide) nkX5_100 rfl rfl dX5_digest_106 ?_
  refine xiast hc hw 11 [xO aR 5 [.int 0, .int pl, .ref rEx, .ref rRd, .ref rTo, .int rs, .ref rMi, .ref rCl, .ref rSh, .ref rFa, .ref aS, .ref aH], xAI G rEx 10 ex, xAI G rRd 40 rd, xAI G rTo 40 tt, xAI G rMi 20 ml, xAZ G rCl 20 cz, xAZ G rSh 10 sh, xO aS 4 [.int po, .int co, .int go, .ref sTr, .ref sAk, .ref sWy, .int ln, .ref sXe, .ref sSg, .int wk, .int db, .int dn, .int iv, .int qs], xAZ G sTr 20 tr, xAI G sXe 100 xe, xAI G sSg 100 sg, xAI G q1 10 (upd (upd (upd (upd (upd (upd (upd (upd (upd (upd (fun _ => 0) (0 : Int32).toNatClampNeg pl) (1 : Int32).toNatClampNeg po) (2 : Int32).toNatClampNeg co) (3 : Int32).toNatClampNeg go) (4 : Int32).toNatClampNeg ln) (5 : Int32).toNatClampNeg wk) (6 : Int32).toNatClampNeg db) (7 : Int32).toNatClampNeg dn) (8 : Int32).toNatClampNeg iv) (9 : Int32).toNatClampNeg qs)] rfl (xin ⟨by decide, by decide⟩) rfl dX5_digest_109 (fun H locs hw => ?_)
  refine lv_astore_n (lv' := [(1, .ref q1), (0, .ref aR)]) hx hb dX5_digest_110 rfl hl (by decide) rfl (fun ls hl => ?_)
  refine lv_ldc2 hx hb hown (hts _ lkX5_digest_cL200) dX5_digest_111 ?_
  refine lv_lstore_n (lv' := [(2, .long 1873), (1, .ref q1), (0, .ref aR)]) hx hb dX5_digest_114 rfl hl (by decide) rfl (fun ls hl => ?_)
  refine lv_aload_n hx hb dX5_digest_115 rfl (lv_at hl 1 rfl) ?_
  refine lv_astore (lv' := [(4, .ref q1), (2, .long 1873), (1, .ref q1), (0, .ref aR)]) hx hb dX5_digest_116 hl (by decide) rfl (fun ls hl => ?_)
  refine lv_aload hx hb dX5_digest_118 (lv_at hl 0 rfl) ?_
  refine xalenI hc hw 11 rfl (v := 10) rfl dX5_digest_120 ?_
  refine lv_istore (lv' := [(5, .int 10), (4, .ref q1), (2, .long 1873), (1, .ref q1), (0, .ref aR)]) hx hb dX5_digest_121 hl (by decide) rfl (fun ls hl => ?_)
  refine lv_iconst (v := 0) hx hb dX5_digest_123 (by decide) ?_
  refine lv_istore (lv' := [(6, .int 0), (5, .int 10), (4, .ref q1), (2, .long 1873), (1, .ref q1), (0, .ref aR)]) hx hb dX5_digest_124 hl (by decide) rfl (fun ls hl => ?_)
  refine lpX5_digest_a G hc aR rEx rRd rTo rMi rCl rSh rFa aS aH sTr sAk sWy sXe sSg q1 0 pl rs ex rd tt ml cz sh po co go ln wk db dn iv qs tr xe sg (upd (upd (upd (upd (upd (upd (upd (upd (upd (upd (fun _ => 0) (0 : Int32).toNatClampNeg pl) (1 : Int32).toNatClampNeg po) (2 : Int32).toNatClampNeg co) (3 : Int32).toNatClampNeg go) (4 : Int32).toNatClampNeg ln) (5 : Int32).toNatClampNeg wk) (6 : Int32).toNatClampNeg db) (7 : Int32).toNatClampNeg dn) (8 : Int32).toNatClampNeg iv) (9 : Int32).toNatClampNeg qs) hpl hex4 hrd 11 0 1873 (by decide) (by decide) _ _ _ hw (lv_sub hl [5, 4, 3, 2, 1, 0] rfl) (fun z3 ek4 H locs ls hw hl => ?_)
  refine lv_iconst (v := 0) hx hb dX5_digest_156 (by decide) ?_
  refine lv_istore (lv' := [(4, .int 0), (0, .ref aR), (1, .ref q1), (2, .long z3), (5, .int 10)]) hx hb dX5_digest_157 hl (by decide) rfl (fun ls hl => ?_)
  refine lpX5_digest_p G hc aR rEx rRd rTo rMi rCl rSh rFa aS aH sTr sAk sWy sXe sSg q1 0 pl rs ex rd tt ml cz sh po co go ln wk db dn iv qs tr xe sg (upd (upd (upd (upd (upd (upd (upd (upd (upd (upd (fun _ => 0) (0 : Int32).toNatClampNeg pl) (1 : Int32).toNatClampNeg po) (2 : Int32).toNatClampNeg co) (3 : Int32).toNatClampNeg go) (4 : Int32).toNatClampNeg ln) (5 : Int32).toNatClampNeg wk) (6 : Int32).toNatClampNeg db) (7 : Int32).toNatClampNeg dn) (8 : Int32).toNatClampNeg iv) (9 : Int32).toNatClampNeg qs) hpl hex4 hrd 11 0 z3 (hpl.1) (by have := hpl.2; omega) _ _ _ hw (lv_sub hl [1, 2, 3, 0] rfl) (fun z12 ek13 H locs ls hw hl => ?_)
  refine lv_iconst (v := 0) hx hb dX5_digest_322 (by decide) ?_
  refine lv_istore (lv' := [(4, .int 0), (0, .ref aR), (1, .ref q1), (2, .long z12)]) hx hb dX5_digest_323 hl (by decide) rfl (fun ls hl => ?_)
  refine lpX5_digest_g G hc aR rEx rRd rTo rMi rCl rSh rFa aS aH sTr sAk sWy sXe sSg q1 0 pl rs ex rd tt ml cz sh po co go ln wk db dn iv qs tr xe sg (upd (upd (upd (upd (upd (upd (upd (upd (upd (upd (fun _ => 0) (0 : Int32).toNatClampNeg pl) (1 : Int32).toNatClampNeg po) (2 : Int32).toNatClampNeg co) (3 : Int32).toNatClampNeg go) (4 : Int32).toNatClampNeg ln) (5 : Int32).toNatClampNeg wk) (6 : Int32).toNatClampNeg db) (7 : Int32).toNatClampNeg dn) (8 : Int32).toNatClampNeg iv) (9 : Int32).toNatClampNeg qs) hpl hex4 hrd 11 0 z12 (hpl.1) (by have := hpl.2; omega) _ _ _ hw (lv_sub hl [1, 2, 3, 0] rfl) (fun z17 ek18 H locs ls hw hl => ?_)
  refine lv_lload_n hx hb dX5_digest_400 rfl (lv_at hl 2 rfl) ?_
  have hw := xsubW (w2 := [xO aR 5 [.int 0, .int pl, .ref rEx, .ref rRd, .ref rTo, .int rs, .ref rMi, .ref rCl, .ref rSh, .ref rFa, .ref aS, .ref aH], xAI G rEx 10 ex, xAI G rRd 40 rd, xAI G rTo 40 tt, xAI G rMi 20 ml, xAZ G rCl 20 cz, xAZ G rSh 10 sh, xO aS 4 [.int po, .int co, .int go, .ref sTr, .ref sAk, .ref sWy, .int ln, .ref sXe, .ref sSg, .int wk, .int db, .int dn, .int iv, .int qs], xAZ G sTr 20 tr, xAI G sXe 100 xe, xAI G sSg 100 sg]) hw [0, 1, 2, 3, 4, 5, 6, 7, 8, 9, 10] rfl rfl
  exact xret_l 0 hc hw (xe2 (xb ek4 (xb ek13 (xb ek18 rfl)))) ⟨Nat.le_of_ble_eq_true rfl, Nat.le_of_ble_eq_true rfl⟩ dX5_digest_401
