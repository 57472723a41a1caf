/-! meanMiles: the one method that may draw (which NaN its quotient is) -/
theorem zdself (a : UInt64) : FP.dcmp a a = none ∨ FP.dcmp a a = some .eq := by
  have h : ∀ x : Jvm.FP.Core.Datum, Jvm.FP.Core.order x x = none ∨ Jvm.FP.Core.order x x = some .eq := by
    intro x
    cases x with
    | nan => exact Or.inl rfl
    | inf s => exact Or.inr (congrArg some (by simp [compare, compareOfLessAndEq]))
    | fin s c q => exact Or.inr (congrArg some (by simp [compare, compareOfLessAndEq]))
  exact h (Jvm.FP.Core.decode Jvm.FP.Core.b64 a.toNat)
theorem zdnan {b : UInt64} (h : isNaN64 b = true) : FP.dcmp b b = none := by
  rw [isNaN64_iff] at h
  have h2 : b.toNat &&& 9223372036854775807 = b.toNat % 9223372036854775808 := Nat.and_two_pow_sub_one_eq_mod b.toNat 63
  rw [h2] at h
  have t1 : Jvm.FP.Core.Fmt.tails Jvm.FP.Core.b64 = 4503599627370496 := rfl
  have t2 : Jvm.FP.Core.Fmt.exps Jvm.FP.Core.b64 = 2048 := rfl
  have hd : Jvm.FP.Core.decode Jvm.FP.Core.b64 b.toNat = .nan := by
    unfold Jvm.FP.Core.decode Jvm.FP.Core.fieldE Jvm.FP.Core.fieldT
    rw [t1, t2, if_pos (by omega), if_neg (by omega)]
  show Jvm.FP.Core.order (Jvm.FP.Core.decode Jvm.FP.Core.b64 b.toNat) (Jvm.FP.Core.decode Jvm.FP.Core.b64 b.toNat) = none
  rw [hd]
  rfl
def zmm (wk dn iv : Int32) (r : UInt64) : Prop := (dn + iv = 0 ∧ r = FP.dconst0) ∨ (¬ dn + iv = 0 ∧ alike64 r (FP.ddiv (FP.i2d wk) (FP.i2d (dn + iv))) = true)
theorem zdsame (p : UInt64) : Op.cmpValue (FP.dcmp p p) CmpOp.l = 0 ∨ ¬ Op.cmpValue (FP.dcmp p p) CmpOp.l = 0 := Classical.em _
/-- two answers of meanMiles: equal, or both a NaN -/
theorem zmm2 {wk dn iv : Int32} {p q : UInt64} (hp : zmm wk dn iv p) (hq : zmm wk dn iv q) : Op.cmpValue (FP.dcmp p q) CmpOp.l = 0 ∨ (¬ Op.cmpValue (FP.dcmp p p) CmpOp.l = 0 ∧ ¬ Op.cmpValue (FP.dcmp q q) CmpOp.l = 0) := by
  have eqc : p = q → Op.cmpValue (FP.dcmp p q) CmpOp.l = 0 ∨ (¬ Op.cmpValue (FP.dcmp p p) CmpOp.l = 0 ∧ ¬ Op.cmpValue (FP.dcmp q q) CmpOp.l = 0) := by
    intro e
    rw [e]
    by_cases c : Op.cmpValue (FP.dcmp q q) CmpOp.l = 0
    · exact Or.inl c
    · exact Or.inr ⟨c, c⟩
  have nanc : ∀ b, isNaN64 b = true → ¬ Op.cmpValue (FP.dcmp b b) CmpOp.l = 0 := by
    intro b hb
    rw [zdnan hb]
    decide
  rcases hp with ⟨p1, p2⟩ | ⟨p1, p2⟩
  · rcases hq with ⟨q1, q2⟩ | ⟨q1, q2⟩
    · exact eqc (p2.trans q2.symm)
    · exact absurd p1 q1
  · rcases hq with ⟨q1, q2⟩ | ⟨q1, q2⟩
    · exact absurd q1 p1
    · unfold alike64 at p2 q2
      rw [Bool.or_eq_true, decide_eq_true_eq, Bool.and_eq_true] at p2 q2
      rcases p2 with p2 | ⟨p2, p3⟩
      · rcases q2 with q2 | ⟨q2, q3⟩
        · exact eqc (p2.trans q2.symm)
        · rw [← p2] at q3
          exact Or.inr ⟨nanc p q3, nanc q q2⟩
      · rcases q2 with q2 | ⟨q2, q3⟩
        · rw [← q2] at p3
          exact Or.inr ⟨nanc p p2, nanc q p3⟩
        · exact Or.inr ⟨nanc p p2, nanc q q2⟩
theorem xCd {p : Program} {s : State} {m : MethodId} {args : Array Value} {meth : Method} {c : Code} {cc : ByteArray} {nL : Nat} {own : String} {wds : List Cond} {ret : Option FieldType} {G : xG} {A : Nat → Prop} (hc : xC p s m args meth c cc nL own wds ret G A) (d : Drawn) : xC p (s.setDrawn d) m args meth c cc nL own wds ret G A := by
  obtain ⟨hx, hb, hml, hown, hts, hr, hlk, hE, hZ, hA⟩ := hc
  exact ⟨hx, hb, hml, hown, dr_words hts d, hr, hlk, xE.same (u := s) (U := s.setDrawn d) rfl hE, ⟨vx_Zq.moved (Vm.Alike.refl s.vm) hZ.1, vx_Zq.moved (Vm.Alike.refl s.vm) hZ.2⟩, hA⟩
theorem xofD {l : Launch} {y : MethodName} {wds wds' : List Cond} {rm : Room} {G : xG} {av : List Value} {ws : va_W} {sz : Nat} {Qc : Array Value → State → Outcome → State → Prop} {own : String} {cc : ByteArray} {maxL : Nat} {ret : Option FieldType}
    (ho : y.cls = own) (hy : plainName y.cls = true) (hwd : wds = Cond.code y cc maxL ret :: wds') (hlen : (lg_sl av).length ≤ maxL)
    (body : ∀ (p : Program) (e : Env) (s : State) (m : MethodId) (below : List Frame) (meth : Method) (c : Code) (d0 : Drawn), s.drawn.sameBut d0 lw_cs → xC p (s.setDrawn d0) m av.toArray meth c cc maxL own wds ret G (va_A ws sz) → xW G (va_A ws sz) s.heap ws s.heap [] →
      ∀ ls, lv_has ls maxL (lv_args 0 av) → W p l e rm (s.setDrawn d0) m av.toArray below meth c s.heap [] 0 0 (MQD lw_cs below Qc av.toArray s rm.cells rm.slots (va_A ws sz)) (F0 m 0 ls [])) :
    MetD lw_cs l y wds rm (va_Pc av (xPc G ws sz)) Qc rm.cells rm.slots (va_A ws sz) := by
  subst ho
  refine MetD.ofW (cc := cc) (maxL := maxL) (ret := ret) hy hwd ?_
  intro p e s m args below meth c s₁ B hml hv hd0
  obtain ⟨rfl, hsz, hP, hD0, hE, hZ⟩ := hv
  have hl := lv_entry av (n := maxL) hlen
  rw [lg_entry_eq]
  generalize (lg_sl av ++ List.replicate (maxL - (lg_sl av).length) Slot.unset).toArray = ls at hl ⊢
  have hc : xC p s m av.toArray meth c cc maxL y.cls wds ret G (va_A ws sz) := ⟨B.exec, B.bytes, hml, findClass_of_methodNamed B.named, atoms_spec (ws := wds) B.pre, B.returns, B.notSynchronized, hE, hZ, fun q h => Or.inr (hsz ▸ h)⟩
  exact body p e s m below meth c s.drawn hd0 (xCd hc s.drawn) ⟨hP, hD0.self, va_S.rf⟩ ls hl
set_option maxHeartbeats 40000000 in
set_option maxRecDepth 100000 in
theorem metX3_meanMiles (l : Launch) (G : xG) (sz : Nat) (aX : Nat) (aL : Nat) (aC : Nat) (aT : Nat) (aM : Nat) (aWy : Nat) (aTr : Nat) (aAk : Nat) (po : Int32) (co : Int32) (go : Int32) (wl : Int32) (gu : Int32) (wk : Int32) (db : Int32) (dn : Int32) (iv : Int32) (qs : Int32) : MetD lw_cs l yX3_meanMiles wsX3_meanMiles ⟨0, 0, 0, 0⟩ (va_Pc [.ref aX] (xPc G [xO aX 3 [.ref aL, .ref aC, .ref aT], xO aC 0 [.ref aL, .ref aM, .int po, .int co, .int go, .ref aWy, .int wl, .ref aTr, .ref aAk, .int gu, .int wk, .int db, .int dn, .int iv, .int qs]] sz)) (xQd G [xO aX 3 [.ref aL, .ref aC, .ref aT], xO aC 0 [.ref aL, .ref aM, .int po, .int co, .int go, .ref aWy, .int wl, .ref aTr, .ref aAk, .int gu, .int wk, .int db, .int dn, .int iv, .int qs]] sz (fun (r : UInt64) (_ : Unit) => zmm wk dn iv r) (fun _ => [xO aX 3 [.ref aL, .ref aC, .ref aT], xO aC 0 [.ref aL, .ref aM, .int po, .int co, .int go, .ref aWy, .int wl, .ref aTr, .ref aAk, .int gu, .int wk, .int db, .int dn, .int iv, .int qs]])) 0 0 (va_A [xO aX 3 [.ref aL, .ref aC, .ref aT], xO aC 0 [.ref aL, .ref aM, .int po, .int co, .int go, .ref aWy, .int wl, .ref aTr, .ref aAk, .int gu, .int wk, .int db, .int dn, .int iv, .int qs]] sz) := by
  refine xofD (rm := ⟨0, 0, 0, 0⟩) (own := RX3) (cc := cX3_meanMiles) (maxL := 2) (ret := some .double) rfl (by decide) rfl (Nat.le_of_ble_eq_true rfl) ?_
  intro pg en s mi below meth cd d0 hd0 hc hw ls hl
  obtain ⟨hx, hb, -, hown, hts, -⟩ := id hc
  have hr := hc.2.2.2.2.2.1
  have hlk := hc.2.2.2.2.2.2.1
  have hl : lv_has ls 2 [(0, .ref aX)] := hl
  refine lv_aload_n hx hb dX3_meanMiles_0 rfl (lv_at hl 0 rfl) ?_
  refine xget (C := RX3) (T := TX3) (N := 3) hc hw inX3_meanMiles_X3 0 rfl rfl 1 (by decide) lkX3_meanMiles_f21 rfl rfl dX3_meanMiles_1 ?_
  refine xgetN (C := RX0) (T := TX0) (N := 15) hc hw inX3_meanMiles_X0 1 rfl rfl 12 (by decide) nkX3_153 rfl rfl dX3_meanMiles_4 ?_
  refine lv_aload_n hx hb dX3_meanMiles_7 rfl (lv_at hl 0 rfl) ?_
  refine xget (C := RX3) (T := TX3) (N := 3) hc hw inX3_meanMiles_X3 0 rfl rfl 1 (by decide) lkX3_meanMiles_f21 rfl rfl dX3_meanMiles_8 ?_
  refine xgetN (C := RX0) (T := TX0) (N := 15) hc hw inX3_meanMiles_X0 1 rfl rfl 13 (by decide) nkX3_156 rfl rfl dX3_meanMiles_11 ?_
  refine lv_iadd hx hb dX3_meanMiles_14 ?_
  refine lv_istore_n (lv' := [(1, .int (dn + iv)), (0, .ref aX)]) hx hb dX3_meanMiles_15 rfl hl (by decide) rfl (fun ls hl => ?_)
  refine lv_iload_n hx hb dX3_meanMiles_16 rfl (lv_at hl 0 rfl) ?_
  refine lv_if_ne (tgt := 24) hx hb dX3_meanMiles_17 (by decide) (fun c => ?_) (fun c => ?_)
  · refine lv_aload_n hx hb dX3_meanMiles_24 rfl (lv_at hl 1 rfl) ?_
    refine xget (C := RX3) (T := TX3) (N := 3) hc hw inX3_meanMiles_X3 0 rfl rfl 1 (by decide) lkX3_meanMiles_f21 rfl rfl dX3_meanMiles_25 ?_
    refine xgetN (C := RX0) (T := TX0) (N := 15) hc hw inX3_meanMiles_X0 1 rfl rfl 10 (by decide) nkX3_147 rfl rfl dX3_meanMiles_28 ?_
    refine lv_i2d hx hb dX3_meanMiles_31 ?_
    refine lv_iload_n hx hb dX3_meanMiles_32 rfl (lv_at hl 0 rfl) ?_
    refine lv_i2d hx hb dX3_meanMiles_33 ?_
    refine lv_ddiv_any hd0 lw_bits hx hb dX3_meanMiles_34 (fun r d1 hal hd1 => ?_)
    refine W.endD hd1 ?_
    exact W.dret hx hb hr (fun t ht hW => ⟨⟨r, (), rfl, Or.inr ⟨c, hal⟩, by rw [ht]; exact hw.1, hw.2.1⟩, hw.2.2.F ht⟩) hw.2.2.2.2 dX3_meanMiles_35 hlk
  · refine lv_dconst0 hx hb dX3_meanMiles_20 ?_
    refine lv_goto (tgt := 35) hx hb dX3_meanMiles_21 (by decide) ?_
    refine W.endD hd0 ?_
    exact W.dret hx hb hr (fun t ht hW => ⟨⟨_, (), rfl, Or.inl ⟨c, rfl⟩, by rw [ht]; exact hw.1, hw.2.1⟩, hw.2.2.F ht⟩) hw.2.2.2.2 dX3_meanMiles_35 hlk
set_option maxHeartbeats 40000000 in
set_option maxRecDepth 100000 in
theorem metX5_meanMiles (l : Launch) (G : xG) (sz : Nat) (aR : Nat) (rEx : Nat) (rRd : Nat) (rTo : Nat) (rMi : Nat) (rCl : Nat) (rSh : Nat) (rFa : Nat) (aS : Nat) (aH : Nat) (sTr : Nat) (sAk : Nat) (sWy : Nat) (sXe : Nat) (sSg : Nat) (th : Int32) (pl : Int32) (rs : Int32) (po : Int32) (co : Int32) (go : Int32) (ln : Int32) (wk : Int32) (db : Int32) (dn : Int32) (iv : Int32) (qs : Int32) : MetD lw_cs l yX5_meanMiles wsX5_meanMiles ⟨0, 0, 0, 0⟩ (va_Pc [.ref aR] (xPc G [xO aR 5 [.int th, .int pl, .ref rEx, .ref rRd, .ref rTo, .int rs, .ref rMi, .ref rCl, .ref rSh, .ref rFa, .ref aS, .ref aH], xO aS 4 [.int po, .int co, .int go, .ref sTr, .ref sAk, .ref sWy, .int ln, .ref sXe, .ref sSg, .int wk, .int db, .int dn, .int iv, .int qs]] sz)) (xQd G [xO aR 5 [.int th, .int pl, .ref rEx, .ref rRd, .ref rTo, .int rs, .ref rMi, .ref rCl, .ref rSh, .ref rFa, .ref aS, .ref aH], xO aS 4 [.int po, .int co, .int go, .ref sTr, .ref sAk, .ref sWy, .int ln, .ref sXe, .ref sSg, .int wk, .int db, .int dn, .int iv, .int qs]] sz (fun (r : UInt64) (_ : Unit) => zmm wk dn iv r) (fun _ => [xO aR 5 [.int 0, .int pl, .ref rEx, .ref rRd, .ref rTo, .int rs, .ref rMi, .ref rCl, .ref rSh, .ref rFa, .ref aS, .ref aH], xO aS 4 [.int po, .int co, .int go, .ref sTr, .ref sAk, .ref sWy, .int ln, .ref sXe, .ref sSg, .int wk, .int db, .int dn, .int iv, .int qs]])) 0 0 (va_A [xO aR 5 [.int th, .int pl, .ref rEx, .ref rRd, .ref rTo, .int rs, .ref rMi, .ref rCl, .ref rSh, .ref rFa, .ref aS, .ref aH], xO aS 4 [.int po, .int co, .int go, .ref sTr, .ref sAk, .ref sWy, .int ln, .ref sXe, .ref sSg, .int wk, .int db, .int dn, .int iv, .int qs]] sz) := by
  refine xofD (rm := ⟨0, 0, 0, 0⟩) (own := RX5) (cc := cX5_meanMiles) (maxL := 2) (ret := some .double) rfl (by decide) rfl (Nat.le_of_ble_eq_true rfl) ?_
  intro pg en s mi below meth cd d0 hd0 hc hw ls hl
  obtain ⟨hx, hb, -, hown, hts, -⟩ := id hc
  have hr := hc.2.2.2.2.2.1
  have hlk := hc.2.2.2.2.2.2.1
  have hl : lv_has ls 2 [(0, .ref aR)] := hl
  refine lv_aload_n hx hb dX5_meanMiles_0 rfl (lv_at hl 0 rfl) ?_
  refine lv_iconst (v := 0) hx hb dX5_meanMiles_1 (by decide) ?_
  refine xput (C := RX5) (T := TX5) (N := 12) (ty := .int) hc hw inX5_meanMiles_X5 tyX5 tyX5_ok nmX5 0 [xO aR 5 [.int 0, .int pl, .ref rEx, .ref rRd, .ref rTo, .int rs, .ref rMi, .ref rCl, .ref rSh, .ref rFa, .ref aS, .ref aH], xO aS 4 [.int po, .int co, .int go, .ref sTr, .ref sAk, .ref sWy, .int ln, .ref sXe, .ref sSg, .int wk, .int db, .int dn, .int iv, .int qs]] rfl rfl 0 (by decide) lkX5_meanMiles_f42 rfl rfl rfl rfl (Nat.le_of_ble_eq_true rfl) rfl dX5_meanMiles_2 (fun H locs hw => ?_)
  refine lv_aload_n hx hb dX5_meanMiles_5 rfl (lv_at hl 0 rfl) ?_
  refine xget (C := RX5) (T := TX5) (N := 12) hc hw inX5_meanMiles_X5 0 rfl rfl 10 (by decide) lkX5_meanMiles_f35 rfl rfl dX5_meanMiles_6 ?_
  refine xgetN (C := RX4) (T := TX4) (N := 14) hc hw inX5_meanMiles_X4 1 rfl rfl 11 (by decide) nkX5_156 rfl rfl dX5_meanMiles_9 ?_
  refine lv_aload_n hx hb dX5_meanMiles_12 rfl (lv_at hl 0 rfl) ?_
  refine xget (C := RX5) (T := TX5) (N := 12) hc hw inX5_meanMiles_X5 0 rfl rfl 10 (by decide) lkX5_meanMiles_f35 rfl rfl dX5_meanMiles_13 ?_
  refine xgetN (C := RX4) (T := TX4) (N := 14) hc hw inX5_meanMiles_X4 1 rfl rfl 12 (by decide) nkX5_146 rfl rfl dX5_meanMiles_16 ?_
  refine lv_iadd hx hb dX5_meanMiles_19 ?_
  refine lv_istore_n (lv' := [(1, .int (dn + iv)), (0, .ref aR)]) hx hb dX5_meanMiles_20 rfl hl (by decide) rfl (fun ls hl => ?_)
  refine lv_iload_n hx hb dX5_meanMiles_21 rfl (lv_at hl 0 rfl) ?_
  refine lv_if_ne (tgt := 29) hx hb dX5_meanMiles_22 (by decide) (fun c => ?_) (fun c => ?_)
  · refine lv_aload_n hx hb dX5_meanMiles_29 rfl (lv_at hl 1 rfl) ?_
    refine xget (C := RX5) (T := TX5) (N := 12) hc hw inX5_meanMiles_X5 0 rfl rfl 10 (by decide) lkX5_meanMiles_f35 rfl rfl dX5_meanMiles_30 ?_
    refine xgetN (C := RX4) (T := TX4) (N := 14) hc hw inX5_meanMiles_X4 1 rfl rfl 9 (by decide) nkX5_87 rfl rfl dX5_meanMiles_33 ?_
    refine lv_i2d hx hb dX5_meanMiles_36 ?_
    refine lv_iload_n hx hb dX5_meanMiles_37 rfl (lv_at hl 0 rfl) ?_
    refine lv_i2d hx hb dX5_meanMiles_38 ?_
    refine lv_ddiv_any hd0 lw_bits hx hb dX5_meanMiles_39 (fun r d1 hal hd1 => ?_)
    refine W.endD hd1 ?_
    exact W.dret hx hb hr (fun t ht hW => ⟨⟨r, (), rfl, Or.inr ⟨c, hal⟩, by rw [ht]; exact hw.1, hw.2.1⟩, hw.2.2.F ht⟩) hw.2.2.2.2 dX5_meanMiles_40 hlk
  · refine lv_dconst0 hx hb dX5_meanMiles_25 ?_
    refine lv_goto (tgt := 40) hx hb dX5_meanMiles_26 (by decide) ?_
    refine W.endD hd0 ?_
    exact W.dret hx hb hr (fun t ht hW => ⟨⟨_, (), rfl, Or.inl ⟨c, rfl⟩, by rw [ht]; exact hw.1, hw.2.1⟩, hw.2.2.F ht⟩) hw.2.2.2.2 dX5_meanMiles_40 hlk
