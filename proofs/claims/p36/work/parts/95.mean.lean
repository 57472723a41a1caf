set_option maxRecDepth 20000 in
theorem lkX3_meanMiles_f21 : Cond.fieldLink RX3 21 "MapCarrier" "carrier" "LMapCarrier$Carrier;" ∈ wsX3_meanMiles := List.mem_of_getElem? (i := 1) (by decide +kernel)
set_option maxRecDepth 20000 in
theorem inX3_meanMiles_X3 : ∀ w ∈ u_ws RX3 TX3 3, w ∈ wsX3_meanMiles := fun _ h => List.mem_cons_of_mem _ (List.mem_append_left _ (List.mem_append_right _ h))
set_option maxRecDepth 20000 in
theorem inX3_meanMiles_X0 : ∀ w ∈ u_ws RX0 TX0 15, w ∈ wsX3_meanMiles := fun _ h => List.mem_cons_of_mem _ (List.mem_append_right _ h)
/-! no NaN: the quotient of two whole numbers, the divisor not 0 -/
theorem fT : Jvm.FP.Core.Fmt.tails Jvm.FP.Core.b64 = 4503599627370496 := rfl
theorem fE : Jvm.FP.Core.Fmt.exps Jvm.FP.Core.b64 = 2048 := rfl
theorem fQ : Jvm.FP.Core.Fmt.qmin Jvm.FP.Core.b64 = -1074 := by decide
theorem fX : Jvm.FP.Core.Fmt.qmax Jvm.FP.Core.b64 = 971 := by decide
theorem fP : (2 : Nat) ^ Jvm.FP.Core.b64.p = 9007199254740992 := by decide
theorem fasm (s : Bool) {e t : Nat} (he : e < 2048) (ht : t < 4503599627370496) : Jvm.FP.Core.fieldT Jvm.FP.Core.b64 (Jvm.FP.Core.assemble Jvm.FP.Core.b64 s e t) = t ∧ Jvm.FP.Core.fieldE Jvm.FP.Core.b64 (Jvm.FP.Core.assemble Jvm.FP.Core.b64 s e t) = e ∧ Jvm.FP.Core.assemble Jvm.FP.Core.b64 s e t < 18446744073709551616 := by
  unfold Jvm.FP.Core.fieldT Jvm.FP.Core.fieldE Jvm.FP.Core.assemble
  rw [fT, fE]
  cases s
  · rw [show (false).toNat = 0 from rfl]
    omega
  · rw [show (true).toNat = 1 from rfl]
    omega
/-- what is encoded of a number in range, or of an infinity, is no NaN -/
theorem fenc (s : Bool) (c : Nat) (q : Int) : Jvm.FP.Core.encode Jvm.FP.Core.b64 (Jvm.FP.Core.settle Jvm.FP.Core.b64 s c q) < 18446744073709551616 ∧ Jvm.FP.Core.decode Jvm.FP.Core.b64 (Jvm.FP.Core.encode Jvm.FP.Core.b64 (Jvm.FP.Core.settle Jvm.FP.Core.b64 s c q)) ≠ .nan := by
  have hb : ∀ (c : Nat) (q : Int), c < 9007199254740992 → Jvm.FP.Core.encode Jvm.FP.Core.b64 (Jvm.FP.Core.bound Jvm.FP.Core.b64 s c q) < 18446744073709551616 ∧ Jvm.FP.Core.decode Jvm.FP.Core.b64 (Jvm.FP.Core.encode Jvm.FP.Core.b64 (Jvm.FP.Core.bound Jvm.FP.Core.b64 s c q)) ≠ .nan := by
    intro c q hc
    unfold Jvm.FP.Core.bound
    rw [fX]
    by_cases hq : q ≤ 971
    · rw [if_pos hq]
      unfold Jvm.FP.Core.encode
      dsimp only
      rw [fT, fQ]
      by_cases h1 : c < 4503599627370496
      · rw [if_pos h1]
        obtain ⟨k1, k2, k3⟩ := fasm s (e := 0) (t := c) (by decide) h1
        refine ⟨k3, ?_⟩
        unfold Jvm.FP.Core.decode
        rw [k1, k2, fE, if_neg (by decide), if_pos rfl]
        exact fun h => Jvm.FP.Core.Datum.noConfusion h
      · rw [if_neg h1]
        obtain ⟨k1, k2, k3⟩ := fasm s (e := (q - -1074).toNat + 1) (t := c - 4503599627370496) (by omega) (by omega)
        refine ⟨k3, ?_⟩
        unfold Jvm.FP.Core.decode
        rw [k1, k2, fE, if_neg (by omega), if_neg (by omega)]
        exact fun h => Jvm.FP.Core.Datum.noConfusion h
    · rw [if_neg hq]
      unfold Jvm.FP.Core.encode
      dsimp only
      rw [fE]
      obtain ⟨k1, k2, k3⟩ := fasm s (e := 2048 - 1) (t := 0) (by decide) (by decide)
      refine ⟨k3, ?_⟩
      unfold Jvm.FP.Core.decode
      rw [k1, k2, fE, if_pos rfl, if_pos rfl]
      exact fun h => Jvm.FP.Core.Datum.noConfusion h
  unfold Jvm.FP.Core.settle
  rw [fP]
  by_cases hc : c < 9007199254740992
  · rw [if_pos hc]; exact hb c q hc
  · rw [if_neg hc, fT]; exact hb _ _ (by decide)
def fok (D : Jvm.FP.Core.Datum) : Prop := ∃ s c q, D = Jvm.FP.Core.settle Jvm.FP.Core.b64 s c q
theorem fok_zero (s : Bool) : fok (.fin s 0 (Jvm.FP.Core.Fmt.qmin Jvm.FP.Core.b64)) := ⟨s, 0, Jvm.FP.Core.Fmt.qmin Jvm.FP.Core.b64, by
  unfold Jvm.FP.Core.settle Jvm.FP.Core.bound
  rw [fP, fX, fQ, if_pos (by decide), if_pos (by decide)]⟩
theorem fok_inf (s : Bool) : fok (.inf s) := ⟨s, 0, 972, by
  unfold Jvm.FP.Core.settle Jvm.FP.Core.bound
  rw [fP, fX, if_pos (by decide), if_neg (by decide)]⟩
theorem fok_ratio (s : Bool) (n d : Nat) (e : Int) : fok (Jvm.FP.Core.roundRatio Jvm.FP.Core.b64 s n d e) := by
  unfold Jvm.FP.Core.roundRatio
  by_cases h : n = 0
  · rw [if_pos h]; exact fok_zero s
  · rw [if_neg h]; exact ⟨_, _, _, rfl⟩
/-- a whole number that is not 0 is held as a number that is not 0 -/
theorem fint (s : Bool) {n : Nat} (h1 : 1 ≤ n) (h2 : n < 4294967296) : ∃ t d q, Jvm.FP.Core.decode Jvm.FP.Core.b64 (Jvm.FP.Core.encode Jvm.FP.Core.b64 (Jvm.FP.Core.roundRatio Jvm.FP.Core.b64 s n 1 0)) = .fin t d q ∧ d ≠ 0 := by
  have g1 : 2 ^ n.log2 ≤ n := Nat.log2_self_le (by omega)
  have g2 : n < 2 ^ (n.log2 + 1) := Nat.lt_log2_self
  have g3 : n.log2 < 32 := (Nat.log2_lt (by omega)).mpr h2
  have hl : Jvm.FP.Core.leading n 1 = (n.log2 : Int) := by
    unfold Jvm.FP.Core.leading
    rw [show (1 : Nat).log2 = 0 from by decide]
    dsimp only
    rw [if_pos]
    · omega
    · rw [show ((n.log2 : Int) - ((0 : Nat) : Int)).toNat = n.log2 by omega, show (-((n.log2 : Int) - ((0 : Nat) : Int))).toNat = 0 by omega]
      omega
  generalize hg : n.log2 = g at g1 g2 g3 hl
  have hq : Jvm.FP.Core.quantum Jvm.FP.Core.b64 n 1 0 = (g : Int) - 52 := by
    unfold Jvm.FP.Core.quantum
    rw [hl, fQ, show ((Jvm.FP.Core.b64.p : Int) - 1) = 52 from by decide]
    omega
  have hu : Jvm.FP.Core.unitsNum n 0 ((g : Int) - 52) = n * 2 ^ (52 - g) := by
    unfold Jvm.FP.Core.unitsNum
    rw [show (0 - ((g : Int) - 52)).toNat = 52 - g by omega]
  have hd : Jvm.FP.Core.unitsDen 1 0 ((g : Int) - 52) = 1 := by
    unfold Jvm.FP.Core.unitsDen
    rw [show ((g : Int) - 52 - 0).toNat = 0 by omega]
  have hn : ∀ M : Nat, Jvm.FP.Core.nearest M 1 = M := fun M => by
    unfold Jvm.FP.Core.nearest
    rw [Nat.mod_one, if_pos (by decide), Nat.div_one]
  have e1 : 2 ^ g * 2 ^ (52 - g) = 4503599627370496 := by
    rw [← Nat.pow_add, show g + (52 - g) = 52 by omega]
  have e2 : 2 ^ (g + 1) * 2 ^ (52 - g) = 9007199254740992 := by
    rw [← Nat.pow_add, show g + 1 + (52 - g) = 53 by omega]
  have m1 : 4503599627370496 ≤ n * 2 ^ (52 - g) := by rw [← e1]; exact Nat.mul_le_mul_right _ g1
  have m2 : n * 2 ^ (52 - g) < 9007199254740992 := by rw [← e2]; exact Nat.mul_lt_mul_of_pos_right g2 (Nat.two_pow_pos _)
  unfold Jvm.FP.Core.roundRatio
  rw [if_neg (by omega)]
  unfold Jvm.FP.Core.roundAt
  rw [hq, hu, hd, hn]
  generalize n * 2 ^ (52 - g) = M at m1 m2
  unfold Jvm.FP.Core.settle Jvm.FP.Core.bound
  rw [fP, fX, if_pos m2, if_pos (by omega)]
  unfold Jvm.FP.Core.encode
  dsimp only
  rw [fT, fQ, if_neg (by omega)]
  obtain ⟨k1, k2, k3⟩ := fasm s (e := ((g : Int) - 52 - -1074).toNat + 1) (t := M - 4503599627370496) (by omega) (by omega)
  unfold Jvm.FP.Core.decode
  rw [k1, k2, fE, if_neg (by omega), if_neg (by omega), fT]
  exact ⟨_, _, _, rfl, by omega⟩
theorem fi2d (x : Int32) : ∃ s n, n = x.toInt.natAbs ∧ (FP.i2d x).toNat = Jvm.FP.Core.encode Jvm.FP.Core.b64 (Jvm.FP.Core.roundRatio Jvm.FP.Core.b64 s n 1 0) := by
  refine ⟨decide (x.toInt < 0), x.toInt.natAbs, rfl, ?_⟩
  obtain ⟨s, c, q, h⟩ := fok_ratio (decide (x.toInt < 0)) x.toInt.natAbs 1 0
  have h9 := (fenc s c q).1
  rw [← h] at h9
  show (UInt64.ofNat (Jvm.FP.Core.encode Jvm.FP.Core.b64 (Jvm.FP.Core.roundRatio Jvm.FP.Core.b64 (decide (x.toInt < 0)) x.toInt.natAbs 1 0))).toNat = _
  rw [UInt64.toNat_ofNat']
  exact Nat.mod_eq_of_lt h9
/-- the quotient -/
theorem fquot2 (x y : Int32) (hy : ¬ y = 0) : Jvm.FP.Core.decode Jvm.FP.Core.b64 (FP.ddiv (FP.i2d x) (FP.i2d y)).toNat ≠ .nan := by
  obtain ⟨s, n, hn, e1⟩ := fi2d x
  obtain ⟨t, m, hm, e2⟩ := fi2d y
  have hy0 : y.toInt ≠ 0 := fun h => hy (by rw [xeqI, h]; rfl)
  have l1 := Int32.toInt_lt y
  have l2 := Int32.le_toInt y
  obtain ⟨t2, d, q2, hd, hd0⟩ := fint t (n := m) (by omega) (by omega)
  obtain ⟨s3, c3, q3, h3⟩ := fok_ratio s n 1 0
  have hx : Jvm.FP.Core.decode Jvm.FP.Core.b64 (FP.i2d x).toNat ≠ .nan := by
    rw [e1, h3]
    exact (fenc s3 c3 q3).2
  have hD : fok (Jvm.FP.Core.quotient Jvm.FP.Core.b64 (Jvm.FP.Core.decode Jvm.FP.Core.b64 (FP.i2d x).toNat) (Jvm.FP.Core.decode Jvm.FP.Core.b64 (FP.i2d y).toNat)) := by
    rw [e2, hd]
    generalize Jvm.FP.Core.decode Jvm.FP.Core.b64 (FP.i2d x).toNat = D at hx
    cases D with
    | nan => exact absurd rfl hx
    | inf s => exact fok_inf _
    | fin s c q =>
      show fok (if d = 0 then _ else _)
      rw [if_neg hd0]
      exact fok_ratio _ _ _ _
  obtain ⟨s4, c4, q4, h4⟩ := hD
  have h5 := fenc s4 c4 q4
  rw [← h4] at h5
  have e5 : (FP.ddiv (FP.i2d x) (FP.i2d y)).toNat = Jvm.FP.Core.encode Jvm.FP.Core.b64 (Jvm.FP.Core.quotient Jvm.FP.Core.b64 (Jvm.FP.Core.decode Jvm.FP.Core.b64 (FP.i2d x).toNat) (Jvm.FP.Core.decode Jvm.FP.Core.b64 (FP.i2d y).toNat)) := by
    show (UInt64.ofNat (Jvm.FP.Core.encode Jvm.FP.Core.b64 (Jvm.FP.Core.quotient Jvm.FP.Core.b64 (Jvm.FP.Core.decode Jvm.FP.Core.b64 (FP.i2d x).toNat) (Jvm.FP.Core.decode Jvm.FP.Core.b64 (FP.i2d y).toNat)))).toNat = _
    rw [UInt64.toNat_ofNat']
    exact Nat.mod_eq_of_lt h5.1
  rw [← e5] at h5
  exact h5.2
theorem fquot (x y : Int32) (hy : ¬ y = 0) : isNaN64 (FP.ddiv (FP.i2d x) (FP.i2d y)) = false := by
  have h5 := fquot2 x y hy
  cases hb : isNaN64 (FP.ddiv (FP.i2d x) (FP.i2d y)) with
  | false => rfl
  | true =>
    exfalso
    refine h5 ?_
    have h := hb
    rw [isNaN64_iff] at h
    generalize FP.ddiv (FP.i2d x) (FP.i2d y) = b at h
    have h2 : b.toNat &&& 9223372036854775807 = b.toNat % 9223372036854775808 := Nat.and_two_pow_sub_one_eq_mod b.toNat 63
    rw [h2] at h
    unfold Jvm.FP.Core.decode Jvm.FP.Core.fieldE Jvm.FP.Core.fieldT
    rw [fT, fE, if_pos (by omega), if_neg (by omega)]
theorem zdself (a : UInt64) : FP.dcmp a a = none ∨ FP.dcmp a a = some .eq := by
  have h : ∀ x : Jvm.FP.Core.Datum, Jvm.FP.Core.order x x = none ∨ Jvm.FP.Core.order x x = some .eq := by
    intro x
    cases x with
    | nan => exact Or.inl rfl
    | inf s => exact Or.inr (congrArg some (by simp [compare, compareOfLessAndEq]))
    | fin s c q => exact Or.inr (congrArg some (by simp [compare, compareOfLessAndEq]))
  exact h (Jvm.FP.Core.decode Jvm.FP.Core.b64 a.toNat)
def zmm (wk dn iv : Int32) (r : UInt64) : Prop := (dn + iv = 0 ∧ r = FP.dconst0) ∨ (¬ dn + iv = 0 ∧ alike64 r (FP.ddiv (FP.i2d wk) (FP.i2d (dn + iv))) = true)
theorem xCd {p : Program} {s : State} {m : MethodId} {args : Array Value} {meth : Method} {c : Code} {cc : ByteArray} {nL : Nat} {own : String} {wds : List Cond} {ret : Option FieldType} {G : xG} {A : Nat → Prop} (hc : xC p s m args meth c cc nL own wds ret G A) (d : Drawn) : xC p (s.setDrawn d) m args meth c cc nL own wds ret G A := by
  obtain ⟨hx, hb, hml, hown, hts, hr, hlk, hE, hZ, hA⟩ := hc
  exact ⟨hx, hb, hml, hown, dr_words hts d, hr, hlk, xE.same (u := s) (U := s.setDrawn d) rfl hE, ⟨vx_Zq.moved (Vm.Alike.refl s.vm) hZ.1, vx_Zq.moved (Vm.Alike.refl s.vm) hZ.2⟩, hA⟩
theorem xofD {l : Launch} {y : MethodName} {wds wds' : List Cond} {rm : Room} {G : xG} {av : List Value} {ws : va_W} {sz : Nat} {Qc : Array Value → State → Outcome → State → Prop} {own : String} {cc : ByteArray} {maxL : Nat} {ret : Option FieldType}
    (ho : y.cls = own) (hy : plainName y.cls = true) (hwd : wds = Cond.code y cc maxL ret :: wds') (hlen : (lg_sl av).length ≤ maxL)
    (body : ∀ (p : Program) (e : Env) (s : State) (m : MethodId) (below : List Frame) (meth : Method) (c : Code) (d0 : Drawn), s.drawn.sameBut d0 lw_cs → xC p (s.setDrawn d0) m av.toArray meth c cc maxL own wds ret G (va_A ws sz) → xW G (va_A ws sz) s.heap ws s.heap [] →
      ∀ ls, lv_has ls maxL (lv_args 0 av) → W p l e rm (s.setDrawn d0) m av.toArray below meth c s.heap [] 0 0 (MQD lw_cs below Qc av.toArray s rm.cells rm.slots (va_A ws sz)) (F0 m 0 ls [])) :
    MetD lw_cs l y wds rm (va_Pc av (xPc G ws sz)) Qc rm.cells rm.slots (va_A ws sz) := by
  subst ho
  refine MetD.ofW (cc := cc) (maxL := maxL) (ret := ret) hy hwd ?_
  intro p e s m args below meth c s₁ B hml hv hd0
  obtain ⟨rfl, hsz, hP, hD0, hE, hZ⟩ := hv
  have hl := lv_entry av (n := maxL) hlen
  rw [lg_entry_eq]
  generalize (lg_sl av ++ List.replicate (maxL - (lg_sl av).length) Slot.unset).toArray = ls at hl ⊢
  have hc : xC p s m av.toArray meth c cc maxL y.cls wds ret G (va_A ws sz) := ⟨B.exec, B.bytes, hml, findClass_of_methodNamed B.named, atoms_spec (ws := wds) B.pre, B.returns, B.notSynchronized, hE, hZ, fun q h => Or.inr (hsz ▸ h)⟩
  exact body p e s m below meth c s.drawn hd0 (xCd hc s.drawn) ⟨hP, hD0.self, va_S.rf⟩ ls hl
set_option maxHeartbeats 40000000 in
set_option maxRecDepth 100000 in
theorem metX3_meanMiles (l : Launch) (G : xG) (sz : Nat) (aX : Nat) (aL : Nat) (aC : Nat) (aT : Nat) (aM : Nat) (aWy : Nat) (aTr : Nat) (aAk : Nat) (po : Int32) (co : Int32) (go : Int32) (wl : Int32) (gu : Int32) (wk : Int32) (db : Int32) (dn : Int32) (iv : Int32) (qs : Int32) : MetD lw_cs l yX3_meanMiles wsX3_meanMiles ⟨0, 0, 0, 0⟩ (va_Pc [.ref aX] (xPc G [xO aX 3 [.ref aL, .ref aC, .ref aT], xO aC 0 [.ref aL, .ref aM, .int po, .int co, .int go, .ref aWy, .int wl, .ref aTr, .ref aAk, .int gu, .int wk, .int db, .int dn, .int iv, .int qs]] sz)) (xQd G [xO aX 3 [.ref aL, .ref aC, .ref aT], xO aC 0 [.ref aL, .ref aM, .int po, .int co, .int go, .ref aWy, .int wl, .ref aTr, .ref aAk, .int gu, .int wk, .int db, .int dn, .int iv, .int qs]] sz (fun (r : UInt64) (_ : Unit) => zmm wk dn iv r) (fun _ => [xO aX 3 [.ref aL, .ref aC, .ref aT], xO aC 0 [.ref aL, .ref aM, .int po, .int co, .int go, .ref aWy, .int wl, .ref aTr, .ref aAk, .int gu, .int wk, .int db, .int dn, .int iv, .int qs]])) 0 0 (va_A [xO aX 3 [.ref aL, .ref aC, .ref aT], xO aC 0 [.ref aL, .ref aM, .int po, .int co, .int go, .ref aWy, .int wl, .ref aTr, .ref aAk, .int gu, .int wk, .int db, .int dn, .int iv, .int qs]] sz) := by
  refine xofD (rm := ⟨0, 0, 0, 0⟩) (own := RX3) (cc := cX3_meanMiles) (maxL := 2) (ret := some .double) rfl (by decide) rfl (Nat.le_of_ble_eq_true rfl) ?_
  intro pg en s mi below meth cd d0 hd0 hc hw ls hl
  obtain ⟨hx, hb, -, hown, hts, -⟩ := id hc
  have hr := hc.2.2.2.2.2.1
  have hlk := hc.2.2.2.2.2.2.1
  have hl : lv_has ls 2 [(0, .ref aX)] := hl
  refine lv_aload_n hx hb dX3_meanMiles_0 rfl (lv_at hl 0 rfl) ?_
  refine xget (C := RX3) (T := TX3) (N := 3) hc hw inX3_meanMiles_X3 0 rfl rfl 1 (by decide) lkX3_meanMiles_f21 rfl rfl dX3_meanMiles_1 ?_
  refine xgetN (C := RX0) (T := TX0) (N := 15) hc hw inX3_meanMiles_X0 1 rfl rfl 12 (by decide) nkX3_153 rfl rfl dX3_meanMiles_4 ?_
  refine lv_aload_n hx hb dX3_meanMiles_7 rfl (lv_at hl 0 rfl) ?_
  refine xget (C := RX3) (T := TX3) (N := 3) hc hw inX3_meanMiles_X3 0 rfl rfl 1 (by decide) lkX3_meanMiles_f21 rfl rfl dX3_meanMiles_8 ?_
  refine xgetN (C := RX0) (T := TX0) (N := 15) hc hw inX3_meanMiles_X0 1 rfl rfl 13 (by decide) nkX3_156 rfl rfl dX3_meanMiles_11 ?_
  refine lv_iadd hx hb dX3_meanMiles_14 ?_
  refine lv_istore_n (lv' := [(1, .int (dn + iv)), (0, .ref aX)]) hx hb dX3_meanMiles_15 rfl hl (by decide) rfl (fun ls hl => ?_)
  refine lv_iload_n hx hb dX3_meanMiles_16 rfl (lv_at hl 0 rfl) ?_
  refine lv_if_ne (tgt := 24) hx hb dX3_meanMiles_17 (by decide) (fun c => ?_) (fun c => ?_)
  · refine lv_aload_n hx hb dX3_meanMiles_24 rfl (lv_at hl 1 rfl) ?_
    refine xget (C := RX3) (T := TX3) (N := 3) hc hw inX3_meanMiles_X3 0 rfl rfl 1 (by decide) lkX3_meanMiles_f21 rfl rfl dX3_meanMiles_25 ?_
    refine xgetN (C := RX0) (T := TX0) (N := 15) hc hw inX3_meanMiles_X0 1 rfl rfl 10 (by decide) nkX3_147 rfl rfl dX3_meanMiles_28 ?_
    refine lv_i2d hx hb dX3_meanMiles_31 ?_
    refine lv_iload_n hx hb dX3_meanMiles_32 rfl (lv_at hl 0 rfl) ?_
    refine lv_i2d hx hb dX3_meanMiles_33 ?_
    refine lv_ddiv_any hd0 lw_bits hx hb dX3_meanMiles_34 (fun r d1 hal hd1 => ?_)
    refine W.endD hd1 ?_
    exact W.dret hx hb hr (fun t ht hW => ⟨⟨r, (), rfl, Or.inr ⟨c, hal⟩, by rw [ht]; exact hw.1, hw.2.1⟩, hw.2.2.F ht⟩) hw.2.2.2.2 dX3_meanMiles_35 hlk
  · refine lv_dconst0 hx hb dX3_meanMiles_20 ?_
    refine lv_goto (tgt := 35) hx hb dX3_meanMiles_21 (by decide) ?_
    refine W.endD hd0 ?_
    exact W.dret hx hb hr (fun t ht hW => ⟨⟨_, (), rfl, Or.inl ⟨c, rfl⟩, by rw [ht]; exact hw.1, hw.2.1⟩, hw.2.2.F ht⟩) hw.2.2.2.2 dX3_meanMiles_35 hlk
theorem zdeq {b : UInt64} (h : Jvm.FP.Core.decode Jvm.FP.Core.b64 b.toNat ≠ .nan) : Op.cmpValue (FP.dcmp b b) CmpOp.l = 0 := by
  have h2 : ∀ x : Jvm.FP.Core.Datum, x ≠ .nan → Jvm.FP.Core.order x x = some .eq := by
    intro x hx
    cases x with
    | nan => exact absurd rfl hx
    | inf s => exact congrArg some (by simp [compare, compareOfLessAndEq])
    | fin s c q => exact congrArg some (by simp [compare, compareOfLessAndEq])
  show Op.cmpValue (Jvm.FP.Core.order (Jvm.FP.Core.decode Jvm.FP.Core.b64 b.toNat) (Jvm.FP.Core.decode Jvm.FP.Core.b64 b.toNat)) CmpOp.l = 0
  rw [h2 _ h]
  rfl
/-- both means are the same number -/
theorem zmm_eq {wk k : Int32} (hk : ¬ k = 0) {p q : UInt64} (hp : alike64 p (FP.ddiv (FP.i2d wk) (FP.i2d k)) = true) (hq : alike64 q (FP.ddiv (FP.i2d wk) (FP.i2d k)) = true) : Op.cmpValue (FP.dcmp p q) CmpOp.l = 0 := by
  have hn := fquot wk k hk
  have key : ∀ x, alike64 x (FP.ddiv (FP.i2d wk) (FP.i2d k)) = true → x = FP.ddiv (FP.i2d wk) (FP.i2d k) := by
    intro x hx
    unfold alike64 at hx
    rw [hn, Bool.and_false, Bool.or_false] at hx
    exact of_decide_eq_true hx
  rw [key p hp, key q hq]
  exact zdeq (fquot2 wk k hk)
set_option maxHeartbeats 4000000 in
set_option maxRecDepth 100000 in
theorem k_meanMiles {l : Launch} {G : xG} (sz : Nat) (a : Nat → Nat) (z : Nat → Int32) (r : Nat → Nat → Int32) (u : cU) : MetD lw_cs l yX3_meanMiles wsX3_meanMiles ⟨0, 0, 0, 0⟩ (va_Pc [.ref (a 0)] (xPc G (cW G a z r u) sz)) (xQd G (cW G a z r u) sz (fun (x : UInt64) (_ : Unit) => zmm (z 6) (z 8) (z 9) x) (fun _ => cW G a z r u)) 0 0 (va_A (cW G a z r u) sz) := by
  have isC : [0, 9].map (fun i => (cW G a z r u)[i]?) = ([xO (a 0) 3 [.ref (a 1), .ref (a 2), .ref (a 3)], xO (a 2) 0 [.ref (a 1), .ref (a 4), .int (z 1), .int (z 2), .int (z 3), .ref (a 13), .int (z 4), .ref (a 14), .ref (a 15), .int (z 5), .int (z 6), .int (z 7), .int (z 8), .int (z 9), .int (z 10)]] : va_W).map some := rfl
  refine MetFree.mono (metX3_meanMiles l G sz (a 0) (a 1) (a 2) (a 3) (a 4) (a 13) (a 14) (a 15) (z 1) (z 2) (z 3) (z 4) (z 5) (z 6) (z 7) (z 8) (z 9) (z 10)) (fun a s hp => ⟨hp.1, xPc_sub [0, 9] rfl isC hp.2⟩) (fun _ _ _ _ _ h => h) (fun av st oc t hp hq => ?_)
  obtain ⟨d, hd, ⟨⟨x, u', e1, hpo, hB⟩, hF⟩, L, hL, hfr⟩ := hq
  exact ⟨d, hd, ⟨⟨x, (), e1, hpo, xB_join (st := st) [0, 9] [1, 2, 3, 4, 5, 6, 7, 8, 10, 11, 12, 13, 14, 15, 16, 17, 18, 19, 20, 21, 22] [21, 0, 1, 2, 3, 4, 5, 6, 7, 22, 8, 9, 10, 11, 12, 13, 14, 15, 16, 17, 18, 19, 20] isC rfl rfl rfl rfl hp.2 rfl hF hB⟩, xF_in [0, 9] isC hF⟩, L, hL, fun q hq => xA_in [0, 9] isC _ (hfr q hq)⟩
section MD
variable {p : Program} {l : Launch} {e : Env} {R : Room} {s : State} {m : MethodId} {args : Array Value} {below : List Frame} {meth : Method} {c : Code} {H : Heap} {locs : List Loc} {cells slots : Nat} {Q : State → Prop}
variable {cc : ByteArray} {nL : Nat} {own : String} {wds : List Cond} {ret : Option FieldType} {G : xG} {A : Nat → Prop} {C ws : va_W} {L : List Nat} {f : Nat → va_E} {pc : Nat} {ls : Array Slot} {st0 rest : List Value}
variable {y : MethodName} {bytes : ByteArray} {maxL n index : Nat} {ret' : Option FieldType} {wds' wds'' : List Cond} {rm : Room} {b : Nat} {As : List Value}
theorem crunVD {Qc : Array Value → State → Outcome → State → Prop} {ci : Nat} {fs : List Value} {q : vw_C} (hc : xC p s m args meth c cc nL own wds ret G A) (hw : xW G A s.heap (C ++ va_pl L f) H locs) (hM : MetD lw_cs l y wds' rm (va_Pc (.ref b :: As) (xPc G C H.size)) Qc rm.cells rm.slots (va_A C H.size))
    (hT : GoodIn wds (wsV own index q.1 y wds')) (hwd : wds' = Cond.code y bytes maxL ret' :: wds'')
    (hd : y.cls = q.1 ∧ y.cls ≠ "java/lang/invoke/MethodHandle" ∧ y.cls ≠ "java/lang/invoke/VarHandle" ∧ (parseMethodDescriptor y.desc).map (fun d => d.parameters.length) = some n) (hR : rm.frames + 1 ≤ R.frames ∧ 8 + (maxL + 11) + rm.locals ≤ R.locals)
    (k0 : Nat) (hcl : vwCl[ci]? = some q) (he : C[k0]? = some (b, .inr (ci, fs))) (hn : As.length = n) (hst0 : st0 = As.reverse ++ .ref b :: rest) (hl : ls.size = nL) (hst : (rest.map fun v => v.category).sum ≤ 8) (hdg : decode cc pc = .ok (.invokevirtual index, 3)) (hf : cells + rm.cells ≤ R.cells ∧ slots + rm.slots ≤ R.slots) :
    va_RunD lw_cs p l e R s m args below meth c H locs cells slots rm.cells rm.slots (F0 m pc ls st0) rest (Qc (Value.ref b :: As).toArray) (va_A C H.size) := by
  subst hst0
  exact va_runV_D ⟨hc.1, hc.2.1, hc.2.2.1, hc.2.2.2.1, hc.2.2.2.2.1⟩ hM (cwV n hc.2.2.2.2.1 hT hwd rfl rfl hd hR) ⟨xPc_blind, va_recv hc.2.2.2.2.2.2.2.1.1 hw.1 hcl (wfst he), fun U hU hW => ⟨rfl, cPcOf hc hw U hU hW⟩⟩ rfl hn hl rfl (lv_room hst) hdg hf
theorem ccall_dD {T : Type} {wn : T → va_W} {mc ms : Nat} {av : Array Value} {post : UInt64 → T → Prop} {d0 : Drawn} (hd0 : s.drawn.sameBut d0 lw_cs) (hc : xC p s m args meth c cc nL own wds ret G A) (hw : xW G A s.heap (C ++ va_pl L f) H locs)
    (hr : va_RunD lw_cs p l e R (s.setDrawn d0) m args below meth c H locs cells slots mc ms (F0 m pc ls st0) rest (xQd G C H.size post wn av) (va_A C H.size))
    (kk : ∀ (r : UInt64) (u : T) (H1 : Heap) (locs1 : List Loc) (d1 : Drawn), s.drawn.sameBut d1 lw_cs → post r u → xW G A s.heap (wn u ++ va_pl L f) H1 locs1 → W p l e R (s.setDrawn d1) m args below meth c H1 locs1 (cells + mc) (slots + ms) Q (F0 m (pc + 3) ls (.double r :: rest))) : W p l e R (s.setDrawn d0) m args below meth c H locs cells slots Q (F0 m pc ls st0) := by
  have hF := csz hc hw
  refine va_calldD hd0 hr hw.2.2 (fun q _ h => hF q h) hF (fun r u t H1 locs1 ht hvm hp hB hz hk hS d1 hd1 => ?_)
  obtain ⟨hP1, hD1⟩ := hB
  rw [ht] at hP1
  obtain ⟨g1, g2⟩ := pjoinL hw.1 hw.2.1 hk hF hP1 hD1
  exact kk r u H1 locs1 d1 hd1 hp ⟨g1, g2, hS⟩
/-- a call of a method that may draw, with the whole world, the receiver in it; it answers an int -/
theorem wrunVD {Qc : Array Value → State → Outcome → State → Prop} {ci : Nat} {fs : List Value} {q : vw_C} (hc : xC p s m args meth c cc nL own wds ret G A) (hw : xW G A s.heap ws H locs) (hM : MetD lw_cs l y wds' rm (va_Pc (.ref b :: As) (xPc G ws H.size)) Qc rm.cells rm.slots (va_A ws H.size))
    (hT : GoodIn wds (wsV own index q.1 y wds')) (hwd : wds' = Cond.code y bytes maxL ret' :: wds'')
    (hd : y.cls = q.1 ∧ y.cls ≠ "java/lang/invoke/MethodHandle" ∧ y.cls ≠ "java/lang/invoke/VarHandle" ∧ (parseMethodDescriptor y.desc).map (fun d => d.parameters.length) = some n) (hR : rm.frames + 1 ≤ R.frames ∧ 8 + (maxL + 11) + rm.locals ≤ R.locals)
    (k0 : Nat) (hcl : vwCl[ci]? = some q) (he : ws[k0]? = some (b, .inr (ci, fs))) (hn : As.length = n) (hst0 : st0 = As.reverse ++ .ref b :: rest) (hl : ls.size = nL) (hst : (rest.map fun v => v.category).sum ≤ 8) (hdg : decode cc pc = .ok (.invokevirtual index, 3)) (hf : cells + rm.cells ≤ R.cells ∧ slots + rm.slots ≤ R.slots) :
    va_RunD lw_cs p l e R s m args below meth c H locs cells slots rm.cells rm.slots (F0 m pc ls st0) rest (Qc (Value.ref b :: As).toArray) (va_A ws H.size) := by
  subst hst0
  exact va_runV_D ⟨hc.1, hc.2.1, hc.2.2.1, hc.2.2.2.1, hc.2.2.2.2.1⟩ hM (cwV n hc.2.2.2.2.1 hT hwd rfl rfl hd hR) ⟨xPc_blind, va_recv hc.2.2.2.2.2.2.2.1.1 hw.1 hcl he, fun U hU hW => ⟨rfl, wPcOf hc hw U hU hW⟩⟩ rfl hn hl rfl (lv_room hst) hdg hf
theorem wcall_iD {T : Type} {wn : T → va_W} {mc ms : Nat} {av : Array Value} {post : Int32 → T → Prop} {d0 : Drawn} (hd0 : s.drawn.sameBut d0 lw_cs) (hc : xC p s m args meth c cc nL own wds ret G A) (hw : xW G A s.heap ws H locs)
    (hr : va_RunD lw_cs p l e R (s.setDrawn d0) m args below meth c H locs cells slots mc ms (F0 m pc ls st0) rest (xQi G ws H.size post wn av) (va_A ws H.size))
    (kk : ∀ (r : Int32) (u : T) (H1 : Heap) (locs1 : List Loc) (d1 : Drawn), s.drawn.sameBut d1 lw_cs → post r u → xW G A s.heap (wn u) H1 locs1 → W p l e R (s.setDrawn d1) m args below meth c H1 locs1 (cells + mc) (slots + ms) Q (F0 m (pc + 3) ls (.int r :: rest))) : W p l e R (s.setDrawn d0) m args below meth c H locs cells slots Q (F0 m pc ls st0) := by
  have hF := wsz hc hw
  refine va_calliD hd0 hr hw.2.2 (fun q _ h => hF q h) hF (fun r u t H1 locs1 ht hvm hp hB hz hk hS d1 hd1 => ?_)
  obtain ⟨hP1, hD1⟩ := hB
  rw [ht] at hP1
  exact kk r u H1 locs1 d1 hd1 hp ⟨hP1, va_D.weaken hD1 (fun k q _ h => hF q.1 h), hS⟩
end MD
theorem xWd {G : xG} {A : Nat → Prop} {s : State} {ws : va_W} {H : Heap} {locs : List Loc} {d : Drawn} (h : xW G A s.heap ws H locs) : xW G A (s.setDrawn d).heap ws H locs := h
