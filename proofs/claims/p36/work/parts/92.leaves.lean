theorem lkL_below_c7 : Cond.constant RL 7 (2147483647) ∈ wsL_below := List.mem_of_getElem? (i := 1) (by decide +kernel)
theorem lkL_cell_c8 : Cond.constant RL 8 (790386105) ∈ wsL_cell := List.mem_of_getElem? (i := 1) (by decide +kernel)
/-! the law's leaves: below, cell, known -/
abbrev lS : Type := cV × pS
def lWN (G : xG) (a : Nat → Nat) (w : lS) : va_W := cN G a w.1 ++ va_pl w.2.1 w.2.2
theorem lrem (x y : Int32) (hy : 0 < y.toInt) : 0 ≤ ((x &&& 2147483647) - (x &&& 2147483647) / y * y).toInt ∧ ((x &&& 2147483647) - (x &&& 2147483647) / y * y).toInt < y.toInt := by
  have ha : 0 ≤ (x &&& 2147483647).toInt := by
    have h1 : (x &&& 2147483647).toBitVec = x.toBitVec &&& 2147483647#32 := rfl
    have h2 : (x &&& 2147483647).toBitVec.toNat ≤ 2147483647 := by
      rw [h1, BitVec.toNat_and]
      exact Nat.and_le_right
    show 0 ≤ (x &&& 2147483647).toBitVec.toInt
    rw [BitVec.toInt_eq_toNat_of_lt (by omega)]
    omega
  generalize (x &&& 2147483647) = b at ha ⊢
  have hb := Int32.toInt_lt b
  have hyl := Int32.toInt_lt y
  have hd : (b / y).toInt = b.toInt / y.toInt := by
    rw [Int32.toInt_div, Int.tdiv_eq_ediv_of_nonneg ha]
    have h1 := Int.ediv_nonneg ha (Int.le_of_lt hy)
    have h2 := Int.ediv_le_self y.toInt ha
    exact Int.bmod_eq_of_le (by omega) (by omega)
  have hm : (b / y * y).toInt = b.toInt / y.toInt * y.toInt := by
    rw [Int32.toInt_mul, hd]
    have h1 := Int.ediv_nonneg ha (Int.le_of_lt hy)
    have h2 := Int.ediv_mul_le b.toInt (Int.ne_of_gt hy)
    have h3 := Int.mul_nonneg h1 (Int.le_of_lt hy)
    exact Int.bmod_eq_of_le (by omega) (by omega)
  have he : b.toInt - b.toInt / y.toInt * y.toInt = b.toInt % y.toInt := by
    have := Int.emod_add_mul_ediv b.toInt y.toInt
    rw [Int.mul_comm] at this
    omega
  have h4 := Int.emod_nonneg b.toInt (Int.ne_of_gt hy)
  have h5 := Int.emod_lt_of_pos b.toInt hy
  have hs : (b - b / y * y).toInt = b.toInt % y.toInt := by
    rw [Int32.toInt_sub, hm, he]
    exact Int.bmod_eq_of_le (by omega) (by omega)
  rw [hs]
  exact ⟨h4, h5⟩
set_option maxHeartbeats 40000000 in
set_option maxRecDepth 100000 in
theorem metL_below (l : Launch) (G : xG) (sz : Nat) (x : Int32) (k : Nat) (hk : 1 ≤ k ∧ k ≤ 1000) : xM l yL_below wsL_below ⟨0, 0, 0, 0⟩ G [.int x, .int (nI k)] [] sz (xQi G [] sz (fun (r : Int32) (_ : Unit) => ∃ j, j < k ∧ r = nI j) (fun _ => [])) := by
  refine xof (own := RL) (cc := cL_below) (maxL := 2) (ret := (some .int)) rfl (by decide) rfl (Nat.le_of_ble_eq_true rfl) ?_
  intro pg en s mi below meth cd hc hnm hw ls hl
  obtain ⟨hx, hb, -, hown, hts, -⟩ := id hc
  have hl : lv_has ls 2 [(0, .int x), (1, .int (nI k))] := hl
  have hk0 : ¬ (nI k : Int32) = 0 := fun h => by
    have h2 := congrArg Int32.toInt h
    rw [nI_toInt (by omega), show (0 : Int32).toInt = 0 from rfl] at h2
    omega
  have hr := lrem x (nI k) (by rw [nI_toInt (by omega)]; omega)
  rw [nI_toInt (n := k) (by omega)] at hr
  refine lv_iload_n hx hb dL_below_0 rfl (lv_at hl 0 rfl) ?_
  refine xldc hc lkL_below_c7 dL_below_1 ?_
  refine lv_iand hx hb dL_below_3 ?_
  refine lv_iload_n hx hb dL_below_4 rfl (lv_at hl 1 rfl) ?_
  refine lv_irem hx hb dL_below_5 (hk0) ?_
  exact xret_i () hc hw ⟨_, (by omega : ((x &&& 2147483647) - (x &&& 2147483647) / nI k * nI k).toInt.toNat < k), (by rw [xeqI, nI_toInt (by omega)]; omega)⟩ ⟨Nat.le_refl _, Nat.le_refl _⟩ dL_below_6
/-- the script's cell b is there, and no cell of the world -/
def xPs (G : xG) (b L : Nat) (xs : Nat → Int32) (ws : va_W) (sz : Nat) (U : State) : Prop := xPc G ws sz U ∧ va_X b L xs U U.heap ∧ ¬ va_A ws sz b
theorem xPs_blind {G : xG} {av : List Value} {b L : Nat} {xs : Nat → Int32} {ws : va_W} {sz : Nat} : FrameBlind (va_Pc av (xPs G b L xs ws sz)) := fun a U g mk h =>
  ⟨h.1, (xPc_blind (av := av) a U g mk ⟨h.1, h.2.1⟩).2, (va_X.moved (u := U) (Vm.Alike.refl U.vm) h.2.2.1), h.2.2.2⟩
abbrev xMs (l : Launch) (y : MethodName) (wds : List Cond) (rm : Room) (G : xG) (av : List Value) (b L : Nat) (xs : Nat → Int32) (ws : va_W) (sz : Nat) (Qc : Array Value → State → Outcome → State → Prop) : Prop := Met l y wds rm (va_Pc av (xPs G b L xs ws sz)) Qc rm.cells rm.slots (va_A ws sz)
theorem xofs {l : Launch} {y : MethodName} {wds wds' : List Cond} {rm : Room} {G : xG} {av : List Value} {b L : Nat} {xs : Nat → Int32} {ws : va_W} {sz : Nat} {Qc : Array Value → State → Outcome → State → Prop} {own : String} {cc : ByteArray} {maxL : Nat} {ret : Option FieldType}
    (ho : y.cls = own) (hy : plainName y.cls = true) (hwd : wds = Cond.code y cc maxL ret :: wds') (hlen : (lg_sl av).length ≤ maxL)
    (body : ∀ (p : Program) (e : Env) (s : State) (m : MethodId) (below : List Frame) (meth : Method) (c : Code), xC p s m av.toArray meth c cc maxL own wds ret G (va_A ws sz) → meth.name = y.name → xW G (va_A ws sz) s.heap ws s.heap [] → va_X b L xs s s.heap → b < s.heap.size → ¬ va_A ws sz b →
      ∀ ls, lv_has ls maxL (lv_args 0 av) → W p l e rm s m av.toArray below meth c s.heap [] 0 0 (MQ below Qc av.toArray s rm.cells rm.slots (va_A ws sz)) (F0 m 0 ls [])) :
    xMs l y wds rm G av b L xs ws sz Qc := by
  subst ho
  refine Met.ofW (cc := cc) (maxL := maxL) (ret := ret) hy hwd ?_
  intro p e s m args below meth c s₁ B hml hv
  obtain ⟨rfl, ⟨hsz, hP, hD0, hE, hZ⟩, hX, hbA⟩ := hv
  have hl := lv_entry av (n := maxL) hlen
  rw [lg_entry_eq]
  generalize (lg_sl av ++ List.replicate (maxL - (lg_sl av).length) Slot.unset).toArray = ls at hl ⊢
  exact body p e s m below meth c ⟨B.exec, B.bytes, hml, findClass_of_methodNamed B.named, atoms_spec (ws := wds) B.pre, B.returns, B.notSynchronized, hE, hZ, fun q h => Or.inr (hsz ▸ h)⟩ (name_of_methodNamed B.named B.method).1 ⟨hP, hD0.self, va_S.rf⟩ hX (by have : ¬ sz ≤ b := fun h => hbA (Or.inr h); omega) hbA ls hl
section SC
variable {p : Program} {l : Launch} {e : Env} {R : Room} {s : State} {m : MethodId} {args : Array Value} {below : List Frame} {meth : Method} {c : Code} {H : Heap} {locs : List Loc} {cells slots : Nat} {Q : State → Prop}
variable {cc : ByteArray} {nL : Nat} {own : String} {wds : List Cond} {ret : Option FieldType} {G : xG} {A : Nat → Prop} {ws : va_W} {pc : Nat} {ls : Array Slot} {st0 rest : List Value}
variable {y : MethodName} {bytes : ByteArray} {maxL n index : Nat} {ret' : Option FieldType} {wds' wds'' : List Cond} {rm : Room} {As : List Value} {b L : Nat} {xs : Nat → Int32}
/-- a static call that takes the script along, of a method without cells; with all cells -/
theorem nrunSs {Qc : Array Value → State → Outcome → State → Prop} (hc : xC p s m args meth c cc nL own wds ret G A) (hw : xW G A s.heap ws H locs) (hX : va_X b L xs s s.heap) (hbl : b < s.heap.size) (hbA : ¬ A b) (hM : xMs l y wds' rm G As b L xs [] H.size Qc)
    (hT : GoodIn wds (va_wsS own index y wds')) (hwd : wds' = Cond.code y bytes maxL ret' :: wds'')
    (hd : y.cls ≠ "java/lang/invoke/MethodHandle" ∧ y.cls ≠ "java/lang/invoke/VarHandle" ∧ (parseMethodDescriptor y.desc).map (fun d => d.parameters.length) = some n) (hR : rm.frames + 1 ≤ R.frames ∧ 8 + (maxL + 11) + rm.locals ≤ R.locals)
    (hn : As.length = n) (hst0 : st0 = As.reverse ++ rest) (hl : ls.size = nL) (hst : (rest.map fun v => v.category).sum ≤ 8) (hdg : decode cc pc = .ok (.invokestatic index, 3)) (hf : cells + rm.cells ≤ R.cells ∧ slots + rm.slots ≤ R.slots) :
    va_Run p l e R s m args below meth c H locs cells slots rm.cells rm.slots (F0 m pc ls st0) rest (Qc As.toArray) (va_A [] H.size) := by
  subst hst0
  have hz : b < H.size := Nat.lt_of_lt_of_le hbl hw.2.2.1
  exact va_runS ⟨hc.1, hc.2.1, hc.2.2.1, hc.2.2.2.1, hc.2.2.2.2.1⟩ hM (va_cwS n hc.2.2.2.2.1 hT hwd rfl rfl hd hR) ⟨xPs_blind, fun U hU hW => ⟨rfl, xPcOf hc hw [] rfl rfl U hU hW, by rw [hU]; exact (hX.kept (hw.2.2.2.1 b hbl hbA)).moved hW.alike, fun h => h.elim (fun ⟨k, e, h⟩ => by simp at h) (fun h => absurd hz (Nat.not_lt.mpr h))⟩⟩ rfl hn hl rfl (lv_room hst) hdg hf
theorem wrunSs {Qc : Array Value → State → Outcome → State → Prop} (hc : xC p s m args meth c cc nL own wds ret G A) (hw : xW G A s.heap ws H locs) (hX : va_X b L xs s s.heap) (hbl : b < s.heap.size) (hbA : ¬ A b) (hM : xMs l y wds' rm G As b L xs ws H.size Qc)
    (hT : GoodIn wds (va_wsS own index y wds')) (hwd : wds' = Cond.code y bytes maxL ret' :: wds'')
    (hd : y.cls ≠ "java/lang/invoke/MethodHandle" ∧ y.cls ≠ "java/lang/invoke/VarHandle" ∧ (parseMethodDescriptor y.desc).map (fun d => d.parameters.length) = some n) (hR : rm.frames + 1 ≤ R.frames ∧ 8 + (maxL + 11) + rm.locals ≤ R.locals)
    (hn : As.length = n) (hst0 : st0 = As.reverse ++ rest) (hl : ls.size = nL) (hst : (rest.map fun v => v.category).sum ≤ 8) (hdg : decode cc pc = .ok (.invokestatic index, 3)) (hf : cells + rm.cells ≤ R.cells ∧ slots + rm.slots ≤ R.slots) :
    va_Run p l e R s m args below meth c H locs cells slots rm.cells rm.slots (F0 m pc ls st0) rest (Qc As.toArray) (va_A ws H.size) := by
  subst hst0
  exact va_runS ⟨hc.1, hc.2.1, hc.2.2.1, hc.2.2.2.1, hc.2.2.2.2.1⟩ hM (va_cwS n hc.2.2.2.2.1 hT hwd rfl rfl hd hR) ⟨xPs_blind, fun U hU hW => ⟨rfl, wPcOf hc hw U hU hW, by rw [hU]; exact (hX.kept (hw.2.2.2.1 b hbl hbA)).moved hW.alike, fun h => hbA (wsz hc hw b h)⟩⟩ rfl hn hl rfl (lv_room hst) hdg hf
end SC
set_option maxHeartbeats 40000000 in
set_option maxRecDepth 100000 in
theorem metL_cell (l : Launch) (G : xG) (sz b L : Nat) (xs : Nat → Int32) (k : Nat) (hk : k ≤ 1000) (hL : L ≤ 1000) : xMs l yL_cell wsL_cell ⟨0, 0, 0, 0⟩ G [.ref b, .int (nI k)] b L xs [] sz (xQi G [] sz (fun (_ : Int32) (_ : Unit) => True) (fun _ => [])) := by
  refine xofs (own := RL) (cc := cL_cell) (maxL := 2) (ret := (some .int)) rfl (by decide) rfl (Nat.le_of_ble_eq_true rfl) ?_
  intro pg en s mi below meth cd hc hnm hw hX hbl hbA ls hl
  obtain ⟨hx, hb, -, hown, hts, -⟩ := id hc
  have hl : lv_has ls 2 [(0, .ref b), (1, .int (nI k))] := hl
  refine lv_iload_n hx hb dL_cell_0 rfl (lv_at hl 1 rfl) ?_
  refine lv_aload_n hx hb dL_cell_1 rfl (lv_at hl 0 rfl) ?_
  refine va_slen hx hb hX hbl hbA hw.2.2 dL_cell_2 ?_
  refine lv_icmp_ge (tgt := 12) hx hb dL_cell_3 (by decide) (fun hz => ?_) (fun hz => ?_)
  · refine xldc hc lkL_cell_c8 dL_cell_12 ?_
    refine lv_iload_n hx hb dL_cell_14 rfl (lv_at hl 1 rfl) ?_
    refine lv_iconst (v := 3) hx hb dL_cell_15 (by decide) ?_
    refine lv_iadd hx hb dL_cell_16 ?_
    refine lv_imul hx hb dL_cell_17 ?_
    exact xret_i () hc hw trivial ⟨Nat.le_refl _, Nat.le_refl _⟩ dL_cell_18
  · refine lv_aload_n hx hb dL_cell_6 rfl (lv_at hl 0 rfl) ?_
    refine lv_iload_n hx hb dL_cell_7 rfl (lv_at hl 1 rfl) ?_
    refine va_sld hx hb hX hbl hbA hw.2.2 (pinI (Nat.not_le.mp fun h => hz (nI_le h (by omega))) (by omega)) dL_cell_8 ?_
    refine lv_goto (tgt := 18) hx hb dL_cell_9 (by decide) ?_
    exact xret_i () hc hw trivial ⟨Nat.le_refl _, Nat.le_refl _⟩ dL_cell_18
set_option maxHeartbeats 40000000 in
set_option maxRecDepth 100000 in
theorem lpL_known {p : Program} {l : Launch} {e : Env} {s : State} {m : MethodId} {args : Array Value} {below : List Frame} {meth : Method} {c : Code} {Q : State → Prop} {G : xG} {A : Nat → Prop} (hst : l.stackTraces = false) {a : Nat → Nat} {x1 res : Int32} {N : Nat} {B : Int} {z : Nat → Int32} {r : Nat → Nat → Int32} {rs : Int32} {q : Nat → Nat → Int32} {n : Nat} {xn : Nat → Nat} {xr : Nat → Nat → Int32} {nr : Nat} {v : Nat → Int32} {rw : Nat → Nat → Int32} {ak : Nat → Int32} {wl : Nat} {wy : Nat → Nat → Int32} {mp : Nat → Nat → Bool} {mm : Nat → Nat → Nat → Int32} (hc : xC p s m args meth c cL_known 7 RL wsL_known (some .int) G A) (h : cA N B z r rs q n xn xr nr v rw ak wl wy mp mm) {g : Nat} (hg : g < n) {L : List Nat} {f : Nat → va_E}
    (kx : ∀ (u : cU) (H : Heap) (locs : List Loc) (ls : Array Slot) (pc : Nat), xW G A s.heap (cW G a z r u ++ va_pl L f) H locs → decode cL_known pc = .ok (.ireturn, 1) → W p l e ⟨8, 50, 300, 130⟩ s m args below meth c H locs 50 300 Q (F0 m pc ls [.int (res)])) :
    ∀ (d i : Nat), i + d = 10 → ∀ (y : Nat) (s0 : Int32) (u : cU) (H : Heap) (locs : List Loc) (ls : Array Slot), y < n → res = kN (r 0) (r 2) (r 4) (r 5) (q 6) g d y s0 → lv_has ls 7 [(5, .int (nI i)), (4, .int (nI y)), (3, .int s0), (0, .ref (a 0)), (1, .int x1), (2, .int (nI g))] → xW G A s.heap (cW G a z r u ++ va_pl L f) H locs → W p l e ⟨8, 50, 300, 130⟩ s m args below meth c H locs (5 * i) (30 * i) Q (F0 m 8 ls []) := by
  obtain ⟨hx, hb, -, hown, hts, -⟩ := id hc
  have hH := cA_H h
  have hn := cA_n h
  have hL := cA_L h
  have hM := zI_M h.1
  intro d
  induction d with
  | zero =>
    intro i hd y s0 u H locs ls hy hk hl hw
    refine lv_iload hx hb dL_known_8 (lv_at hl 0 rfl) ?_
    refine lv_bipush (v := 10) hx hb dL_known_10 (by decide) ?_
    refine lv_icmp_ge (tgt := 75) hx hb dL_known_12 (by decide) (fun hz => ?_) (fun h => absurd (show (10 : Int32) ≤ nI i from nI_le (a := 10) (by omega) (by omega)) h)
    refine lv_iload hx hb dL_known_75 (lv_at hl 1 rfl) ?_
    refine lv_iload_n hx hb dL_known_77 rfl (lv_at hl 5 rfl) ?_
    refine lv_icmp_ne (tgt := 85) hx hb dL_known_78 (by decide) (fun hz2 => ?_) (fun hz2 => ?_)
    · refine lv_iconst (v := (-1)) hx hb dL_known_85 (by decide) ?_
      refine W.widen (k := 50) (n := 300) (by omega) (by omega) ?_
      have ek : res = (-1) := by rw [hk, kN, if_neg hz2]
      have := kx u H locs ls 86 hw dL_known_86
      rw [ek] at this
      exact this
    · refine lv_iload_n hx hb dL_known_81 rfl (lv_at hl 2 rfl) ?_
      refine lv_goto (tgt := 86) hx hb dL_known_82 (by decide) ?_
      refine W.widen (k := 50) (n := 300) (by omega) (by omega) ?_
      have ek : res = s0 := by rw [hk, kN, if_pos hz2]
      have := kx u H locs ls 86 hw dL_known_86
      rw [ek] at this
      exact this
  | succ d ih =>
    intro i hd y s0 u H locs ls hy hk hl hw
    refine lv_iload hx hb dL_known_8 (lv_at hl 0 rfl) ?_
    refine lv_bipush (v := 10) hx hb dL_known_10 (by decide) ?_
    refine lv_icmp_ge (tgt := 75) hx hb dL_known_12 (by decide) (fun h => absurd h (show ¬ (10 : Int32) ≤ nI i from nI_ge (b := 10) (by omega) (by omega))) (fun hz => ?_)
    refine lv_iload hx hb dL_known_15 (lv_at hl 1 rfl) ?_
    refine lv_iload_n hx hb dL_known_17 rfl (lv_at hl 5 rfl) ?_
    refine lv_icmp_eq (tgt := 75) hx hb dL_known_18 (by decide) (fun hz2 => ?_) (fun hz2 => ?_)
    · refine lv_iload hx hb dL_known_75 (lv_at hl 1 rfl) ?_
      refine lv_iload_n hx hb dL_known_77 rfl (lv_at hl 5 rfl) ?_
      refine lv_icmp_ne (tgt := 85) hx hb dL_known_78 (by decide) (fun h => absurd hz2 h) (fun hz3 => ?_)
      refine lv_iload_n hx hb dL_known_81 rfl (lv_at hl 2 rfl) ?_
      refine lv_goto (tgt := 86) hx hb dL_known_82 (by decide) ?_
      refine W.widen (k := 50) (n := 300) (by (try dsimp only); omega) (by (try dsimp only); omega) ?_
      have := kx u H locs ls 86 hw dL_known_86
      rw [hk, kN, if_pos hz2] at this
      exact this
    · rw [kN, if_neg hz2] at hk
      refine lv_aload_n hx hb dL_known_21 rfl (lv_at hl 3 rfl) ?_
      refine lv_iload_n hx hb dL_known_22 rfl (lv_at hl 5 rfl) ?_
      refine lv_iload hx hb dL_known_23 (lv_at hl 1 rfl) ?_
      refine ccall_i hc hw (crunV (n := 2) (As := [.int (nI g), .int (nI y)]) (rest := []) hc hw (k_remembered hst _ a z r u _ _ (l_remembered hL hM (g := g) (p := y) (by omega) (by omega))) gL_known_X3_remembered rfl (by decide +kernel) ⟨Nat.le_of_ble_eq_true rfl, Nat.le_of_ble_eq_true rfl⟩ 0 rfl rfl rfl rfl hl.1 (Nat.le_of_ble_eq_true rfl) dL_known_25 (by first | exact ⟨Nat.le_of_ble_eq_true rfl, Nat.le_of_ble_eq_true rfl⟩ | (refine ⟨?_, ?_⟩ <;> ((try dsimp only); omega)))) (fun x0 u H locs hp hw => ?_)
      have hx0 : x0 = q 6 (10 * g + y) := hp
      subst hx0
      refine lv_istore (lv' := [(6, .int (q 6 (10 * g + y))), (5, .int (nI i)), (4, .int (nI y)), (3, .int s0), (0, .ref (a 0)), (1, .int x1), (2, .int (nI g))]) hx hb dL_known_28 hl (by decide) rfl (fun ls hl => ?_)
      refine lv_iload hx hb dL_known_30 (lv_at hl 0 rfl) ?_
      refine lv_if_lt (tgt := 46) hx hb dL_known_32 (by decide) (fun hz3 => ?_) (fun hz3 => ?_)
      · refine lv_iconst (v := (-1)) hx hb dL_known_46 (by decide) ?_
        refine W.widen (k := 50) (n := 300) (by (try dsimp only); omega) (by (try dsimp only); omega) ?_
        rw [if_pos hz3] at hk
        have := kx u H locs ls 47 hw dL_known_47
        rw [hk] at this
        exact this
      · rw [if_neg hz3] at hk
        rcases dMem hL h.2.1 h.2.2.1.2.2.2.2 h.2.2.2.1.1 (g := g) (show g < 10 by omega) (a := y) hy with ⟨k1, k2⟩ | ⟨x, k1, k2, k3, k4, k5, k6⟩
        · exfalso
          rw [k2] at hz3
          exact hz3 (by decide)
        rw [k4, nI_clamp (by have := (rL_n hL h.2.1).2.2 y hy; omega)] at hk
        have hx4 := (rL_n hL h.2.1).2.2 y hy
        rw [k4] at hl
        have ez : zE (z 0) (r 0) (4 * y + x) := (rL_e hL h.2.1 hy k1).1
        obtain ⟨t, t1, t2⟩ := sTo_in (rL_sX hL h.2.1) hy k1
        have ht := (rL_to hL h.2.1 hy k1).1
        have eld : r 2 (4 * y + x) = nI t := ht.symm.trans t1
        refine lv_aload_n hx hb dL_known_35 rfl (lv_at hl 4 rfl) ?_
        refine lv_iload hx hb dL_known_36 (lv_at hl 2 rfl) ?_
        refine lv_iload hx hb dL_known_38 (lv_at hl 0 rfl) ?_
        refine ccall_i hc hw (crunV (n := 2) (As := [.int (nI y), .int (nI x)]) (rest := []) hc hw (k_isOpen hst _ a z r u _ _ hH (l_isOpen hL ez (by omega))) gL_known_X3_isOpen rfl (by decide +kernel) ⟨Nat.le_of_ble_eq_true rfl, Nat.le_of_ble_eq_true rfl⟩ 0 rfl rfl rfl rfl hl.1 (Nat.le_of_ble_eq_true rfl) dL_known_40 (by first | exact ⟨Nat.le_of_ble_eq_true rfl, Nat.le_of_ble_eq_true rfl⟩ | (refine ⟨?_, ?_⟩ <;> ((try dsimp only); omega)))) (fun x0 u H locs hp hw => ?_)
        have hx0 : x0 = _ := hp
        subst hx0
        refine lv_if_ne (tgt := 48) hx hb dL_known_43 (by decide) (fun hz4 => ?_) (fun hz4 => ?_)
        · have ho : ¬ r 5 (4 * y + x) = 0 := fun z0 => hz4 (if_pos z0)
          rw [if_neg ho] at hk
          refine lv_iload_n hx hb dL_known_48 rfl (lv_at hl 3 rfl) ?_
          refine lv_aload_n hx hb dL_known_49 rfl (lv_at hl 4 rfl) ?_
          refine lv_iload hx hb dL_known_50 (lv_at hl 2 rfl) ?_
          refine lv_iload hx hb dL_known_52 (lv_at hl 0 rfl) ?_
          refine ccall_i hc hw (crunV (n := 2) (As := [.int (nI y), .int (nI x)]) (rest := [.int s0]) hc hw (k_milesOf hst _ a z r u _ _ hH (l_milesOf hL ez (by omega))) gL_known_X3_milesOf rfl (by decide +kernel) ⟨Nat.le_of_ble_eq_true rfl, Nat.le_of_ble_eq_true rfl⟩ 0 rfl rfl rfl rfl hl.1 (Nat.le_of_ble_eq_true rfl) dL_known_54 (by first | exact ⟨Nat.le_of_ble_eq_true rfl, Nat.le_of_ble_eq_true rfl⟩ | (refine ⟨?_, ?_⟩ <;> ((try dsimp only); omega)))) (fun x0 u H locs hp hw => ?_)
          have hx0 : x0 = _ := hp
          subst hx0
          refine lv_iadd hx hb dL_known_57 ?_
          refine lv_istore_n (lv' := [(3, .int (s0 + (r 4 (4 * y + x)))), (6, .int (nI x)), (5, .int (nI i)), (4, .int (nI y)), (0, .ref (a 0)), (1, .int x1), (2, .int (nI g))]) hx hb dL_known_58 rfl hl (by decide) rfl (fun ls hl => ?_)
          refine lv_aload_n hx hb dL_known_59 rfl (lv_at hl 4 rfl) ?_
          refine lv_iload hx hb dL_known_60 (lv_at hl 3 rfl) ?_
          refine lv_iload hx hb dL_known_62 (lv_at hl 1 rfl) ?_
          refine ccall_i hc hw (crunV (n := 2) (As := [.int (nI y), .int (nI x)]) (rest := []) hc hw (k_leadsTo hst _ a z r u _ _ hH (l_leadsTo hL ez (by omega))) gL_known_X3_leadsTo rfl (by decide +kernel) ⟨Nat.le_of_ble_eq_true rfl, Nat.le_of_ble_eq_true rfl⟩ 0 rfl rfl rfl rfl hl.1 (Nat.le_of_ble_eq_true rfl) dL_known_64 (by first | exact ⟨Nat.le_of_ble_eq_true rfl, Nat.le_of_ble_eq_true rfl⟩ | (refine ⟨?_, ?_⟩ <;> ((try dsimp only); omega)))) (fun x0 u H locs hp hw => ?_)
          have hx0 : x0 = _ := hp
          subst hx0
          rw [eld]
          refine lv_istore (lv' := [(4, .int (nI t)), (3, .int (s0 + (r 4 (4 * y + x)))), (6, .int (nI x)), (5, .int (nI i)), (0, .ref (a 0)), (1, .int x1), (2, .int (nI g))]) hx hb dL_known_67 hl (by decide) rfl (fun ls hl => ?_)
          refine lv_iinc (v := nI (i + 1)) (lv' := [(5, .int (nI (i + 1))), (4, .int (nI t)), (3, .int (s0 + (r 4 (4 * y + x)))), (6, .int (nI x)), (0, .ref (a 0)), (1, .int x1), (2, .int (nI g))]) hx hb dL_known_69 hl (k := 3) rfl (nI_1 _) (by decide) rfl (fun ls hl => ?_)
          refine lv_goto (tgt := 8) hx hb dL_known_72 (by decide) ?_
          rw [eld, nI_clamp (by omega)] at hk
          refine W.widen (k := 5 * (i + 1)) (n := 30 * (i + 1)) (by (try dsimp only); omega) (by (try dsimp only); omega) ?_
          exact ih (i + 1) (by omega) t _ u H locs ls t2 hk (lv_sub hl [0, 1, 2, 4, 5, 6] rfl) hw
        · have ho : r 5 (4 * y + x) = 0 := by
            by_cases c0 : r 5 (4 * y + x) = 0
            · exact c0
            · rw [if_neg c0] at hz4; exact absurd hz4 (by decide)
          rw [if_pos ho] at hk
          refine lv_iconst (v := (-1)) hx hb dL_known_46 (by decide) ?_
          refine W.widen (k := 50) (n := 300) (by (try dsimp only); omega) (by (try dsimp only); omega) ?_
          have := kx u H locs ls 47 hw dL_known_47
          rw [hk] at this
          exact this
set_option maxHeartbeats 40000000 in
set_option maxRecDepth 100000 in
theorem metL_known (l : Launch) (G : xG) (hst : l.stackTraces = false) (sz : Nat) (a : Nat → Nat) {N : Nat} {B : Int} {z : Nat → Int32} {r : Nat → Nat → Int32} {rs : Int32} {q : Nat → Nat → Int32} {n : Nat} {xn : Nat → Nat} {xr : Nat → Nat → Int32} {nr : Nat} {v : Nat → Int32} {rw : Nat → Nat → Int32} {ak : Nat → Int32} {wl : Nat} {wy : Nat → Nat → Int32} {mp : Nat → Nat → Bool} {mm : Nat → Nat → Nat → Int32} (u : cU) (L : List Nat) (f : Nat → va_E) (h : cA N B z r rs q n xn xr nr v rw ak wl wy mp mm) {fr g : Nat} (hfr : fr < n) (hg : g < n) : xM l yL_known wsL_known ⟨8, 50, 300, 130⟩ G [.ref (a 0), .int (nI fr), .int (nI g)] (cW G a z r u ++ va_pl L f) sz (xQi G (cW G a z r u ++ va_pl L f) sz (fun x0 (_ : cU) => x0 = kN (r 0) (r 2) (r 4) (r 5) (q 6) g 10 fr 0) (fun u => cW G a z r u ++ va_pl L f)) := by
  refine xof (own := RL) (cc := cL_known) (maxL := 7) (ret := (some .int)) rfl (by decide) rfl (Nat.le_of_ble_eq_true rfl) ?_
  intro pg en s mi below meth cd hc hnm hw ls hl
  obtain ⟨hx, hb, -, hown, hts, -⟩ := id hc
  have hl : lv_has ls 7 [(0, .ref (a 0)), (1, .int (nI fr)), (2, .int (nI g))] := hl
  refine lv_iconst (v := 0) hx hb dL_known_0 (by decide) ?_
  refine lv_istore_n (lv' := [(3, .int 0), (0, .ref (a 0)), (1, .int (nI fr)), (2, .int (nI g))]) hx hb dL_known_1 rfl hl (by decide) rfl (fun ls hl => ?_)
  refine lv_iload_n hx hb dL_known_2 rfl (lv_at hl 2 rfl) ?_
  refine lv_istore (lv' := [(4, .int (nI fr)), (3, .int 0), (0, .ref (a 0)), (1, .int (nI fr)), (2, .int (nI g))]) hx hb dL_known_3 hl (by decide) rfl (fun ls hl => ?_)
  refine lv_iconst (v := 0) hx hb dL_known_5 (by decide) ?_
  refine lv_istore (lv' := [(5, .int 0), (4, .int (nI fr)), (3, .int 0), (0, .ref (a 0)), (1, .int (nI fr)), (2, .int (nI g))]) hx hb dL_known_6 hl (by decide) rfl (fun ls hl => ?_)
  exact lpL_known hst hc h hg (fun u H locs ls pc hw hdg => xret_i u hc hw rfl ⟨Nat.le_refl _, Nat.le_refl _⟩ hdg) 10 0 (by omega) fr 0 u _ _ ls hfr rfl (lv_sub hl [0, 1, 2, 3, 4, 5] rfl) hw
