/-! MY ROWS: a run's names (xG), what every method needs of the tables (xE), statics (xZ), worlds (xW); contracts, calls and ends over them. -/
abbrev xG : Type := va_G × (ClassId × ClassId × ClassId × ClassId) × (Nat → Nat)
abbrev xTy (G : xG) : List (ClassId × FieldType) := [(G.2.1.1, .int), (G.2.1.2.1, .boolean), (G.2.1.2.2.1, .array .int), (G.2.1.2.2.2, .array (.array .int))]
abbrev xAI (G : xG) (a n : Nat) (f : Nat → Int32) : Nat × va_E := (a, .inl (G.2.1.1, n, .inl f))
abbrev xAZ (G : xG) (a n : Nat) (f : Nat → Int32) : Nat × va_E := (a, .inl (G.2.1.2.1, n, .inl f))
abbrev xAA (G : xG) (a n : Nat) (f : Nat → Option Nat) : Nat × va_E := (a, .inl (G.2.1.2.2.1, n, .inr (.inr (.inr (.inr f)))))
abbrev xAB (G : xG) (a n : Nat) (f : Nat → Option Nat) : Nat × va_E := (a, .inl (G.2.1.2.2.2, n, .inr (.inr (.inr (.inr f)))))
abbrev xO (a ci : Nat) (fs : List Value) : Nat × va_E := (a, .inr (ci, fs))
abbrev xIO : String := "java/lang/IndexOutOfBoundsException"
abbrev xIA : String := "java/lang/IllegalArgumentException"
abbrev xIS : String := "java/lang/IllegalStateException"
def xNest : List Cond := [
  .methodLinkNest RX3 11 yX1_init "MapCarrier",
  .fieldLinkNest RX3 28 "MapCarrier$Land" "places" "I" "MapCarrier",
  .fieldLinkNest RX3 119 "MapCarrier$Land" "exits" "[I" "MapCarrier",
  .fieldLinkNest RX3 69 "MapCarrier$Land" "shepherds" "[Z" "MapCarrier",
  .fieldLinkNest RX0 111 "MapCarrier$Land" "shepherds" "[Z" "MapCarrier",
  .fieldLinkNest RX0 93 "MapCarrier$Land" "open" "[Z" "MapCarrier",
  .methodLinkNest RX0 11 yX2_init "MapCarrier",
  .fieldLinkNest RX3 109 "MapCarrier$Carrier" "memory" "LMapCarrier$Memory;" "MapCarrier",
  .fieldLinkNest RX3 84 "MapCarrier$Carrier" "at" "I" "MapCarrier",
  .fieldLinkNest RX3 73 "MapCarrier$Carrier" "coins" "I" "MapCarrier",
  .fieldLinkNest RX3 132 "MapCarrier$Carrier" "goal" "I" "MapCarrier",
  .fieldLinkNest RX3 103 "MapCarrier$Carrier" "wayLength" "I" "MapCarrier",
  .fieldLinkNest RX3 147 "MapCarrier$Carrier" "walked" "I" "MapCarrier",
  .fieldLinkNest RX3 150 "MapCarrier$Carrier" "doubled" "I" "MapCarrier",
  .fieldLinkNest RX3 153 "MapCarrier$Carrier" "done" "I" "MapCarrier",
  .fieldLinkNest RX3 156 "MapCarrier$Carrier" "inVain" "I" "MapCarrier",
  .fieldLinkNest RX3 159 "MapCarrier$Carrier" "questions" "I" "MapCarrier",
  .methodLinkNest RX1 56 yX3_isEnd "MapCarrier",
  .methodLinkNest RX0 56 yX3_isEnd "MapCarrier",
  .methodLinkNest RX1 49 yX3_placeOfEnd "MapCarrier",
  .methodLinkNest RX0 120 yX3_exitOfEnd "MapCarrier",
  .methodLinkNest RX0 134 yX3_placeOfEnd "MapCarrier",
  .methodLinkNest RL 103 yX4_init "MapCarrierLaw",
  .classLink RX4 35 "[[[I",
  .castable xIO xIO, .castable xIA xIA, .castable xIS xIS,
  .declares ⟨"java/lang/RuntimeException", "<init>", "(Ljava/lang/String;)V"⟩, .declares ⟨"java/lang/Exception", "<init>", "(Ljava/lang/String;)V"⟩, .declares ⟨"java/lang/Throwable", "<init>", "(Ljava/lang/String;)V"⟩]
def xNestOk : Cond → Bool
  | .fieldLinkNest .. => true
  | .methodLinkNest .. => true
  | .castable .. => true
  | .declares _ => true
  | .classLink .. => true
  | _ => false
theorem xNest_ok : ∀ w ∈ xNest, xNestOk w = true := by decide +kernel
theorem xNest_tbl : ∀ w ∈ xNest, w ∈ lw_tbl := by decide +kernel
def xN (U : State) : Prop := ∀ w ∈ xNest, va_Nw w U
theorem xN.warm {s U : State} (hW : s.WarmedH U.vm) (h : xN s) : xN U := by
  intro w hw
  have h1 := h w hw
  have h2 := xNest_ok w hw
  cases w <;> first | exact va_Nw.warmF hW h1 | exact va_Nw.warmM hW h1 | exact va_Nw.warmC hW h1 | exact va_Nw.warmD hW h1 | exact word_at (c := Cond.classLink _ _ _) hW (Or.inl rfl) h1 | (exact absurd h2 (by simp [xNestOk]))
theorem xN.same {u U : State} (hv : u.vm = U.vm) (h : xN u) : xN U := by
  intro w hw
  have h1 := h w hw
  have h2 := xNest_ok w hw
  cases w <;> first | exact va_Nw.same rfl hv h1 | (exact absurd h2 (by simp [xNestOk]))
def xNcs : List (String × String) := []
def xNc (U : State) : Prop := ∀ q ∈ xNcs, va_Nc q.1 q.2 U
def xStrs : List (String × Nat × String) := [(RX3, 34, "there are 10 places"), (RX3, 45, "a road leads to another place"), (RX3, 56, "a place has 4 exits"), (RX3, 210, "no such place"), (RX3, 216, "no such place or exit"), (RX3, 218, "a number is too small or too large"), (RX3, 220, "an errand goes on"), (RX3, 222, "no errand goes on")]
def xS (G : xG) (U : State) : Prop := ∀ (k : Nat) (q : String × Nat × String), xStrs[k]? = some q → vk_R q.1 q.2.1 q.2.2 (G.2.2 k) U
/-- the array class over an array's class is there -/
def xAO (t : FieldType) (U : State) : Prop := (Cond.arrayOver (.array t)).before #[] U = true
theorem xAO.use {t : FieldType} {A : Array Value} {U : State} (h : xAO t U) : (Cond.arrayOver (.array t)).before A U = true := h
theorem xAO.of {t : FieldType} {A : Array Value} {U : State} (h : (Cond.arrayOver (.array t)).before A U = true) : xAO t U := h
theorem xAO.moved {t : FieldType} {u U : State} (hvm : u.vm.Alike U.vm) (h : xAO t u) : xAO t U := by
  obtain ⟨comp, cA, kA, g1, g2, g3, g4, g5⟩ := arrayOverA_spec h
  obtain ⟨kB, hB, heB⟩ := hvm.2.2 _ _ g3
  have f0 : (U.vm.classes.findIdx? fun (x : Class) => match x.kind with | .array component _ => component == comp | _ => false) = some cA := by
    rw [hvm.findIdx?_eq _ (fun _ => rfl)]; exact g2
  have hkd : kB.kind = .array comp (.array t) := by rw [heB]; exact g4
  have f1 : U.vm.findClass (FieldType.array t).toString = some comp := by rw [hvm.findClass]; exact g1
  have f2 : U.vm.findClass ("[" ++ (FieldType.array t).toString) = some cA := by rw [hvm.findClass]; exact g5
  unfold xAO Cond.before Cond.holds
  simp only [Cond.value]
  rw [f1, Option.bind_some]
  refine (congrArg (fun o : Option Nat => (o.bind (fun c => (U.vm.classes[c]?).map fun (k : Class) => match k.kind with | .array _ ty => decide (ty = FieldType.array t) && decide (U.vm.findClass ("[" ++ (FieldType.array t).toString) = some c) | _ => false) == some true)) f0).trans ?_
  simp [hB, hkd, f2]
def xOv (U : State) : Prop := xAO .int U ∧ xAO (.array .int) U
def xE (G : xG) (U : State) : Prop := va_K G.1 vwCl (xTy G) U ∧ xN U ∧ xNc U ∧ xS G U ∧ xOv U
theorem xE.warm {G : xG} {s U : State} (hW : s.WarmedH U.vm) (h : xE G s) : xE G U :=
  ⟨va_K.moved hW.alike h.1, h.2.1.warm hW, fun q hq => (h.2.2.1 q hq).moved hW.alike, fun k q hq => vk_R.warm hW (h.2.2.2.1 k q hq), h.2.2.2.2.1.moved hW.alike, h.2.2.2.2.2.moved hW.alike⟩
theorem xE.same {G : xG} {u U : State} (hv : U.vm = u.vm) (h : xE G u) : xE G U :=
  ⟨va_K.moved (by rw [hv]; exact Vm.Alike.refl _) h.1, h.2.1.same hv.symm, fun q hq => (h.2.2.1 q hq).moved (by rw [hv]; exact Vm.Alike.refl _), fun k q hq => vk_R.same hv (h.2.2.2.1 k q hq), h.2.2.2.2.1.moved (by rw [hv]; exact Vm.Alike.refl _), h.2.2.2.2.2.moved (by rw [hv]; exact Vm.Alike.refl _)⟩
def xZ (A : Nat → Prop) (U : State) (H : Heap) : Prop := vx_Zq Bundle.tN "UNASSIGNED_STACK" Bundle.steD A U H ∧ vx_Zq Bundle.tN "SUPPRESSED_SENTINEL" Bundle.listD A U H
def xW (G : xG) (A : Nat → Prop) (H0 : Heap) (ws : va_W) (H : Heap) (locs : List Loc) : Prop := va_P G.1 vwCl ws H ∧ va_D A ws ∧ va_S A H0 H locs
def xPc (G : xG) (ws : va_W) (sz : Nat) (U : State) : Prop := U.heap.size = sz ∧ va_P G.1 vwCl ws U.heap ∧ va_D (fun _ => True) ws ∧ xE G U ∧ xZ (va_A ws sz) U U.heap
theorem xPc_blind {G : xG} {av : List Value} {ws : va_W} {sz : Nat} : FrameBlind (va_Pc av (xPc G ws sz)) := fun a U g mk h =>
  ⟨h.1, h.2.1, h.2.2.1, h.2.2.2.1, xE.same (u := U) rfl h.2.2.2.2.1, vx_Zq.moved (Vm.Alike.refl U.vm) h.2.2.2.2.2.1, vx_Zq.moved (Vm.Alike.refl U.vm) h.2.2.2.2.2.2⟩
theorem xpick {ws ws' : va_W} {is : List Nat} (h : is.map (fun i => ws[i]?) = ws'.map some) : is.filterMap (fun i => ws[i]?) = ws' := by
  have e : is.filterMap (fun i => ws[i]?) = (is.map (fun i => ws[i]?)).filterMap id := by rw [List.filterMap_map]; rfl
  rw [e, h, List.filterMap_map]
  simp
theorem xpick_lt {ws : va_W} : ∀ {is : List Nat}, is.all (fun i => decide (i < ws.length)) = true → is.map (fun i => ws[i]?) = (is.filterMap (fun i => ws[i]?)).map some
  | [], _ => rfl
  | i :: is, h => by
    simp only [List.all_cons, Bool.and_eq_true, decide_eq_true_eq] at h
    have h1 : ws[i]? = some ws[i] := List.getElem?_eq_getElem h.1
    rw [List.map_cons, List.filterMap_cons, h1]
    simp only [List.map_cons]
    rw [xpick_lt h.2]
def xC (p : Program) (s : State) (m : MethodId) (args : Array Value) (meth : Method) (c : Code) (cc : ByteArray) (nL : Nat) (own : String) (wds : List Cond) (ret : Option FieldType) (G : xG) (A : Nat → Prop) : Prop :=
  p.tables.exec = Jvm.exec ∧ c.code = cc ∧ c.maxLocals = nL ∧ s.vm.findClass own = some m.cls ∧ (∀ w ∈ wds, w.before args s = true) ∧ meth.sig.returnType = ret ∧ meth.locks = false ∧ xE G s ∧ xZ A s s.heap ∧ (∀ q, s.heap.size ≤ q → A q)
def xB {S : Type} (G : xG) (A : Nat → Prop) (wn : S → va_W) (u : S) (t : State) : Prop := va_P G.1 vwCl (wn u) t.heap ∧ va_D A (wn u)
abbrev xQi {S : Type} (G : xG) (ws : va_W) (sz : Nat) (post : Int32 → S → Prop) (wn : S → va_W) := va_Qi post (xB G (va_A ws sz) wn) (va_A ws sz)
abbrev xQl {S : Type} (G : xG) (ws : va_W) (sz : Nat) (post : Int64 → S → Prop) (wn : S → va_W) := va_Ql post (xB G (va_A ws sz) wn) (va_A ws sz)
abbrev xQd {S : Type} (G : xG) (ws : va_W) (sz : Nat) (post : UInt64 → S → Prop) (wn : S → va_W) := va_Qd post (xB G (va_A ws sz) wn) (va_A ws sz)
abbrev xQv {S : Type} (G : xG) (ws : va_W) (sz : Nat) (post : S → Prop) (wn : S → va_W) := va_Qv post (xB G (va_A ws sz) wn) (va_A ws sz)
/-- what a throw leaves: the class of it, the world as it was -/
abbrev xX (G : xG) (ws : va_W) (sz : Nat) (px : String → Prop) : String → State → State → Prop := vx_X (fun _ : Unit => True) (fun E _ t => px E ∧ va_P G.1 vwCl ws t.heap ∧ va_D (va_A ws sz) ws) (va_A ws sz)
/-- a contract of a method that returns -/
abbrev xM (l : Launch) (y : MethodName) (wds : List Cond) (rm : Room) (G : xG) (av : List Value) (ws : va_W) (sz : Nat) (Qc : Array Value → State → Outcome → State → Prop) : Prop := Met l y wds rm (va_Pc av (xPc G ws sz)) Qc rm.cells rm.slots (va_A ws sz)
/-- a contract of a method that returns or throws -/
abbrev xMX (l : Launch) (y : MethodName) (wds : List Cond) (rm : Room) (G : xG) (av : List Value) (ws : va_W) (sz : Nat) (Qc : Array Value → State → Outcome → State → Prop) (px : String → Prop) : Prop := vx_Met l y wds rm (va_Pc av (xPc G ws sz)) Qc (xX G ws sz px) rm.cells rm.slots (va_A ws sz)
theorem xof {l : Launch} {y : MethodName} {wds wds' : List Cond} {rm : Room} {G : xG} {av : List Value} {ws : va_W} {sz : Nat} {Qc : Array Value → State → Outcome → State → Prop} {own : String} {cc : ByteArray} {maxL : Nat} {ret : Option FieldType}
    (ho : y.cls = own) (hy : plainName y.cls = true) (hwd : wds = Cond.code y cc maxL ret :: wds') (hlen : (lg_sl av).length ≤ maxL)
    (body : ∀ (p : Program) (e : Env) (s : State) (m : MethodId) (below : List Frame) (meth : Method) (c : Code), xC p s m av.toArray meth c cc maxL own wds ret G (va_A ws sz) → meth.name = y.name → xW G (va_A ws sz) s.heap ws s.heap [] →
      ∀ ls, lv_has ls maxL (lv_args 0 av) → W p l e rm s m av.toArray below meth c s.heap [] 0 0 (MQ below Qc av.toArray s rm.cells rm.slots (va_A ws sz)) (F0 m 0 ls [])) :
    xM l y wds rm G av ws sz Qc := by
  subst ho
  refine Met.ofW (cc := cc) (maxL := maxL) (ret := ret) hy hwd ?_
  intro p e s m args below meth c s₁ B hml hv
  obtain ⟨rfl, hsz, hP, hD0, hE, hZ⟩ := hv
  have hl := lv_entry av (n := maxL) hlen
  rw [lg_entry_eq]
  generalize (lg_sl av ++ List.replicate (maxL - (lg_sl av).length) Slot.unset).toArray = ls at hl ⊢
  exact body p e s m below meth c ⟨B.exec, B.bytes, hml, findClass_of_methodNamed B.named, atoms_spec (ws := wds) B.pre, B.returns, B.notSynchronized, hE, hZ, fun q h => Or.inr (hsz ▸ h)⟩ (name_of_methodNamed B.named B.method).1 ⟨hP, hD0.self, va_S.rf⟩ ls hl
theorem xofX {l : Launch} {y : MethodName} {wds wds' : List Cond} {rm : Room} {G : xG} {av : List Value} {ws : va_W} {sz : Nat} {Qc : Array Value → State → Outcome → State → Prop} {px : String → Prop} {own : String} {cc : ByteArray} {maxL : Nat} {ret : Option FieldType}
    (ho : y.cls = own) (hy : plainName y.cls = true) (hwd : wds = Cond.code y cc maxL ret :: wds') (hlen : (lg_sl av).length ≤ maxL)
    (body : ∀ (p : Program) (e : Env) (s : State) (m : MethodId) (below : List Frame) (meth : Method) (c : Code), xC p s m av.toArray meth c cc maxL own wds ret G (va_A ws sz) → (∀ x ∈ c.exceptionTable.toList, False) → xW G (va_A ws sz) s.heap ws s.heap [] →
      ∀ ls, lv_has ls maxL (lv_args 0 av) → W p l e rm s m av.toArray below meth c s.heap [] 0 0 (vx_MQ below Qc (xX G ws sz px) av.toArray s rm.cells rm.slots (va_A ws sz)) (F0 m 0 ls [])) :
    xMX l y wds rm G av ws sz Qc px := by
  subst ho
  refine vx_ofW (cc := cc) (maxL := maxL) (ret := ret) hy hwd ?_
  intro p e s m args below meth c s₁ B hml hex hv
  obtain ⟨rfl, hsz, hP, hD0, hE, hZ⟩ := hv
  have hl := lv_entry av (n := maxL) hlen
  rw [lg_entry_eq]
  generalize (lg_sl av ++ List.replicate (maxL - (lg_sl av).length) Slot.unset).toArray = ls at hl ⊢
  exact body p e s m below meth c ⟨B.exec, B.bytes, hml, findClass_of_methodNamed B.named, atoms_spec (ws := wds) B.pre, B.returns, B.notSynchronized, hE, hZ, fun q h => Or.inr (hsz ▸ h)⟩ hex ⟨hP, hD0.self, va_S.rf⟩ ls hl
section XR
variable {p : Program} {l : Launch} {e : Env} {R : Room} {s : State} {m : MethodId} {args : Array Value} {below : List Frame} {meth : Method} {c : Code} {H : Heap} {locs : List Loc} {cells slots : Nat} {Q : State → Prop}
variable {cc : ByteArray} {nL : Nat} {own : String} {wds : List Cond} {ret : Option FieldType} {G : xG} {A : Nat → Prop} {ws : va_W} {pc : Nat} {ls : Array Slot} {st0 rest : List Value}
theorem xPcOf (hc : xC p s m args meth c cc nL own wds ret G A) (hw : xW G A s.heap ws H locs) {wc : va_W} (isC : List Nat) (hn : va_nd isC = true) (hC : isC.map (fun i => ws[i]?) = wc.map some) : ∀ U : State, U.heap = H → s.WarmedH U.vm → xPc G wc H.size U := by
  obtain ⟨hx, hb, hml, hown, hts, hr, hlk, hE, hZ, hA⟩ := hc
  obtain ⟨hP, hD, hS⟩ := hw
  have hF := va_free (wc := wc) hD hS hA isC hC
  intro U hU hW
  refine ⟨by rw [hU], by rw [hU]; exact hP.sub isC (xpick hC), (hD.sub isC hn hC).weaken (fun _ _ _ _ => trivial), hE.warm hW, ?_⟩
  rw [hU]
  exact ⟨((hZ.1.moved hW.alike).kept hS.2.1).narrow hF, ((hZ.2.moved hW.alike).kept hS.2.1).narrow hF⟩
theorem xsz (hc : xC p s m args meth c cc nL own wds ret G A) (hw : xW G A s.heap ws H locs) {wc : va_W} (isC : List Nat) (hC : isC.map (fun i => ws[i]?) = wc.map some) : ∀ q, va_A wc H.size q → A q := va_free hw.2.1 hw.2.2 hc.2.2.2.2.2.2.2.2.2 isC hC
section RUN
variable {wc : va_W} {y : MethodName} {bytes : ByteArray} {maxL n index : Nat} {ret' : Option FieldType} {wds' wds'' : List Cond} {rm : Room} {Qc : Array Value → State → Outcome → State → Prop} {px : String → Prop} {b : Addr} {As : List Value}
theorem xrunV {ci : Nat} {fs : List Value} {q : vw_C} (hc : xC p s m args meth c cc nL own wds ret G A) (hw : xW G A s.heap ws H locs) (isC : List Nat) (hM : xM l y wds' rm G (.ref b :: As) wc H.size Qc)
    (hT : GoodIn wds (wsV own index q.1 y wds')) (hwd : wds' = Cond.code y bytes maxL ret' :: wds'')
    (hd : y.cls = q.1 ∧ y.cls ≠ "java/lang/invoke/MethodHandle" ∧ y.cls ≠ "java/lang/invoke/VarHandle" ∧ (parseMethodDescriptor y.desc).map (fun d => d.parameters.length) = some n) (hR : rm.frames + 1 ≤ R.frames ∧ 8 + (maxL + 11) + rm.locals ≤ R.locals)
    (k0 : Nat) (hcl : vwCl[ci]? = some q) (he : ws[k0]? = some (b, .inr (ci, fs))) (hnn : va_nd isC = true) (hC : isC.map (fun i => ws[i]?) = wc.map some) (hn : As.length = n) (hst0 : st0 = As.reverse ++ .ref b :: rest) (hl : ls.size = nL) (hst : (rest.map fun v => v.category).sum ≤ 8) (hdg : decode cc pc = .ok (.invokevirtual index, 3)) (hf : cells + rm.cells ≤ R.cells ∧ slots + rm.slots ≤ R.slots) :
    va_Run p l e R s m args below meth c H locs cells slots rm.cells rm.slots (F0 m pc ls st0) rest (Qc (Value.ref b :: As).toArray) (va_A wc H.size) := by
  subst hst0
  exact va_runV ⟨hc.1, hc.2.1, hc.2.2.1, hc.2.2.2.1, hc.2.2.2.2.1⟩ hM (cwV n hc.2.2.2.2.1 hT hwd rfl rfl hd hR) ⟨xPc_blind, va_recv hc.2.2.2.2.2.2.2.1.1 hw.1 hcl he, fun U hU hW => ⟨rfl, xPcOf hc hw isC hnn hC U hU hW⟩⟩ rfl hn hl rfl (lv_room hst) hdg hf
theorem xrunS (hc : xC p s m args meth c cc nL own wds ret G A) (hw : xW G A s.heap ws H locs) (isC : List Nat) (hM : xM l y wds' rm G As wc H.size Qc)
    (hT : GoodIn wds (va_wsS own index y wds')) (hwd : wds' = Cond.code y bytes maxL ret' :: wds'')
    (hd : y.cls ≠ "java/lang/invoke/MethodHandle" ∧ y.cls ≠ "java/lang/invoke/VarHandle" ∧ (parseMethodDescriptor y.desc).map (fun d => d.parameters.length) = some n) (hR : rm.frames + 1 ≤ R.frames ∧ 8 + (maxL + 11) + rm.locals ≤ R.locals)
    (hnn : va_nd isC = true) (hC : isC.map (fun i => ws[i]?) = wc.map some) (hn : As.length = n) (hst0 : st0 = As.reverse ++ rest) (hl : ls.size = nL) (hst : (rest.map fun v => v.category).sum ≤ 8) (hdg : decode cc pc = .ok (.invokestatic index, 3)) (hf : cells + rm.cells ≤ R.cells ∧ slots + rm.slots ≤ R.slots) :
    va_Run p l e R s m args below meth c H locs cells slots rm.cells rm.slots (F0 m pc ls st0) rest (Qc As.toArray) (va_A wc H.size) := by
  subst hst0
  exact va_runS ⟨hc.1, hc.2.1, hc.2.2.1, hc.2.2.2.1, hc.2.2.2.2.1⟩ hM (va_cwS n hc.2.2.2.2.1 hT hwd rfl rfl hd hR) ⟨xPc_blind, fun U hU hW => ⟨rfl, xPcOf hc hw isC hnn hC U hU hW⟩⟩ rfl hn hl rfl (lv_room hst) hdg hf
theorem xrunSN {host : String} (hc : xC p s m args meth c cc nL own wds ret G A) (hw : xW G A s.heap ws H locs) (isC : List Nat) (hM : xM l y wds' rm G As wc H.size Qc)
    (hT : GoodIn wds wds') (hlk : Cond.methodLinkNest own index y host ∈ xNest) (hini : Cond.initialized y.cls ∈ wds) (hsta : Cond.static y ∈ wds) (hwd : wds' = Cond.code y bytes maxL ret' :: wds'')
    (hd : y.cls ≠ "java/lang/invoke/MethodHandle" ∧ y.cls ≠ "java/lang/invoke/VarHandle" ∧ (parseMethodDescriptor y.desc).map (fun d => d.parameters.length) = some n) (hR : rm.frames + 1 ≤ R.frames ∧ 8 + (maxL + 11) + rm.locals ≤ R.locals)
    (hnn : va_nd isC = true) (hC : isC.map (fun i => ws[i]?) = wc.map some) (hn : As.length = n) (hst0 : st0 = As.reverse ++ rest) (hl : ls.size = nL) (hst : (rest.map fun v => v.category).sum ≤ 8) (hdg : decode cc pc = .ok (.invokestatic index, 3)) (hf : cells + rm.cells ≤ R.cells ∧ slots + rm.slots ≤ R.slots) :
    va_Run p l e R s m args below meth c H locs cells slots rm.cells rm.slots (F0 m pc ls st0) rest (Qc As.toArray) (va_A wc H.size) := by
  subst hst0
  exact va_runSN ⟨hc.1, hc.2.1, hc.2.2.1, hc.2.2.2.1, hc.2.2.2.2.1⟩ hM ⟨va_cnB n hc.2.2.2.2.1 hT hwd rfl rfl (hc.2.2.2.2.2.2.2.1.2.1 _ hlk) (hc.2.2.2.2.1 _ hini) hd hR, hc.2.2.2.2.1 _ hsta, trivial⟩ ⟨xPc_blind, fun U hU hW => ⟨rfl, xPcOf hc hw isC hnn hC U hU hW⟩⟩ rfl hn hl rfl (lv_room hst) hdg hf
theorem xrunI (hc : xC p s m args meth c cc nL own wds ret G A) (hw : xW G A s.heap ws H locs) (isC : List Nat) (hM : xM l y wds' rm G (.ref b :: As) wc H.size Qc)
    (hT : GoodIn wds wds') (hini : Cond.initialized y.cls ∈ wds) (hlk : Cond.methodLink own index y ∈ wds) (hin : Cond.instanceMethod y ∈ wds) (hy1 : y.name = "<init>") (hwd : wds' = Cond.code y bytes maxL none :: wds'')
    (hd : y.cls ≠ "java/lang/invoke/MethodHandle" ∧ y.cls ≠ "java/lang/invoke/VarHandle" ∧ (parseMethodDescriptor y.desc).map (fun d => d.parameters.length) = some n) (hR : rm.frames + 1 ≤ R.frames ∧ 8 + (maxL + 11) + rm.locals ≤ R.locals)
    (hnn : va_nd isC = true) (hC : isC.map (fun i => ws[i]?) = wc.map some) (hn : As.length = n) (hst0 : st0 = As.reverse ++ .ref b :: rest) (hl : ls.size = nL) (hst : (rest.map fun v => v.category).sum ≤ 8) (hdg : decode cc pc = .ok (.invokespecial index, 3)) (hf : cells + rm.cells ≤ R.cells ∧ slots + rm.slots ≤ R.slots) :
    va_Run p l e R s m args below meth c H locs cells slots rm.cells rm.slots (F0 m pc ls st0) rest (Qc (Value.ref b :: As).toArray) (va_A wc H.size) := by
  subst hst0
  exact va_runI ⟨hc.1, hc.2.1, hc.2.2.1, hc.2.2.2.1, hc.2.2.2.2.1⟩ hM (cwI n hc.2.2.2.2.1 hT hwd rfl rfl (hc.2.2.2.2.1 _ hini) (hc.2.2.2.2.1 _ hlk) (hc.2.2.2.2.1 _ hin) hy1 hd hR) ⟨xPc_blind, fun U hU hW => ⟨rfl, xPcOf hc hw isC hnn hC U hU hW⟩⟩ rfl hn hl rfl (lv_room hst) hdg hf
theorem xrunIN {host : String} (hc : xC p s m args meth c cc nL own wds ret G A) (hw : xW G A s.heap ws H locs) (isC : List Nat) (hM : xM l y wds' rm G (.ref b :: As) wc H.size Qc)
    (hT : GoodIn wds wds') (hlk : Cond.methodLinkNest own index y host ∈ xNest) (hini : Cond.initialized y.cls ∈ wds) (hin : Cond.instanceMethod y ∈ wds) (hy1 : y.name = "<init>") (hwd : wds' = Cond.code y bytes maxL none :: wds'')
    (hd : y.cls ≠ "java/lang/invoke/MethodHandle" ∧ y.cls ≠ "java/lang/invoke/VarHandle" ∧ (parseMethodDescriptor y.desc).map (fun d => d.parameters.length) = some n) (hR : rm.frames + 1 ≤ R.frames ∧ 8 + (maxL + 11) + rm.locals ≤ R.locals)
    (hnn : va_nd isC = true) (hC : isC.map (fun i => ws[i]?) = wc.map some) (hn : As.length = n) (hst0 : st0 = As.reverse ++ .ref b :: rest) (hl : ls.size = nL) (hst : (rest.map fun v => v.category).sum ≤ 8) (hdg : decode cc pc = .ok (.invokespecial index, 3)) (hf : cells + rm.cells ≤ R.cells ∧ slots + rm.slots ≤ R.slots) :
    va_Run p l e R s m args below meth c H locs cells slots rm.cells rm.slots (F0 m pc ls st0) rest (Qc (Value.ref b :: As).toArray) (va_A wc H.size) := by
  subst hst0
  exact va_runIN ⟨hc.1, hc.2.1, hc.2.2.1, hc.2.2.2.1, hc.2.2.2.2.1⟩ hM ⟨va_cnB n hc.2.2.2.2.1 hT hwd rfl rfl (hc.2.2.2.2.2.2.2.1.2.1 _ hlk) (hc.2.2.2.2.1 _ hini) hd hR, hy1, hc.2.2.2.2.1 _ hin⟩ ⟨xPc_blind, fun U hU hW => ⟨rfl, xPcOf hc hw isC hnn hC U hU hW⟩⟩ rfl hn hl rfl (lv_room hst) hdg hf
/-- a call of a method that returns or throws -/
theorem xrunVX {ci : Nat} {fs : List Value} {q : vw_C} (hc : xC p s m args meth c cc nL own wds ret G A) (hw : xW G A s.heap ws H locs) (isC : List Nat) (hM : xMX l y wds' rm G (.ref b :: As) wc H.size Qc px)
    (hT : GoodIn wds (wsV own index q.1 y wds')) (hwd : wds' = Cond.code y bytes maxL ret' :: wds'')
    (hd : y.cls = q.1 ∧ y.cls ≠ "java/lang/invoke/MethodHandle" ∧ y.cls ≠ "java/lang/invoke/VarHandle" ∧ (parseMethodDescriptor y.desc).map (fun d => d.parameters.length) = some n) (hR : rm.frames + 1 ≤ R.frames ∧ 8 + (maxL + 11) + rm.locals ≤ R.locals)
    (k0 : Nat) (hcl : vwCl[ci]? = some q) (he : ws[k0]? = some (b, .inr (ci, fs))) (hnn : va_nd isC = true) (hC : isC.map (fun i => ws[i]?) = wc.map some) (hn : As.length = n) (hst0 : st0 = As.reverse ++ .ref b :: rest) (hl : ls.size = nL) (hst : (rest.map fun v => v.category).sum ≤ 8) (hdg : decode cc pc = .ok (.invokevirtual index, 3)) (hf : cells + rm.cells ≤ R.cells ∧ slots + rm.slots ≤ R.slots) :
    vx_Run p l e R s m args below meth c H locs cells slots rm.cells rm.slots (F0 m pc ls st0) rest (Qc (Value.ref b :: As).toArray) (xX G wc H.size px) (va_A wc H.size) := by
  subst hst0
  exact vx_runV ⟨hc.1, hc.2.1, hc.2.2.1, hc.2.2.2.1, hc.2.2.2.2.1⟩ hM (cwV n hc.2.2.2.2.1 hT hwd rfl rfl hd hR) ⟨xPc_blind, va_recv hc.2.2.2.2.2.2.2.1.1 hw.1 hcl he, fun U hU hW => ⟨rfl, xPcOf hc hw isC hnn hC U hU hW⟩⟩ rfl hn hl rfl (lv_room hst) hdg hf
end RUN
section CALL
variable {S : Type} {wn w2 : S → va_W} {wc : va_W} {mc ms : Nat} {av : Array Value} {isC isR isP : List Nat} {px : String → Prop}
/-- behind a call: the caller's other cells beside the callee's, in the order that the caller wants -/
theorem xjoin (hw : xW G A s.heap ws H locs) (hF : ∀ q, va_A wc H.size q → A q) (hC : isC.map (fun i => ws[i]?) = wc.map some) (hnR : va_nd isR = true) (hlt : isR.all (fun i => decide (i < ws.length)) = true) (hdis : isR.all (fun i => decide (i ∉ isC)) = true) (hnP : va_nd isP = true) {wn1 w3 : va_W}
    (hP2 : isP.map (fun i => (isR.filterMap (fun i => ws[i]?) ++ wn1)[i]?) = w3.map some) {H1 : Heap} (hk : ∀ q : Nat, q < H.size → ¬ va_A wc H.size q → H1[q]? = H[q]?) (hP1 : va_P G.1 vwCl wn1 H1) (hD1 : va_D (va_A wc H.size) wn1) : va_P G.1 vwCl w3 H1 ∧ va_D A w3 := by
  obtain ⟨h1, h2⟩ := va_join (wr := isR.filterMap (fun i => ws[i]?)) (w1 := wn1) hw.1 hw.2.1 isC isR hC (xpick_lt hlt) hnR (fun i hi => by have := List.all_eq_true.mp hdis i hi; simpa using this) hk hF hP1 hD1
  exact ⟨h1.sub isP (xpick hP2), h2.sub isP hnP hP2⟩
theorem xcall_i {post : Int32 → S → Prop} (hc : xC p s m args meth c cc nL own wds ret G A) (hw : xW G A s.heap ws H locs)
    (hr : va_Run p l e R s m args below meth c H locs cells slots mc ms (F0 m pc ls st0) rest (xQi G wc H.size post wn av) (va_A wc H.size)) (hC : isC.map (fun i => ws[i]?) = wc.map some) (isR isP : List Nat) (w2 : S → va_W) (hP2 : ∀ u, isP.map (fun i => (isR.filterMap (fun i => ws[i]?) ++ wn u)[i]?) = (w2 u).map some)
    (hnR : va_nd isR = true) (hlt : isR.all (fun i => decide (i < ws.length)) = true) (hdis : isR.all (fun i => decide (i ∉ isC)) = true) (hnP : va_nd isP = true)
    (kk : ∀ (r : Int32) (u : S) (H1 : Heap) (locs1 : List Loc), post r u → xW G A s.heap (w2 u) H1 locs1 → W p l e R s m args below meth c H1 locs1 (cells + mc) (slots + ms) Q (F0 m (pc + 3) ls (.int r :: rest))) : W p l e R s m args below meth c H locs cells slots Q (F0 m pc ls st0) := by
  have hF := xsz hc hw isC hC
  refine va_calli hr hw.2.2 (fun q _ h => hF q h) hF (fun r u t H1 locs1 ht hvm hp hB hz hk hS => ?_)
  obtain ⟨hP1, hD1⟩ := hB
  rw [ht] at hP1
  obtain ⟨g1, g2⟩ := xjoin hw hF hC hnR hlt hdis hnP (hP2 u) hk hP1 hD1
  exact kk r u H1 locs1 hp ⟨g1, g2, hS⟩
theorem xcall_l {post : Int64 → S → Prop} (hc : xC p s m args meth c cc nL own wds ret G A) (hw : xW G A s.heap ws H locs)
    (hr : va_Run p l e R s m args below meth c H locs cells slots mc ms (F0 m pc ls st0) rest (xQl G wc H.size post wn av) (va_A wc H.size)) (hC : isC.map (fun i => ws[i]?) = wc.map some) (isR isP : List Nat) (w2 : S → va_W) (hP2 : ∀ u, isP.map (fun i => (isR.filterMap (fun i => ws[i]?) ++ wn u)[i]?) = (w2 u).map some)
    (hnR : va_nd isR = true) (hlt : isR.all (fun i => decide (i < ws.length)) = true) (hdis : isR.all (fun i => decide (i ∉ isC)) = true) (hnP : va_nd isP = true)
    (kk : ∀ (r : Int64) (u : S) (H1 : Heap) (locs1 : List Loc), post r u → xW G A s.heap (w2 u) H1 locs1 → W p l e R s m args below meth c H1 locs1 (cells + mc) (slots + ms) Q (F0 m (pc + 3) ls (.long r :: rest))) : W p l e R s m args below meth c H locs cells slots Q (F0 m pc ls st0) := by
  have hF := xsz hc hw isC hC
  refine va_calll hr hw.2.2 (fun q _ h => hF q h) hF (fun r u t H1 locs1 ht hvm hp hB hz hk hS => ?_)
  obtain ⟨hP1, hD1⟩ := hB
  rw [ht] at hP1
  obtain ⟨g1, g2⟩ := xjoin hw hF hC hnR hlt hdis hnP (hP2 u) hk hP1 hD1
  exact kk r u H1 locs1 hp ⟨g1, g2, hS⟩
theorem xcall_v {post : S → Prop} (hc : xC p s m args meth c cc nL own wds ret G A) (hw : xW G A s.heap ws H locs)
    (hr : va_Run p l e R s m args below meth c H locs cells slots mc ms (F0 m pc ls st0) rest (xQv G wc H.size post wn av) (va_A wc H.size)) (hC : isC.map (fun i => ws[i]?) = wc.map some) (isR isP : List Nat) (w2 : S → va_W) (hP2 : ∀ u, isP.map (fun i => (isR.filterMap (fun i => ws[i]?) ++ wn u)[i]?) = (w2 u).map some)
    (hnR : va_nd isR = true) (hlt : isR.all (fun i => decide (i < ws.length)) = true) (hdis : isR.all (fun i => decide (i ∉ isC)) = true) (hnP : va_nd isP = true)
    (kk : ∀ (u : S) (H1 : Heap) (locs1 : List Loc), post u → xW G A s.heap (w2 u) H1 locs1 → W p l e R s m args below meth c H1 locs1 (cells + mc) (slots + ms) Q (F0 m (pc + 3) ls rest)) : W p l e R s m args below meth c H locs cells slots Q (F0 m pc ls st0) := by
  have hF := xsz hc hw isC hC
  refine va_callv hr hw.2.2 (fun q _ h => hF q h) hF (fun u t H1 locs1 ht hvm hp hB hz hk hS => ?_)
  obtain ⟨hP1, hD1⟩ := hB
  rw [ht] at hP1
  obtain ⟨g1, g2⟩ := xjoin hw hF hC hnR hlt hdis hnP (hP2 u) hk hP1 hD1
  exact kk u H1 locs1 hp ⟨g1, g2, hS⟩
/-- a call of a method that may throw: its throw goes on with the world as it was (w3) -/
theorem xcallX_i {post : Int32 → S → Prop} (hc : xC p s m args meth c cc nL own wds ret G A) (hw : xW G A s.heap ws H locs)
    (hr : vx_Run p l e R s m args below meth c H locs cells slots mc ms (F0 m pc ls st0) rest (xQi G wc H.size post wn av) (xX G wc H.size px) (va_A wc H.size)) (hC : isC.map (fun i => ws[i]?) = wc.map some) (isR isP isX : List Nat) (w2 : S → va_W) (hP2 : ∀ u, isP.map (fun i => (isR.filterMap (fun i => ws[i]?) ++ wn u)[i]?) = (w2 u).map some) (hPX : isX.map (fun i => (isR.filterMap (fun i => ws[i]?) ++ wc)[i]?) = ws.map some)
    (hnR : va_nd isR = true) (hlt : isR.all (fun i => decide (i < ws.length)) = true) (hdis : isR.all (fun i => decide (i ∉ isC)) = true) (hnP : va_nd isP = true) (hnX : va_nd isX = true)
    (kx : ∀ (E : String) (ce : Cell) (q9 : Addr) (H1 : Heap) (locs1 : List Loc), px E → xW G A s.heap ws H1 locs1 → H1[q9]? = some ce → ce.vm = .none → s.vm.findClass E = some ce.cls → vx_W p l e R s m args below meth c H1 locs1 (cells + mc) (slots + ms) Q (F0 m pc ls rest) q9)
    (kk : ∀ (r : Int32) (u : S) (H1 : Heap) (locs1 : List Loc), post r u → xW G A s.heap (w2 u) H1 locs1 → W p l e R s m args below meth c H1 locs1 (cells + mc) (slots + ms) Q (F0 m (pc + 3) ls (.int r :: rest))) : W p l e R s m args below meth c H locs cells slots Q (F0 m pc ls st0) := by
  have hF := xsz hc hw isC hC
  refine vx_calli hr hw.2.2 (fun q _ h => hF q h) hF (fun q _ h => hF q h) (fun E ce q9 u t H1 locs1 ht hvm _ hB hz hk hS h9 hv9 hc9 => ?_) (fun r u t H1 locs1 ht hvm hp hB hz hk hS => ?_)
  · obtain ⟨hpx, hP1, hD1⟩ := hB
    rw [ht] at hP1
    obtain ⟨g1, g2⟩ := xjoin hw hF hC hnR hlt hdis hnX hPX hk hP1 hD1
    exact kx E ce q9 H1 locs1 hpx ⟨g1, g2, hS⟩ h9 hv9 hc9
  · obtain ⟨hP1, hD1⟩ := hB
    rw [ht] at hP1
    obtain ⟨g1, g2⟩ := xjoin hw hF hC hnR hlt hdis hnP (hP2 u) hk hP1 hD1
    exact kk r u H1 locs1 hp ⟨g1, g2, hS⟩
theorem xcallX_v {post : S → Prop} (hc : xC p s m args meth c cc nL own wds ret G A) (hw : xW G A s.heap ws H locs)
    (hr : vx_Run p l e R s m args below meth c H locs cells slots mc ms (F0 m pc ls st0) rest (xQv G wc H.size post wn av) (xX G wc H.size px) (va_A wc H.size)) (hC : isC.map (fun i => ws[i]?) = wc.map some) (isR isP isX : List Nat) (w2 : S → va_W) (hP2 : ∀ u, isP.map (fun i => (isR.filterMap (fun i => ws[i]?) ++ wn u)[i]?) = (w2 u).map some) (hPX : isX.map (fun i => (isR.filterMap (fun i => ws[i]?) ++ wc)[i]?) = ws.map some)
    (hnR : va_nd isR = true) (hlt : isR.all (fun i => decide (i < ws.length)) = true) (hdis : isR.all (fun i => decide (i ∉ isC)) = true) (hnP : va_nd isP = true) (hnX : va_nd isX = true)
    (kx : ∀ (E : String) (ce : Cell) (q9 : Addr) (H1 : Heap) (locs1 : List Loc), px E → xW G A s.heap ws H1 locs1 → H1[q9]? = some ce → ce.vm = .none → s.vm.findClass E = some ce.cls → vx_W p l e R s m args below meth c H1 locs1 (cells + mc) (slots + ms) Q (F0 m pc ls rest) q9)
    (kk : ∀ (u : S) (H1 : Heap) (locs1 : List Loc), post u → xW G A s.heap (w2 u) H1 locs1 → W p l e R s m args below meth c H1 locs1 (cells + mc) (slots + ms) Q (F0 m (pc + 3) ls rest)) : W p l e R s m args below meth c H locs cells slots Q (F0 m pc ls st0) := by
  have hF := xsz hc hw isC hC
  refine vx_callv hr hw.2.2 (fun q _ h => hF q h) hF (fun q _ h => hF q h) (fun E ce q9 u t H1 locs1 ht hvm _ hB hz hk hS h9 hv9 hc9 => ?_) (fun u t H1 locs1 ht hvm hp hB hz hk hS => ?_)
  · obtain ⟨hpx, hP1, hD1⟩ := hB
    rw [ht] at hP1
    obtain ⟨g1, g2⟩ := xjoin hw hF hC hnR hlt hdis hnX hPX hk hP1 hD1
    exact kx E ce q9 H1 locs1 hpx ⟨g1, g2, hS⟩ h9 hv9 hc9
  · obtain ⟨hP1, hD1⟩ := hB
    rw [ht] at hP1
    obtain ⟨g1, g2⟩ := xjoin hw hF hC hnR hlt hdis hnP (hP2 u) hk hP1 hD1
    exact kk u H1 locs1 hp ⟨g1, g2, hS⟩
end CALL
section END
variable {S : Type} {wn : S → va_W} {w0 : va_W} {sz mc ms : Nat} {px : String → Prop}
theorem xret_i {post : Int32 → S → Prop} {r : Int32} (u : S) (hc : xC p s m args meth c cc nL own wds (some .int) G (va_A w0 sz)) (hw : xW G (va_A w0 sz) s.heap (wn u) H locs) (hp : post r u) (hm : cells ≤ mc ∧ slots ≤ ms) (hdg : decode cc pc = .ok (.ireturn, 1)) :
    W p l e R s m args below meth c H locs cells slots (MQ below (xQi G w0 sz post wn) args s mc ms (va_A w0 sz)) (F0 m pc ls [.int r]) :=
  W.widen hm.1 hm.2 (W.iret hc.1 hc.2.1 hc.2.2.2.2.2.1 (fun t ht hW => ⟨⟨r, u, rfl, hp, by rw [ht]; exact hw.1, hw.2.1⟩, hw.2.2.F ht⟩) hw.2.2.2.2 hdg hc.2.2.2.2.2.2.1)
theorem xret_z {post : Int32 → S → Prop} {r : Int32} (u : S) (hc : xC p s m args meth c cc nL own wds (some .boolean) G (va_A w0 sz)) (hw : xW G (va_A w0 sz) s.heap (wn u) H locs) (hz : narrow .boolean (.int r) = .int r) (hp : post r u) (hm : cells ≤ mc ∧ slots ≤ ms) (hdg : decode cc pc = .ok (.ireturn, 1)) :
    W p l e R s m args below meth c H locs cells slots (MQ below (xQi G w0 sz post wn) args s mc ms (va_A w0 sz)) (F0 m pc ls [.int r]) :=
  W.widen hm.1 hm.2 (W.zret hc.1 hc.2.1 hc.2.2.2.2.2.1 hz (fun t ht hW => ⟨⟨r, u, rfl, hp, by rw [ht]; exact hw.1, hw.2.1⟩, hw.2.2.F ht⟩) hw.2.2.2.2 hdg hc.2.2.2.2.2.2.1)
theorem xret_l {post : Int64 → S → Prop} {r : Int64} (u : S) (hc : xC p s m args meth c cc nL own wds (some .long) G (va_A w0 sz)) (hw : xW G (va_A w0 sz) s.heap (wn u) H locs) (hp : post r u) (hm : cells ≤ mc ∧ slots ≤ ms) (hdg : decode cc pc = .ok (.lreturn, 1)) :
    W p l e R s m args below meth c H locs cells slots (MQ below (xQl G w0 sz post wn) args s mc ms (va_A w0 sz)) (F0 m pc ls [.long r]) :=
  W.widen hm.1 hm.2 (W.lret hc.1 hc.2.1 hc.2.2.2.2.2.1 (fun t ht hW => ⟨⟨r, u, rfl, hp, by rw [ht]; exact hw.1, hw.2.1⟩, hw.2.2.F ht⟩) hw.2.2.2.2 hdg hc.2.2.2.2.2.2.1)
theorem xret_v {post : S → Prop} (u : S) (hc : xC p s m args meth c cc nL own wds none G (va_A w0 sz)) (hw : xW G (va_A w0 sz) s.heap (wn u) H locs) (hp : post u) (hm : cells ≤ mc ∧ slots ≤ ms) (hdg : decode cc pc = .ok (.return_, 1)) :
    W p l e R s m args below meth c H locs cells slots (MQ below (xQv G w0 sz post wn) args s mc ms (va_A w0 sz)) (F0 m pc ls []) :=
  W.widen hm.1 hm.2 (W.vret hc.1 hc.2.1 hc.2.2.2.2.2.1 (fun t ht hW => ⟨⟨u, rfl, hp, by rw [ht]; exact hw.1, hw.2.1⟩, hw.2.2.F ht⟩) hw.2.2.2.2 hdg hc.2.2.2.2.2.2.1)
/-- a throw that isn't caught here goes on -/
theorem xout {Qc : Array Value → State → Outcome → State → Prop} {E : String} {ce : Cell} {q9 : Addr} (hc : xC p s m args meth c cc nL own wds ret G (va_A w0 sz)) (hex : ∀ x ∈ c.exceptionTable.toList, False) (hw : xW G (va_A w0 sz) s.heap w0 H locs) (hpx : px E) (h9 : H[q9]? = some ce) (hv : ce.vm = .none) (hcl : s.vm.findClass E = some ce.cls) (hm : cells ≤ mc ∧ slots ≤ ms) :
    vx_W p l e R s m args below meth c H locs cells slots (vx_MQ below Qc (xX G w0 sz px) args s mc ms (va_A w0 sz)) (F0 m pc ls rest) q9 :=
  vx_out (fun x hx => (hex x hx).elim) hc.2.2.2.2.2.2.1 h9 hv hcl (fun t ht hvm => ⟨(), trivial, ⟨hpx, by rw [ht]; exact hw.1, hw.2.1⟩, hw.2.2.F ht⟩) hw.2.2.2.2 hm.1 hm.2
end END
section ROW
variable {a : Nat} {D : va_G}
theorem xget {C : String} {T : u_T} {N ci index : Nat} {fs : List Value} {v : Value} (hc : xC p s m args meth c cc nL own wds ret G A) (hw : xW G A s.heap ws H locs) (hin : ∀ w ∈ u_ws C T N, w ∈ wds) (q0 : Nat) (he : ws[q0]? = some (a, .inr (ci, fs))) (hcl : vwCl[ci]? = some (C, T, N)) (k : Nat) (hk : k < N) {ref : String} (hlink : Cond.fieldLink own index ref (T k).2.1 (T k).2.2.1 ∈ wds) (hdecl : (T k).1 = ref) (hv : fs[k]? = some v) (hdg : decode cc pc = .ok (.getfield index, 3))
    (kk : W p l e R s m args below meth c H locs cells slots Q (F0 m (pc + 3) ls (v :: rest))) : W p l e R s m args below meth c H locs cells slots Q (F0 m pc ls (.ref a :: rest)) :=
  va_get hc.1 hc.2.1 hc.2.2.2.2.1 hin hc.2.2.2.1 hc.2.2.2.2.2.2.2.1.1 hw.1 q0 he hcl k hk (hc.2.2.2.2.1 _ hlink) (fun x h => by rw [← hdecl]; exact h) hv hdg kk
theorem xgetN {C host : String} {T : u_T} {N ci index : Nat} {fs : List Value} {v : Value} (hc : xC p s m args meth c cc nL own wds ret G A) (hw : xW G A s.heap ws H locs) (hin : ∀ w ∈ u_ws C T N, w ∈ wds) (q0 : Nat) (he : ws[q0]? = some (a, .inr (ci, fs))) (hcl : vwCl[ci]? = some (C, T, N)) (k : Nat) (hk : k < N) {ref : String} (hlink : Cond.fieldLinkNest own index ref (T k).2.1 (T k).2.2.1 host ∈ xNest) (hdecl : (T k).1 = ref) (hv : fs[k]? = some v) (hdg : decode cc pc = .ok (.getfield index, 3))
    (kk : W p l e R s m args below meth c H locs cells slots Q (F0 m (pc + 3) ls (v :: rest))) : W p l e R s m args below meth c H locs cells slots Q (F0 m pc ls (.ref a :: rest)) :=
  va_getN hc.1 hc.2.1 hc.2.2.2.2.1 hin hc.2.2.2.1 hc.2.2.2.2.2.2.2.1.1 hw.1 q0 he hcl k hk ((hc.2.2.2.2.2.2.2.1.2.1 _ hlink).use rfl) (fun x h => by rw [← hdecl]; exact h) hv hdg kk
theorem xput {C : String} {T : u_T} {N ci index : Nat} {fs : List Value} {v : Value} {ty : FieldType} (hc : xC p s m args meth c cc nL own wds ret G A) (hw : xW G A s.heap ws H locs) (hin : ∀ w ∈ u_ws C T N, w ∈ wds) (ty0 : Nat → FieldType) (hty : ∀ k, k < N → parseFieldDescriptor (T k).2.2.1 = some (ty0 k)) (hnm : ∀ a, a < N → ∀ b, b < N → a ≠ b → (T a).2.1 ≠ (T b).2.1) (q0 : Nat) (w2 : va_W) (he : ws[q0]? = some (a, .inr (ci, fs))) (hcl : vwCl[ci]? = some (C, T, N)) (k : Nat) (hk : k < N) {ref : String} (hlink : Cond.fieldLink own index ref (T k).2.1 (T k).2.2.1 ∈ wds) (hdecl : (T k).1 = ref) (hfin : (T k).2.2.2 = false) (hn : narrow (ty0 k) v = v) (hfit : fits (ty0 k) v = true) (hl : k < fs.length) (h2 : ws.set q0 (a, .inr (ci, fs.set k v)) = w2) (hdg : decode cc pc = .ok (.putfield index, 3))
    (kk : ∀ (H1 : Heap) (locs1 : List Loc), xW G A s.heap w2 H1 locs1 → W p l e R s m args below meth c H1 locs1 cells slots Q (F0 m (pc + 3) ls rest)) : W p l e R s m args below meth c H locs cells slots Q (F0 m pc ls (v :: .ref a :: rest)) := by
  subst h2
  exact va_put hc.1 hc.2.1 hc.2.2.2.2.1 hin ty0 hty hnm hc.2.2.2.1 hc.2.2.2.2.2.2.2.1.1 hw.1 hw.2.1 hw.2.2 q0 he hcl k hk (hc.2.2.2.2.1 _ hlink) (fun x h => by rw [← hdecl]; exact h) hfin (hty k hk) hn hfit hl hdg (fun H1 locs1 h1 h2 h3 => kk H1 locs1 ⟨h1, h2, h3⟩)
theorem xputN {C host : String} {T : u_T} {N ci index : Nat} {fs : List Value} {v : Value} {ty : FieldType} (hc : xC p s m args meth c cc nL own wds ret G A) (hw : xW G A s.heap ws H locs) (hin : ∀ w ∈ u_ws C T N, w ∈ wds) (ty0 : Nat → FieldType) (hty : ∀ k, k < N → parseFieldDescriptor (T k).2.2.1 = some (ty0 k)) (hnm : ∀ a, a < N → ∀ b, b < N → a ≠ b → (T a).2.1 ≠ (T b).2.1) (q0 : Nat) (w2 : va_W) (he : ws[q0]? = some (a, .inr (ci, fs))) (hcl : vwCl[ci]? = some (C, T, N)) (k : Nat) (hk : k < N) {ref : String} (hlink : Cond.fieldLinkNest own index ref (T k).2.1 (T k).2.2.1 host ∈ xNest) (hdecl : (T k).1 = ref) (hfin : (T k).2.2.2 = false) (hn : narrow (ty0 k) v = v) (hfit : fits (ty0 k) v = true) (hl : k < fs.length) (h2 : ws.set q0 (a, .inr (ci, fs.set k v)) = w2) (hdg : decode cc pc = .ok (.putfield index, 3))
    (kk : ∀ (H1 : Heap) (locs1 : List Loc), xW G A s.heap w2 H1 locs1 → W p l e R s m args below meth c H1 locs1 cells slots Q (F0 m (pc + 3) ls rest)) : W p l e R s m args below meth c H locs cells slots Q (F0 m pc ls (v :: .ref a :: rest)) := by
  subst h2
  exact va_putN hc.1 hc.2.1 hc.2.2.2.2.1 hin ty0 hty hnm hc.2.2.2.1 hc.2.2.2.2.2.2.2.1.1 hw.1 hw.2.1 hw.2.2 q0 he hcl k hk ((hc.2.2.2.2.2.2.2.1.2.1 _ hlink).use rfl) (fun x h => by rw [← hdecl]; exact h) hfin (hty k hk) hn hfit hl hdg (fun H1 locs1 h1 h2 h3 => kk H1 locs1 ⟨h1, h2, h3⟩)
theorem xputF {C : String} {T : u_T} {N ci index : Nat} {fs : List Value} {v : Value} {ty : FieldType} (hc : xC p s m args meth c cc nL own wds ret G A) (hw : xW G A s.heap ws H locs) (hin : ∀ w ∈ u_ws C T N, w ∈ wds) (ty0 : Nat → FieldType) (hty : ∀ k, k < N → parseFieldDescriptor (T k).2.2.1 = some (ty0 k)) (hnm : ∀ a, a < N → ∀ b, b < N → a ≠ b → (T a).2.1 ≠ (T b).2.1) (q0 : Nat) (w2 : va_W) (he : ws[q0]? = some (a, .inr (ci, fs))) (hcl : vwCl[ci]? = some (C, T, N)) (k : Nat) (hk : k < N) {ref : String} (hlink : Cond.fieldLink own index ref (T k).2.1 (T k).2.2.1 ∈ wds) (hdecl : (T k).1 = ref) (hfin : (T k).2.2.2 = true) (hin2 : meth.name = "<init>") (hdecl2 : (T k).1 = own) (hn : narrow (ty0 k) v = v) (hfit : fits (ty0 k) v = true) (hl : k < fs.length) (h2 : ws.set q0 (a, .inr (ci, fs.set k v)) = w2) (hdg : decode cc pc = .ok (.putfield index, 3))
    (kk : ∀ (H1 : Heap) (locs1 : List Loc), xW G A s.heap w2 H1 locs1 → W p l e R s m args below meth c H1 locs1 cells slots Q (F0 m (pc + 3) ls rest)) : W p l e R s m args below meth c H locs cells slots Q (F0 m pc ls (v :: .ref a :: rest)) := by
  subst h2
  exact va_putF hc.1 hc.2.1 hc.2.2.2.2.1 hin ty0 hty hnm hc.2.2.2.1 hc.2.2.2.2.2.2.2.1.1 hw.1 hw.2.1 hw.2.2 q0 he hcl k hk (hc.2.2.2.2.1 _ hlink) (fun x h => by rw [← hdecl]; exact h) hfin hin2 hdecl2 (hty k hk) hn hfit hl hdg (fun H1 locs1 h1 h2 h3 => kk H1 locs1 ⟨h1, h2, h3⟩)
theorem xiald (hc : xC p s m args meth c cc nL own wds ret G A) (hw : xW G A s.heap ws H locs) (q0 : Nat) {n : Nat} {f : Nat → Int32} {i : Int32} (ha : ws[q0]? = some (a, .inl (G.2.1.1, n, .inl f))) (hin : vp_in i n) (hdg : decode cc pc = .ok (.iaload, 1))
    (kk : W p l e R s m args below meth c H locs cells slots Q (F0 m (pc + 1) ls (.int (f i.toNatClampNeg) :: rest))) : W p l e R s m args below meth c H locs cells slots Q (F0 m pc ls (.int i :: .ref a :: rest)) :=
  va_iald hc.1 hc.2.1 hc.2.2.2.2.2.2.2.1.1 hw.1 q0 0 ha rfl hin hdg kk
theorem xzald (hc : xC p s m args meth c cc nL own wds ret G A) (hw : xW G A s.heap ws H locs) (q0 : Nat) {n : Nat} {f : Nat → Int32} {i : Int32} (ha : ws[q0]? = some (a, .inl (G.2.1.2.1, n, .inl f))) (hin : vp_in i n) (hdg : decode cc pc = .ok (.baload, 1))
    (kk : W p l e R s m args below meth c H locs cells slots Q (F0 m (pc + 1) ls (.int (f i.toNatClampNeg) :: rest))) : W p l e R s m args below meth c H locs cells slots Q (F0 m pc ls (.int i :: .ref a :: rest)) :=
  va_zald hc.1 hc.2.1 hc.2.2.2.2.2.2.2.1.1 hw.1 q0 1 ha rfl hin hdg kk
theorem xiast (hc : xC p s m args meth c cc nL own wds ret G A) (hw : xW G A s.heap ws H locs) (q0 : Nat) (w2 : va_W) {n : Nat} {f : Nat → Int32} {i x : Int32} (ha : ws[q0]? = some (a, .inl (G.2.1.1, n, .inl f))) (hin : vp_in i n) (h2 : ws.set q0 (a, .inl (G.2.1.1, n, .inl (upd f i.toNatClampNeg x))) = w2) (hdg : decode cc pc = .ok (.iastore, 1))
    (kk : ∀ (H1 : Heap) (locs1 : List Loc), xW G A s.heap w2 H1 locs1 → W p l e R s m args below meth c H1 locs1 cells slots Q (F0 m (pc + 1) ls rest)) : W p l e R s m args below meth c H locs cells slots Q (F0 m pc ls (.int x :: .int i :: .ref a :: rest)) := by
  subst h2
  exact va_iast hc.1 hc.2.1 hc.2.2.2.2.2.2.2.1.1 hw.1 hw.2.1 hw.2.2 q0 0 ha rfl hin hdg (fun H1 locs1 h1 h2 h3 => kk H1 locs1 ⟨h1, h2, h3⟩)
theorem xzast (hc : xC p s m args meth c cc nL own wds ret G A) (hw : xW G A s.heap ws H locs) (q0 : Nat) (w2 : va_W) {n : Nat} {f : Nat → Int32} {i x : Int32} (ha : ws[q0]? = some (a, .inl (G.2.1.2.1, n, .inl f))) (hin : vp_in i n) (hx : vp_nar .boolean x = x) (h2 : ws.set q0 (a, .inl (G.2.1.2.1, n, .inl (upd f i.toNatClampNeg x))) = w2) (hdg : decode cc pc = .ok (.bastore, 1))
    (kk : ∀ (H1 : Heap) (locs1 : List Loc), xW G A s.heap w2 H1 locs1 → W p l e R s m args below meth c H1 locs1 cells slots Q (F0 m (pc + 1) ls rest)) : W p l e R s m args below meth c H locs cells slots Q (F0 m pc ls (.int x :: .int i :: .ref a :: rest)) := by
  subst h2
  refine va_zast hc.1 hc.2.1 hc.2.2.2.2.2.2.2.1.1 hw.1 hw.2.1 hw.2.2 q0 1 ha rfl hin hdg (fun H1 locs1 h1 h2 h3 => ?_)
  rw [hx] at h1 h2
  exact kk H1 locs1 ⟨h1, h2, h3⟩
theorem xalenI (hc : xC p s m args meth c cc nL own wds ret G A) (hw : xW G A s.heap ws H locs) (q0 : Nat) {x : vp_A} {v : Int32} (ha : ws[q0]? = some (a, .inl (G.2.1.1, x))) (hv : Int32.ofNat x.1 = v) (hdg : decode cc pc = .ok (.arraylength, 1))
    (kk : W p l e R s m args below meth c H locs cells slots Q (F0 m (pc + 1) ls (.int v :: rest))) : W p l e R s m args below meth c H locs cells slots Q (F0 m pc ls (.ref a :: rest)) :=
  va_alen hc.1 hc.2.1 hc.2.2.2.2.2.2.2.1.1 hw.1 q0 0 ha (ty := .int) rfl hv hdg kk
theorem xalenZ (hc : xC p s m args meth c cc nL own wds ret G A) (hw : xW G A s.heap ws H locs) (q0 : Nat) {x : vp_A} {v : Int32} (ha : ws[q0]? = some (a, .inl (G.2.1.2.1, x))) (hv : Int32.ofNat x.1 = v) (hdg : decode cc pc = .ok (.arraylength, 1))
    (kk : W p l e R s m args below meth c H locs cells slots Q (F0 m (pc + 1) ls (.int v :: rest))) : W p l e R s m args below meth c H locs cells slots Q (F0 m pc ls (.ref a :: rest)) :=
  va_alen hc.1 hc.2.1 hc.2.2.2.2.2.2.2.1.1 hw.1 q0 1 ha (ty := .boolean) rfl hv hdg kk
end ROW
end XR
