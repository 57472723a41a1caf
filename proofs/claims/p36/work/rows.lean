section
-- ===== PART A: goes FIRST, ahead of the names: the tables' words, and 'selects' of the private methods out of them =====
/-- a private method of a class that the tables say can be made, by its rows of tables_1 -/
def lw_okq (q : MethodName × Nat) : Prop := (q.1.cls ≠ "java/lang/invoke/MethodHandle" ∧ q.1.cls ≠ "java/lang/invoke/VarHandle") ∧ Cond.instantiable q.1.cls q.2 ∈ tables_1 ∧ Cond.privateMethod q.1 ∈ tables_1 ∧ Cond.instanceMethod q.1 ∈ tables_1
theorem lw_p0 : lw_okq (⟨"MapCarrier", "checkPlace", "(I)V"⟩, 3) := ⟨⟨by decide +kernel, by decide +kernel⟩, List.mem_of_getElem? (i := 16) (by decide +kernel), List.mem_of_getElem? (i := 151) (by decide +kernel), List.mem_of_getElem? (i := 152) (by decide +kernel)⟩
theorem lw_p1 : lw_okq (⟨"java/lang/Throwable", "fillInStackTrace", "(I)Ljava/lang/Throwable;"⟩, 6) := ⟨⟨by decide +kernel, by decide +kernel⟩, List.mem_of_getElem? (i := 197) (by decide +kernel), List.mem_of_getElem? (i := 195) (by decide +kernel), List.mem_of_getElem? (i := 196) (by decide +kernel)⟩
theorem lw_p2 : lw_okq (⟨"MapCarrier", "checkIdle", "()V"⟩, 3) := ⟨⟨by decide +kernel, by decide +kernel⟩, List.mem_of_getElem? (i := 16) (by decide +kernel), List.mem_of_getElem? (i := 231) (by decide +kernel), List.mem_of_getElem? (i := 232) (by decide +kernel)⟩
theorem lw_p3 : lw_okq (⟨"MapCarrier$Land", "measure", "(I)V"⟩, 8) := ⟨⟨by decide +kernel, by decide +kernel⟩, List.mem_of_getElem? (i := 24) (by decide +kernel), List.mem_of_getElem? (i := 259) (by decide +kernel), List.mem_of_getElem? (i := 260) (by decide +kernel)⟩
theorem lw_p4 : lw_okq (⟨"MapCarrier$Land", "milesBy", "(I)I"⟩, 8) := ⟨⟨by decide +kernel, by decide +kernel⟩, List.mem_of_getElem? (i := 24) (by decide +kernel), List.mem_of_getElem? (i := 268) (by decide +kernel), List.mem_of_getElem? (i := 269) (by decide +kernel)⟩
theorem lw_p5 : lw_okq (⟨"MapCarrier", "checkRange", "(II)V"⟩, 3) := ⟨⟨by decide +kernel, by decide +kernel⟩, List.mem_of_getElem? (i := 16) (by decide +kernel), List.mem_of_getElem? (i := 290) (by decide +kernel), List.mem_of_getElem? (i := 291) (by decide +kernel)⟩
theorem lw_p6 : lw_okq (⟨"MapCarrier", "checkUnderway", "()V"⟩, 3) := ⟨⟨by decide +kernel, by decide +kernel⟩, List.mem_of_getElem? (i := 16) (by decide +kernel), List.mem_of_getElem? (i := 310) (by decide +kernel), List.mem_of_getElem? (i := 311) (by decide +kernel)⟩
theorem lw_p7 : lw_okq (⟨"MapCarrier$Carrier", "rememberedEnd", "()I"⟩, 15) := ⟨⟨by decide +kernel, by decide +kernel⟩, List.mem_of_getElem? (i := 62) (by decide +kernel), List.mem_of_getElem? (i := 319) (by decide +kernel), List.mem_of_getElem? (i := 320) (by decide +kernel)⟩
theorem lw_p8 : lw_okq (⟨"MapCarrier$Carrier", "canTake", "(I)Z"⟩, 15) := ⟨⟨by decide +kernel, by decide +kernel⟩, List.mem_of_getElem? (i := 62) (by decide +kernel), List.mem_of_getElem? (i := 334) (by decide +kernel), List.mem_of_getElem? (i := 335) (by decide +kernel)⟩
theorem lw_p9 : lw_okq (⟨"MapCarrier$Carrier", "askedEnd", "()I"⟩, 15) := ⟨⟨by decide +kernel, by decide +kernel⟩, List.mem_of_getElem? (i := 62) (by decide +kernel), List.mem_of_getElem? (i := 341) (by decide +kernel), List.mem_of_getElem? (i := 342) (by decide +kernel)⟩
theorem lw_p10 : lw_okq (⟨"MapCarrier$Carrier", "firstUntried", "()I"⟩, 15) := ⟨⟨by decide +kernel, by decide +kernel⟩, List.mem_of_getElem? (i := 62) (by decide +kernel), List.mem_of_getElem? (i := 357) (by decide +kernel), List.mem_of_getElem? (i := 358) (by decide +kernel)⟩
theorem lw_p11 : lw_okq (⟨"MapCarrier$Carrier", "take", "(I)V"⟩, 15) := ⟨⟨by decide +kernel, by decide +kernel⟩, List.mem_of_getElem? (i := 62) (by decide +kernel), List.mem_of_getElem? (i := 361) (by decide +kernel), List.mem_of_getElem? (i := 362) (by decide +kernel)⟩
theorem lw_p12 : lw_okq (⟨"MapCarrier$Carrier", "doubleBack", "()V"⟩, 15) := ⟨⟨by decide +kernel, by decide +kernel⟩, List.mem_of_getElem? (i := 62) (by decide +kernel), List.mem_of_getElem? (i := 375) (by decide +kernel), List.mem_of_getElem? (i := 376) (by decide +kernel)⟩
theorem lw_p13 : lw_okq (⟨"MapCarrier$Carrier", "rememberWay", "()V"⟩, 15) := ⟨⟨by decide +kernel, by decide +kernel⟩, List.mem_of_getElem? (i := 62) (by decide +kernel), List.mem_of_getElem? (i := 379) (by decide +kernel), List.mem_of_getElem? (i := 380) (by decide +kernel)⟩
theorem lw_p14 : lw_okq (⟨"MapCarrier", "checkedEnd", "(II)I"⟩, 3) := ⟨⟨by decide +kernel, by decide +kernel⟩, List.mem_of_getElem? (i := 16) (by decide +kernel), List.mem_of_getElem? (i := 403) (by decide +kernel), List.mem_of_getElem? (i := 404) (by decide +kernel)⟩
theorem lw_p15 : lw_okq (⟨"MapCarrier", "trialMiles", "(II)I"⟩, 3) := ⟨⟨by decide +kernel, by decide +kernel⟩, List.mem_of_getElem? (i := 16) (by decide +kernel), List.mem_of_getElem? (i := 501) (by decide +kernel), List.mem_of_getElem? (i := 502) (by decide +kernel)⟩
def lw_privs_1 : List (MethodName × Nat) := [(⟨"MapCarrier", "checkPlace", "(I)V"⟩, 3), (⟨"java/lang/Throwable", "fillInStackTrace", "(I)Ljava/lang/Throwable;"⟩, 6), (⟨"MapCarrier", "checkIdle", "()V"⟩, 3), (⟨"MapCarrier$Land", "measure", "(I)V"⟩, 8), (⟨"MapCarrier$Land", "milesBy", "(I)I"⟩, 8), (⟨"MapCarrier", "checkRange", "(II)V"⟩, 3), (⟨"MapCarrier", "checkUnderway", "()V"⟩, 3), (⟨"MapCarrier$Carrier", "rememberedEnd", "()I"⟩, 15), (⟨"MapCarrier$Carrier", "canTake", "(I)Z"⟩, 15), (⟨"MapCarrier$Carrier", "askedEnd", "()I"⟩, 15), (⟨"MapCarrier$Carrier", "firstUntried", "()I"⟩, 15), (⟨"MapCarrier$Carrier", "take", "(I)V"⟩, 15), (⟨"MapCarrier$Carrier", "doubleBack", "()V"⟩, 15), (⟨"MapCarrier$Carrier", "rememberWay", "()V"⟩, 15), (⟨"MapCarrier", "checkedEnd", "(II)I"⟩, 3), (⟨"MapCarrier", "trialMiles", "(II)I"⟩, 3)]
theorem lw_r1 : ∀ q ∈ lw_privs_1, lw_okq q := List.forall_mem_cons.mpr ⟨lw_p0, List.forall_mem_cons.mpr ⟨lw_p1, List.forall_mem_cons.mpr ⟨lw_p2, List.forall_mem_cons.mpr ⟨lw_p3, List.forall_mem_cons.mpr ⟨lw_p4, List.forall_mem_cons.mpr ⟨lw_p5, List.forall_mem_cons.mpr ⟨lw_p6, List.forall_mem_cons.mpr ⟨lw_p7, List.forall_mem_cons.mpr ⟨lw_p8, List.forall_mem_cons.mpr ⟨lw_p9, List.forall_mem_cons.mpr ⟨lw_p10, List.forall_mem_cons.mpr ⟨lw_p11, List.forall_mem_cons.mpr ⟨lw_p12, List.forall_mem_cons.mpr ⟨lw_p13, List.forall_mem_cons.mpr ⟨lw_p14, List.forall_mem_cons.mpr ⟨lw_p15, fun _ h => absurd h List.not_mem_nil⟩⟩⟩⟩⟩⟩⟩⟩⟩⟩⟩⟩⟩⟩⟩⟩
theorem lw_p16 : lw_okq (⟨"MapCarrier", "mixPlaces", "(J)J"⟩, 3) := ⟨⟨by decide +kernel, by decide +kernel⟩, List.mem_of_getElem? (i := 16) (by decide +kernel), List.mem_of_getElem? (i := 542) (by decide +kernel), List.mem_of_getElem? (i := 543) (by decide +kernel)⟩
theorem lw_p17 : lw_okq (⟨"MapCarrier", "mixMemory", "(J)J"⟩, 3) := ⟨⟨by decide +kernel, by decide +kernel⟩, List.mem_of_getElem? (i := 16) (by decide +kernel), List.mem_of_getElem? (i := 555) (by decide +kernel), List.mem_of_getElem? (i := 556) (by decide +kernel)⟩
theorem lw_p18 : lw_okq (⟨"MapCarrierLaw$Sim", "chosen", "()I"⟩, 14) := ⟨⟨by decide +kernel, by decide +kernel⟩, List.mem_of_getElem? (i := 581) (by decide +kernel), List.mem_of_getElem? (i := 579) (by decide +kernel), List.mem_of_getElem? (i := 580) (by decide +kernel)⟩
theorem lw_p19 : lw_okq (⟨"MapCarrierLaw$Sim", "isFree", "(I)Z"⟩, 14) := ⟨⟨by decide +kernel, by decide +kernel⟩, List.mem_of_getElem? (i := 581) (by decide +kernel), List.mem_of_getElem? (i := 584) (by decide +kernel), List.mem_of_getElem? (i := 585) (by decide +kernel)⟩
theorem lw_p20 : lw_okq (⟨"MapCarrier$Land", "layEnd", "(III)V"⟩, 8) := ⟨⟨by decide +kernel, by decide +kernel⟩, List.mem_of_getElem? (i := 24) (by decide +kernel), List.mem_of_getElem? (i := 675) (by decide +kernel), List.mem_of_getElem? (i := 676) (by decide +kernel)⟩
def lw_privs_2 : List (MethodName × Nat) := [(⟨"MapCarrier", "mixPlaces", "(J)J"⟩, 3), (⟨"MapCarrier", "mixMemory", "(J)J"⟩, 3), (⟨"MapCarrierLaw$Sim", "chosen", "()I"⟩, 14), (⟨"MapCarrierLaw$Sim", "isFree", "(I)Z"⟩, 14), (⟨"MapCarrier$Land", "layEnd", "(III)V"⟩, 8)]
theorem lw_r2 : ∀ q ∈ lw_privs_2, lw_okq q := List.forall_mem_cons.mpr ⟨lw_p16, List.forall_mem_cons.mpr ⟨lw_p17, List.forall_mem_cons.mpr ⟨lw_p18, List.forall_mem_cons.mpr ⟨lw_p19, List.forall_mem_cons.mpr ⟨lw_p20, fun _ h => absurd h List.not_mem_nil⟩⟩⟩⟩⟩
def lw_privs : List (MethodName × Nat) := lw_privs_1 ++ (lw_privs_2)
def lw_tbl : List Cond := k2_sels lw_privs ++ tables_1
theorem lw_privs_ok : ∀ q ∈ lw_privs, lw_okq q := by
  show ∀ q ∈ lw_privs_1 ++ (lw_privs_2), lw_okq q
  exact List.forall_mem_append.mpr ⟨lw_r1, lw_r2⟩
/-- the streams that the claim lets the run draw from -/
abbrev lw_cs : List Choice := [Jvm.Choice.named "NaN.bits"]
theorem lw_bits : nanBits ∈ lw_cs := by first | decide | exact List.mem_cons_self | simp [lw_cs, nanBits]
end
section
/-! ===== BEGIN words of one list among another's, by their places ===== -/
theorem goodIn_r {big : List Cond} (ws : List Cond) (ps : List Nat) (hp : ws = ps.filterMap (fun i => big[i]?)) (h : ws.all goodWord = true) : GoodIn big ws := by
  intro w hw
  have h1 := List.all_eq_true.mp h w hw
  rw [hp] at hw
  obtain ⟨i, -, hi⟩ := List.mem_filterMap.mp hw
  have hm : w ∈ big := by first | exact List.mem_of_getElem? hi | exact List.getElem?_mem hi
  exact ⟨hm, good_of_word h1⟩
theorem goodIn_app {big a b : List Cond} (ha : GoodIn big a) (hb : GoodIn big b) : GoodIn big (a ++ b) := fun w h => (List.mem_append.mp h).elim (ha w) (hb w)
theorem goodIn_ca {big a b : List Cond} {c : Cond} (ha : GoodIn big (c :: a)) (hb : GoodIn big b) : GoodIn big (c :: (a ++ b)) := fun w h => (List.mem_cons.mp h).elim (fun e => ha w (List.mem_cons.mpr (Or.inl e))) (fun h => (List.mem_append.mp h).elim (fun h => ha w (List.mem_cons.mpr (Or.inr h))) (hb w))
theorem goodIn_sub {big ws : List Cond} (hm : ∀ w ∈ ws, w ∈ big) (h : ws.all goodWord = true) : GoodIn big ws := fun w hw => ⟨hm w hw, good_of_word (List.all_eq_true.mp h w hw)⟩
/-! ===== END ===== -/

/-! ===== BEGIN exceptions that leave a method, and their catching by the caller (launches without stack traces) ===== -/
section VXA
/-! The laws vx_back, vx_callV, vx_callS, vx_callSW, vx_throw0, vx_throwS follow proofs of the library, with one case more: JvmDerived/Free/Laws.lean (Back.of_free), Shelf42/LK1.lean (callV, callS), Shelf/KitTraced.lean (throwNew0V, throwNewS). -/
/-- where a method has thrown q: the class by its name, the cell, what was written, the world -/
def vx_T (XC : String → State → State → Prop) (st : State) (q : Addr) (t : State) (mc ms : Nat) (free : Addr → Prop) : Prop :=
  ∃ (E : String) (ce : Cell) (L : List Loc), XC E st t ∧ t.heap[q]? = some ce ∧ ce.vm = .none ∧ st.vm.findClass E = some ce.cls ∧ st.WarmedH t.vm ∧ st.sameButNew ({ t with vm := st.vm } : State) L mc ms ∧ ∀ z ∈ L, free z.base
def vx_Q (Qc : Array Value → State → Outcome → State → Prop) (XC : String → State → State → Prop) (mc ms : Nat) (free : Addr → Prop) : Array Value → State → Outcome → State → Prop := fun a st o t =>
  (Qc a st o t ∧ ∃ L, FrameEnd st o t L mc ms ∧ ∀ q ∈ L, free q.base) ∨ ∃ q, o = .threw q ∧ vx_T XC st q t mc ms free
/-- a callee that returns or throws -/
def vx_Met (l : Launch) (y : MethodName) (ws : List Cond) (rm : Room) (Pc : Array Value → State → Prop) (Qc : Array Value → State → Outcome → State → Prop) (XC : String → State → State → Prop) (mc ms : Nat) (free : Addr → Prop) : Prop :=
  MetFree l y (headSpec ws rm) Pc (fun _ _ _ _ _ => True) (vx_Q Qc XC mc ms free)
def vx_Post (XC : String → State → State → Prop) (mc ms : Nat) (free : Addr → Prop) : Pt → Array Value → Addr → Pt → Prop := fun A a q B =>
  ∃ (g : JFrame) (mk : MethodId) (t : State) (L : List Loc) (E : String) (ce : Cell), B.U.heap = t.heap ∧ B.U.vm = t.vm ∧ XC E (A.U.calling g mk a) t ∧ t.heap[q]? = some ce ∧ ce.vm = .none ∧ A.U.vm.findClass E = some ce.cls ∧ B.locs = A.locs ++ L ∧ (∀ z ∈ L, free z.base) ∧ B.cells = A.cells + mc ∧ B.slots = A.slots + ms
def vx_Back (l : Launch) (R : Room) (p : Program) (e : Env) (below : List Frame) (s : State) (sargs : Array Value) (y : MethodName) (len W9 : Nat)
    (Pre : Pt → Array Value → Prop) (Post : Pt → Array Value → Option Value → Pt → Prop) (PostX : Pt → Array Value → Addr → Pt → Prop) : Prop :=
  ∀ (m : MethodId) (meth : Method) (c : Code) (A : Pt) (g : JFrame) (ig : Instr) (mk : MethodId) (a : Array Value),
    Stand p l e R s m sargs below meth c A.U A.locs A.cells A.slots → g.method = m → g.locals.size = c.maxLocals → decode c.code g.pc = .ok (ig, len) →
    2 * g.monitorRoom + (g.stack.map fun v => v.category).sum ≤ W9 → A.U.methodNamed? y = some mk → Pre A a →
    (∃ (v : Option Value) (B : Pt), Stand p l e R s m sargs below meth c B.U B.locs B.cells B.slots ∧ Post A a v B ∧
      Steps p.tables e below (doInvoke e (A.U.setTop g) [] mk a).1 (B.U.setTop { g with pc := g.pc + len, stack := v.toList ++ g.stack })) ∨
    (∃ (q : Addr) (B : Pt), Stand p l e R s m sargs below meth c B.U B.locs B.cells B.slots ∧ PostX A a q B ∧
      Steps p.tables e below (doInvoke e (A.U.setTop g) [] mk a).1 ((B.U.setTop g).pushFrame (.throwing q)))
section Payer
variable {l : Launch} {R : Room} {p : Program} {e : Env} {below : List Frame} {s : State} {sargs : Array Value} {y : MethodName} {len W9 : Nat}
theorem vx_back {ws : List Cond} {rm : Room} {Pc : Array Value → State → Prop} {Qc : Array Value → State → Outcome → State → Prop} {XC : String → State → State → Prop} {mc ms : Nat} {free : Addr → Prop} {bytes : ByteArray} {maxL : Nat} {ret : Option FieldType}
    (hM : vx_Met l y ws rm Pc Qc XC mc ms free) (hblind : FrameBlind Pc) (hrc : rm.cells = mc) (hrs : rm.slots = ms)
    (hframes : rm.frames + 1 ≤ R.frames) (hlocals : W9 + (maxL + 11) + rm.locals ≤ R.locals)
    (hws : ∀ w ∈ ws, ∀ a' U, s.WarmedH U.vm → w.before a' U = true) (hcode : Cond.code y bytes maxL ret ∈ ws) (hinit : ∀ a' U, s.WarmedH U.vm → (Cond.initialized y.cls).before a' U = true) :
    vx_Back l R p e below s sargs y len W9 (PreOf R mc ms Pc) (PostOf Qc mc ms free) (vx_Post XC mc ms free) := by
  intro m meth c A g ig mk a X hg hsize hdg hW hn hp
  have h1 : (headSpec ws rm).pre.before a A.U = true := atoms_intro fun w hw => hws w hw _ _ X.warmed
  have h2 : (Cond.code y bytes maxL ret).before a A.U = true := hws _ hcode _ _ X.warmed
  have h3 : (Cond.initialized y.cls).before a A.U = true := hinit _ _ X.warmed
  have h4 : A.cells + (headSpec ws rm).room.cells ≤ R.cells := by rw [show (headSpec ws rm).room.cells = mc from hrc]; exact hp.1
  have h5 : A.slots + (headSpec ws rm).room.slots ≤ R.slots := by rw [show (headSpec ws rm).room.slots = ms from hrs]; exact hp.2.1
  have hPc : Pc a (A.U.calling g mk a) := hblind _ _ _ _ hp.2.2
  obtain ⟨U, Ls, c0, s0⟩ := A
  dsimp only [Pt.U, Pt.locs, Pt.cells, Pt.slots] at h1 h2 h3 h4 h5 X hn hPc ⊢
  obtain ⟨methY, cY, hmY, hcY, -, hlY, -, -, -, -⟩ := Cond.code_spec hn h2
  obtain ⟨kY, hkY, -⟩ := className_of_methodNamed hn
  have hinitY : kY.init = .initialized := Cond.initialized_spec (findClass_of_methodNamed hn) hkY h3
  have h : At U g.method c below := by rw [hg]; exact X.here
  have hlocals9 : W9 + (maxL + 11) + (headSpec ws rm).room.locals ≤ R.locals := hlocals
  have happ : (headSpec ws rm).appliesLoose y e.platform (U.calling g mk a) = true :=
    Spec.appliesLoose_calling (g := g) h hdg hn hkY hinitY
      (X.room_calling (g := g) (R' := (headSpec ws rm).room) hsize hmY hcY hframes (by rw [hlY]; omega) h4 h5) h1
  obtain ⟨mid, hmid⟩ := h.above
  have hfr : (U.setTop g).frames = (.java g :: mid) ++ below := by rw [State.frames_setTop' g h.top, hmid]; rfl
  obtain ⟨o, s₂, hsteps, -, hend, hq⟩ := Steps.callFree hM p X.admits X.cas X.clock (acts := []) hfr happ hPc trivial
  have hq' : vx_Q Qc XC mc ms free a (U.calling g mk a) o s₂ := hq
  rw [State.frames_setTop' g h.top] at hend
  obtain ⟨g₀, hg0⟩ := Option.isSome_iff_exists.mp h.top
  obtain ⟨r, hr⟩ := State.topJava?_eq_some.mp hg0
  have hr' : (({ U with heap := s₂.heap, slotsUsed := s₂.slotsUsed } : State).setVm s₂.vm).frames = .java g₀ :: r := hr
  rcases hq' with ⟨hqc, L, hfe, hL⟩ | ⟨q, rfl, E, ce, L, hx, hce, hcv, hcl, hW₂, hsm, hL⟩
  · obtain ⟨⟨v, rfl⟩, hW₂, e2, q2, q3, q4, q5, q6⟩ := id hfe
    have e3 : s₂ = ({ (U.calling g mk a).setFrames s₂.frames with heap := s₂.heap, slotsUsed := s₂.slotsUsed } : State).setVm s₂.vm := by
      have : s₂ = ({ s₂ with vm := (U.calling g mk a).vm } : State).setVm s₂.vm := rfl
      rw [e2] at this
      exact this
    obtain ⟨c₂, i₂, len₂, hc₂, hd₂, hf₂⟩ := hend
    have hW' : U.WarmedH s₂.vm := hW₂
    have hcc : c₂ = c := by
      have h1 : s₂.code? g.method = U.code? g.method := by
        rw [State.code?_eq, State.code?_eq, hW'.alike.method?]
      exact Option.some.inj (hc₂.symm.trans (h1.trans h.code))
    subst hcc
    have hlen : len₂ = len := by rw [hdg] at hd₂; cases hd₂; rfl
    subst hlen
    have hs₂ : s₂ = (({ U with heap := s₂.heap, slotsUsed := s₂.slotsUsed } : State).setVm s₂.vm).setTop { g with pc := g.pc + len₂, stack := v.toList ++ g.stack } := by
      refine e3.trans ?_
      rw [hf₂, State.calling_eq h.top, State.setFrames_setFrames, State.setTop_of_frames _ hr', hr]
      rfl
    have hsame : U.sameButNew ({ U with heap := s₂.heap, slotsUsed := s₂.slotsUsed } : State) L mc ms := by
      refine ⟨?_, q2, q3, q4, q5, q6⟩
      obtain ⟨t, ht, -⟩ := State.frames_cons hr
      show ({ U with heap := s₂.heap, slotsUsed := s₂.slotsUsed } : State) = { U.setFrames U.frames with heap := s₂.heap, slotsUsed := s₂.slotsUsed }
      rw [State.setFrames_self ht]
    subst hg
    refine Or.inl ⟨v, ⟨(({ U with heap := s₂.heap, slotsUsed := s₂.slotsUsed } : State).setVm s₂.vm), Ls ++ L, c0 + mc, s0 + ms⟩,
      ⟨X.admits, X.cas, X.clock, X.frames, X.room, X.hears, X.method, X.code, (X.here.setHeapUsed s₂.heap s₂.slotsUsed).setVm hW'.alike, X.tail, State.WarmedH.trans X.warmed hW', X.limits, X.bytes, X.same.trans (hsame.setVm s.vm)⟩,
      ⟨g, mk, s₂, L, rfl, rfl, hqc, rfl, hL, rfl, rfl⟩, ?_⟩
    show Steps p.tables e below _ ((({ U with heap := s₂.heap, slotsUsed := s₂.slotsUsed } : State).setVm s₂.vm).setTop { g with pc := g.pc + len₂, stack := v.toList ++ g.stack })
    rw [← hs₂]
    exact hsteps
  · obtain ⟨e2, q2, q3, q4, q5, q6⟩ := id hsm
    have e3 : s₂ = ({ (U.calling g mk a).setFrames s₂.frames with heap := s₂.heap, slotsUsed := s₂.slotsUsed } : State).setVm s₂.vm := by
      have : s₂ = ({ s₂ with vm := (U.calling g mk a).vm } : State).setVm s₂.vm := rfl
      rw [e2] at this
      exact this
    have hf₂ : s₂.frames = .throwing q :: .java g :: U.frames.tail := hend
    have hW' : U.WarmedH s₂.vm := hW₂
    have hs₂ : s₂ = ((({ U with heap := s₂.heap, slotsUsed := s₂.slotsUsed } : State).setVm s₂.vm).setTop g).pushFrame (.throwing q) := by
      refine e3.trans ?_
      rw [hf₂, State.calling_eq h.top, State.setFrames_setFrames, State.pushFrame, State.frames_setTop _ hr', State.setTop_of_frames _ hr', State.setFrames_setFrames, hr]
      rfl
    have hsame : U.sameButNew ({ U with heap := s₂.heap, slotsUsed := s₂.slotsUsed } : State) L mc ms := by
      refine ⟨?_, q2, q3, q4, q5, q6⟩
      obtain ⟨t, ht, -⟩ := State.frames_cons hr
      show ({ U with heap := s₂.heap, slotsUsed := s₂.slotsUsed } : State) = { U.setFrames U.frames with heap := s₂.heap, slotsUsed := s₂.slotsUsed }
      rw [State.setFrames_self ht]
    subst hg
    refine Or.inr ⟨q, ⟨(({ U with heap := s₂.heap, slotsUsed := s₂.slotsUsed } : State).setVm s₂.vm), Ls ++ L, c0 + mc, s0 + ms⟩,
      ⟨X.admits, X.cas, X.clock, X.frames, X.room, X.hears, X.method, X.code, (X.here.setHeapUsed s₂.heap s₂.slotsUsed).setVm hW'.alike, X.tail, State.WarmedH.trans X.warmed hW', X.limits, X.bytes, X.same.trans (hsame.setVm s.vm)⟩,
      ⟨g, mk, s₂, L, E, ce, rfl, rfl, hx, hce, hcv, hcl, rfl, hL, rfl, rfl⟩, ?_⟩
    show Steps p.tables e below _ (((({ U with heap := s₂.heap, slotsUsed := s₂.slotsUsed } : State).setVm s₂.vm).setTop g).pushFrame (.throwing q))
    rw [← hs₂]
    exact hsteps
end Payer
section Calls
variable {p : Program} {l : Launch} {e : Env} {R : Room} {s : State} {m : MethodId} {args : Array Value} {below : List Frame} {meth : Method} {c : Code} {T : State} {locs : List Loc} {cells slots : Nat}
theorem vx_callV (X : Stand p l e R s m args below meth c T locs cells slots) (hexec : p.tables.exec = Jvm.exec) {own C : String} {index : Nat} {y : MethodName} {bytes : ByteArray} {maxL : Nat} {ret : Option FieldType}
    (hown : s.vm.findClass own = some m.cls) (hlink : (Cond.methodLink own index y).before args s = true) (hinst : (Cond.instanceMethod y).before args s = true) (hsel : (Cond.selects C y y).before args s = true)
    (hcode : (Cond.code y bytes maxL ret).before args s = true) (hy : y.cls ≠ "java/lang/invoke/MethodHandle" ∧ y.cls ≠ "java/lang/invoke/VarHandle")
    {W9 : Nat} {Pre : Pt → Array Value → Prop} {Post : Pt → Array Value → Option Value → Pt → Prop} {PostX : Pt → Array Value → Addr → Pt → Prop} (hK : vx_Back l R p e below s args y 3 W9 Pre Post PostX)
    {b : Addr} {cellB : Cell} (hcell : T.heap[b]? = some cellB) (hobj : cellB.vm.isStatics = false) (hcls : s.vm.findClass C = some cellB.cls)
    {g : JFrame} (hg : g.method = m) (hsize : g.locals.size = c.maxLocals) {argsL rest : List Value} (hlen : ∀ sig, parseMethodDescriptor y.desc = some sig → argsL.length = sig.parameters.length)
    (hstack : g.stack = argsL.reverse ++ .ref b :: rest) (hW : 2 * g.monitorRoom + (rest.map fun v => v.category).sum ≤ W9) (hdg : decode c.code g.pc = .ok (.invokevirtual index, 3))
    (hpre : ∀ vm₁, s.WarmedH vm₁ → Pre ⟨T.setVm vm₁, locs, cells, slots⟩ (Value.ref b :: argsL).toArray) :
    (∃ (v : Option Value) (vm₁ : Vm) (B : Pt), s.WarmedH vm₁ ∧ Stand p l e R s m args below meth c B.U B.locs B.cells B.slots ∧ Post ⟨T.setVm vm₁, locs, cells, slots⟩ (Value.ref b :: argsL).toArray v B ∧
      ∀ target, Steps p.tables e below (B.U.setTop { g with pc := g.pc + 3, stack := v.toList ++ rest }) target → Steps p.tables e below (T.setTop g) target) ∨
    (∃ (q : Addr) (vm₁ : Vm) (B : Pt), s.WarmedH vm₁ ∧ Stand p l e R s m args below meth c B.U B.locs B.cells B.slots ∧ PostX ⟨T.setVm vm₁, locs, cells, slots⟩ (Value.ref b :: argsL).toArray q B ∧
      Steps p.tables e below (T.setTop g) ((B.U.setTop { g with stack := rest }).pushFrame (.throwing q))) := by
  obtain ⟨mk, methM, hnamed, hmethM, hstM, habM⟩ := Cond.instanceMethod_spec hinst
  obtain ⟨methM', cM, hmethM', -, -, -, -, -, -, hsigM⟩ := Cond.code_spec hnamed hcode
  cases hmethM.symm.trans hmethM'
  obtain ⟨c2, r2, m2, q1, q2, q3, q4, kP, hkP, hkPi⟩ := Cond.selects_spec hsel
  cases hcls.symm.trans q1
  cases (State.methodFound?_of_named hnamed hy).symm.trans q2
  cases hnamed.symm.trans q3
  have hselP : selectMethod e.platform s.vm cellB.cls mk = .method mk := by rw [Launch.admits_selectMethod X.admits]; exact q4
  obtain ⟨vm₁, X₁, hstep₁⟩ := X.invokevirtual hexec hown hlink hnamed hmethM hstM hkP hkPi hy (a := b) (cell := cellB) hcell
    (fun z h => by rw [h] at hobj; cases hobj) hselP hmethM habM hkP hkPi (g := g) hg (argsL := argsL) (rest := rest) (hlen _ hsigM) hstack hdg
  rcases hK m meth c ⟨T.setVm vm₁, locs, cells, slots⟩ { g with stack := rest } (.invokevirtual index) mk (Value.ref b :: argsL).toArray X₁ hg hsize hdg hW (X₁.named hnamed) (hpre vm₁ X₁.warmed) with ⟨v, B, X', hpost, hsteps⟩ | ⟨q, B, X', hpost, hsteps⟩
  · exact Or.inl ⟨v, vm₁, B, X₁.warmed, X', hpost, fun target h => hstep₁ _ fun acts => by rw [doInvoke_state]; exact hsteps.trans h⟩
  · exact Or.inr ⟨q, vm₁, B, X₁.warmed, X', hpost, hstep₁ _ fun acts => by rw [doInvoke_state]; exact hsteps⟩
theorem vx_callS (X : Stand p l e R s m args below meth c T locs cells slots) (hexec : p.tables.exec = Jvm.exec) {own : String} {index : Nat} {y : MethodName} {bytes : ByteArray} {maxL : Nat} {ret : Option FieldType}
    (hown : s.vm.findClass own = some m.cls) (hlink : (Cond.methodLink own index y).before args s = true) (hstat : (Cond.static y).before args s = true) (hinit : (Cond.initialized y.cls).before args s = true)
    (hcode : (Cond.code y bytes maxL ret).before args s = true) (hy : y.cls ≠ "java/lang/invoke/MethodHandle" ∧ y.cls ≠ "java/lang/invoke/VarHandle")
    {W9 : Nat} {Pre : Pt → Array Value → Prop} {Post : Pt → Array Value → Option Value → Pt → Prop} {PostX : Pt → Array Value → Addr → Pt → Prop} (hK : vx_Back l R p e below s args y 3 W9 Pre Post PostX)
    {g : JFrame} (hg : g.method = m) (hsize : g.locals.size = c.maxLocals) {argsL rest : List Value} (hlen : ∀ sig, parseMethodDescriptor y.desc = some sig → argsL.length = sig.parameters.length)
    (hstack : g.stack = argsL.reverse ++ rest) (hW : 2 * g.monitorRoom + (rest.map fun v => v.category).sum ≤ W9) (hdg : decode c.code g.pc = .ok (.invokestatic index, 3))
    (hpre : ∀ vm₁, s.WarmedH vm₁ → Pre ⟨T.setVm vm₁, locs, cells, slots⟩ argsL.toArray) :
    (∃ (v : Option Value) (vm₁ : Vm) (B : Pt), s.WarmedH vm₁ ∧ Stand p l e R s m args below meth c B.U B.locs B.cells B.slots ∧ Post ⟨T.setVm vm₁, locs, cells, slots⟩ argsL.toArray v B ∧
      ∀ target, Steps p.tables e below (B.U.setTop { g with pc := g.pc + 3, stack := v.toList ++ rest }) target → Steps p.tables e below (T.setTop g) target) ∨
    (∃ (q : Addr) (vm₁ : Vm) (B : Pt), s.WarmedH vm₁ ∧ Stand p l e R s m args below meth c B.U B.locs B.cells B.slots ∧ PostX ⟨T.setVm vm₁, locs, cells, slots⟩ argsL.toArray q B ∧
      Steps p.tables e below (T.setTop g) ((B.U.setTop { g with stack := rest }).pushFrame (.throwing q))) := by
  obtain ⟨mk, hnamed⟩ := Cond.code_named hcode
  obtain ⟨methM, cM, hmethM, -, -, -, -, -, -, hsigM⟩ := Cond.code_spec hnamed hcode
  have hstatic : methM.isStatic = true := Cond.static_spec hnamed hmethM hstat
  obtain ⟨kP, hkP, -⟩ := className_of_methodNamed hnamed
  have hinitP : kP.init = .initialized := Cond.initialized_spec (findClass_of_methodNamed hnamed) hkP hinit
  obtain ⟨vm₁, X₁, hstep₁⟩ := X.invokestatic hexec hown hlink hnamed hmethM hstatic hkP hinitP hy (g := g) hg (argsL := argsL) (rest := rest) (hlen _ hsigM) hstack hdg
  rcases hK m meth c ⟨T.setVm vm₁, locs, cells, slots⟩ { g with stack := rest } (.invokestatic index) mk argsL.toArray X₁ hg hsize hdg hW (X₁.named hnamed) (hpre vm₁ X₁.warmed) with ⟨v, B, X', hpost, hsteps⟩ | ⟨q, B, X', hpost, hsteps⟩
  · exact Or.inl ⟨v, vm₁, B, X₁.warmed, X', hpost, fun target h => hstep₁ _ fun acts => by rw [doInvoke_state]; exact hsteps.trans h⟩
  · exact Or.inr ⟨q, vm₁, B, X₁.warmed, X', hpost, hstep₁ _ fun acts => by rw [doInvoke_state]; exact hsteps⟩
end Calls
theorem vx_cls {s : State} {T : State} {vm₁ : Vm} {E : String} {k : ClassId} (hW : s.WarmedH vm₁) (h : (T.setVm vm₁).vm.findClass E = some k) : s.vm.findClass E = some k := by
  have h1 : vm₁.findClass E = some k := h
  rw [hW.alike.findClass] at h1
  exact h1
/-- the method's frame g, with q thrown over it -/
def vx_W (p : Program) (l : Launch) (e : Env) (R : Room) (s : State) (m : MethodId) (args : Array Value) (below : List Frame) (meth : Method) (c : Code) (H : Heap) (locs : List Loc) (cells slots : Nat) (Q : State → Prop) (g : JFrame) (q : Addr) : Prop :=
  ∀ T : State, T.heap = H → Stand p l e R s m args below meth c T locs cells slots → ∃ t, Steps p.tables e below ((T.setTop g).pushFrame (.throwing q)) t ∧ Q t
def vx_Run (p : Program) (l : Launch) (e : Env) (R : Room) (s : State) (m : MethodId) (args : Array Value) (below : List Frame) (meth : Method) (c : Code) (H : Heap) (locs : List Loc) (cells slots mc ms : Nat) (g : JFrame) (rest : List Value) (Qa : State → Outcome → State → Prop) (XC : String → State → State → Prop) (free : Addr → Prop) : Prop :=
  ∀ T : State, T.heap = H → Stand p l e R s m args below meth c T locs cells slots →
    (∃ (v : Option Value) (st₀ t T' : State) (L : List Loc), st₀.heap = H ∧ Stand p l e R s m args below meth c T' (locs ++ L) (cells + mc) (slots + ms) ∧ (∀ q ∈ L, free q.base) ∧ T'.heap = t.heap ∧ T'.vm = t.vm ∧ Qa st₀ (.returned v) t ∧
      Goes p e below T g T' { g with pc := g.pc + 3, stack := v.toList ++ rest }) ∨
    (∃ (q : Addr) (st₀ t T' : State) (L : List Loc) (E : String) (ce : Cell), st₀.heap = H ∧ Stand p l e R s m args below meth c T' (locs ++ L) (cells + mc) (slots + ms) ∧ (∀ z ∈ L, free z.base) ∧ T'.heap = t.heap ∧ T'.vm = t.vm ∧ XC E st₀ t ∧ t.heap[q]? = some ce ∧ ce.vm = .none ∧ s.vm.findClass E = some ce.cls ∧
      Steps p.tables e below (T.setTop g) ((T'.setTop { g with stack := rest }).pushFrame (.throwing q)))
def vx_X {S : Type} (px : S → Prop) (B : String → S → State → Prop) (A : Nat → Prop) : String → State → State → Prop := fun E st t => ∃ u : S, px u ∧ B E u t ∧ va_F A st t
section Runs
variable {p : Program} {l : Launch} {e : Env} {R : Room} {s : State} {m : MethodId} {args : Array Value} {below : List Frame} {meth : Method} {c : Code} {H : Heap} {locs : List Loc} {cells slots : Nat}
variable {y : MethodName} {bytes cc : ByteArray} {maxL nL mc ms n index : Nat} {ret : Option FieldType} {ws : List Cond} {rm : Room} {Pc : Array Value → State → Prop} {Qc : Array Value → State → Outcome → State → Prop} {XC : String → State → State → Prop} {free : Addr → Prop} {Ts : List Cond} {own C : String} {b : Addr} {As rest : List Value} {g : JFrame}
theorem vx_callBack (cb : CallB R s args own index y bytes maxL ret ws rm mc ms n) (hM : vx_Met l y ws rm Pc Qc XC mc ms free) (hbl : FrameBlind Pc) : vx_Back l R p e below s args y 3 8 (PreOf R mc ms Pc) (PostOf Qc mc ms free) (vx_Post XC mc ms free) := by
  obtain ⟨hrc, hrs, hfr, hlo, hws, hcw, -, hini, -⟩ := cb
  exact vx_back (bytes := bytes) (maxL := maxL) (ret := ret) hM hbl hrc hrs hfr hlo hws hcw (fun a' U hW => word_at hW (Or.inl (by first | rfl | simp [Cond.onTables, Cond.keeps, Cond.steady])) hini)
theorem vx_runV (S : CallFix p m c cc nL s args Ts own) (hM : vx_Met l y ws rm Pc Qc XC mc ms free) (cw : CallW R s args own C index y bytes maxL ret ws rm mc ms n) (hp : PreV s H C b Pc As)
    (hg : g.method = m) (hn : As.length = n) (hsize : g.locals.size = nL) (hstack : g.stack = As.reverse ++ .ref b :: rest) (hW : 2 * g.monitorRoom + (rest.map fun v => v.category).sum ≤ 8) (hdg : decode cc g.pc = .ok (.invokevirtual index, 3)) (hf : cells + mc ≤ R.cells ∧ slots + ms ≤ R.slots) :
    vx_Run p l e R s m args below meth c H locs cells slots mc ms g rest (Qc (Value.ref b :: As).toArray) XC free := by
  have hK : vx_Back l R p e below s args y 3 8 (PreOf R mc ms Pc) (PostOf Qc mc ms free) (vx_Post XC mc ms free) := vx_callBack cw.1 hM hp.1
  obtain ⟨⟨-, -, -, -, -, -, hcode, -, hy, hlen, hl⟩, hin, hse⟩ := cw
  obtain ⟨hx, hb, hml, ho, -⟩ := S
  obtain ⟨-, ⟨cellB, hcB, hoB, hclB⟩, hPc⟩ := hp
  intro T hT X
  rcases vx_callV X hx (C := C) (bytes := bytes) (maxL := maxL) (ret := ret) ho hl hin hse hcode hy hK (by rw [hT]; exact hcB) hoB hclB hg (hsize.trans hml.symm) (argsL := As) (rest := rest) (fun sig h => hn.trans (hlen sig h)) hstack hW (by rw [hb]; exact hdg)
    (fun vm₁ hW₁ => ⟨hf.1, hf.2, hPc (T.setVm vm₁) hT hW₁⟩) with ⟨v, vm₁, ⟨U', l2, c2, s2⟩, hW₁, X', ⟨g', mk, t, L, e1, e2, hq, h1, hL, h2, h3⟩, st⟩ | ⟨q, vm₁, ⟨U', l2, c2, s2⟩, hW₁, X', ⟨g', mk, t, L, E, ce, e1, e2, hq, hce, hcv, hcl, h1, hL, h2, h3⟩, st⟩
  · dsimp only [Pt.U, Pt.locs, Pt.cells, Pt.slots] at X' e1 e2 h1 h2 h3 st
    subst h1; subst h2; subst h3
    exact Or.inl ⟨v, (T.setVm vm₁).calling g' mk (Value.ref b :: As).toArray, t, U', L, hT, X', hL, e1, e2, hq, st⟩
  · dsimp only [Pt.U, Pt.locs, Pt.cells, Pt.slots] at X' e1 e2 h1 h2 h3 st hcl
    subst h1; subst h2; subst h3
    exact Or.inr ⟨q, (T.setVm vm₁).calling g' mk (Value.ref b :: As).toArray, t, U', L, E, ce, hT, X', hL, e1, e2, hq, hce, hcv, vx_cls hW₁ hcl, st⟩
theorem vx_runS (S : CallFix p m c cc nL s args Ts own) (hM : vx_Met l y ws rm Pc Qc XC mc ms free) (cw : CallB R s args own index y bytes maxL ret ws rm mc ms n ∧ (Cond.static y).before args s = true) (hp : PreS s H Pc As)
    (hg : g.method = m) (hn : As.length = n) (hsize : g.locals.size = nL) (hstack : g.stack = As.reverse ++ rest) (hW : 2 * g.monitorRoom + (rest.map fun v => v.category).sum ≤ 8) (hdg : decode cc g.pc = .ok (.invokestatic index, 3)) (hf : cells + mc ≤ R.cells ∧ slots + ms ≤ R.slots) :
    vx_Run p l e R s m args below meth c H locs cells slots mc ms g rest (Qc As.toArray) XC free := by
  have hK : vx_Back l R p e below s args y 3 8 (PreOf R mc ms Pc) (PostOf Qc mc ms free) (vx_Post XC mc ms free) := vx_callBack cw.1 hM hp.1
  obtain ⟨⟨-, -, -, -, -, -, hcode, hini, hy, hlen, hl⟩, hstt⟩ := cw
  obtain ⟨hx, hb, hml, ho, -⟩ := S
  intro T hT X
  rcases vx_callS X hx (bytes := bytes) (maxL := maxL) (ret := ret) ho hl hstt hini hcode hy hK hg (hsize.trans hml.symm) (argsL := As) (rest := rest) (fun sig h => hn.trans (hlen sig h)) hstack hW (by rw [hb]; exact hdg)
    (fun vm₁ hW₁ => ⟨hf.1, hf.2, hp.2 (T.setVm vm₁) hT hW₁⟩) with ⟨v, vm₁, ⟨U', l2, c2, s2⟩, hW₁, X', ⟨g', mk, t, L, e1, e2, hq, h1, hL, h2, h3⟩, st⟩ | ⟨q, vm₁, ⟨U', l2, c2, s2⟩, hW₁, X', ⟨g', mk, t, L, E, ce, e1, e2, hq, hce, hcv, hcl, h1, hL, h2, h3⟩, st⟩
  · dsimp only [Pt.U, Pt.locs, Pt.cells, Pt.slots] at X' e1 e2 h1 h2 h3 st
    subst h1; subst h2; subst h3
    exact Or.inl ⟨v, (T.setVm vm₁).calling g' mk As.toArray, t, U', L, hT, X', hL, e1, e2, hq, st⟩
  · dsimp only [Pt.U, Pt.locs, Pt.cells, Pt.slots] at X' e1 e2 h1 h2 h3 st hcl
    subst h1; subst h2; subst h3
    exact Or.inr ⟨q, (T.setVm vm₁).calling g' mk As.toArray, t, U', L, E, ce, hT, X', hL, e1, e2, hq, hce, hcv, vx_cls hW₁ hcl, st⟩
end Runs
section Rows
variable {p : Program} {l : Launch} {e : Env} {R : Room} {s : State} {m : MethodId} {args : Array Value} {below : List Frame} {meth : Method} {c : Code} {H : Heap} {locs : List Loc} {cells slots : Nat} {Q : State → Prop}
variable {mc ms : Nat} {free : Addr → Prop} {A0 A1 : Nat → Prop} {H0 : Heap} {a : Array Value} {pc : Nat} {ls : Array Slot} {st0 rest : List Value}
theorem vx_keep {st₀ t T' : State} {L : List Loc} (h0 : st₀.heap = H) (e1 : T'.heap = t.heap) (hS : va_S A0 H0 H locs) (hA : ∀ q, q < H.size → A1 q → A0 q) (hf : ∀ q, free q → A0 q) (hL : ∀ q ∈ L, free q.base) (hF : va_F A1 st₀ t) :
    H.size ≤ T'.heap.size ∧ (∀ q : Nat, q < H.size → ¬ A1 q → T'.heap[q]? = H[q]?) ∧ va_S A0 H0 T'.heap (locs ++ L) := by
  obtain ⟨hz, hk⟩ := hF
  rw [h0] at hz hk
  exact ⟨by rw [e1]; exact hz, fun q h1 h2 => by rw [e1]; exact hk q h1 h2,
    ⟨Nat.le_trans hS.1 (by rw [e1]; exact hz), fun q h1 h2 => by rw [e1, hk q (Nat.lt_of_lt_of_le h1 hS.1) (fun z => h2 (hA q (Nat.lt_of_lt_of_le h1 hS.1) z))]; exact hS.2.1 q h1 h2, fun q hq => by
      rcases List.mem_append.mp hq with h | h
      · exact hS.2.2 q h
      · exact hf _ (hL q h)⟩⟩
theorem vx_calli {S SX : Type} {post : Int32 → S → Prop} {px : SX → Prop} {B : S → State → Prop} {BX : String → SX → State → Prop} {AX : Nat → Prop} (hr : vx_Run p l e R s m args below meth c H locs cells slots mc ms (F0 m pc ls st0) rest (va_Qi post B A1 a) (vx_X px BX AX) free) (hS : va_S A0 H0 H locs) (hA : ∀ q, q < H.size → A1 q → A0 q) (hf : ∀ q, free q → A0 q) (hAX : ∀ q, q < H.size → AX q → A0 q)
    (kx : ∀ (E : String) (ce : Cell) (q9 : Addr) (u : SX) (t : State) (H1 : Heap) (locs1 : List Loc), t.heap = H1 → s.vm.Alike t.vm → px u → BX E u t → H.size ≤ H1.size → (∀ q : Nat, q < H.size → ¬ AX q → H1[q]? = H[q]?) → va_S A0 H0 H1 locs1 → H1[q9]? = some ce → ce.vm = .none → s.vm.findClass E = some ce.cls → vx_W p l e R s m args below meth c H1 locs1 (cells + mc) (slots + ms) Q (F0 m pc ls rest) q9)
    (kk : ∀ (r : Int32) (u : S) (t : State) (H1 : Heap) (locs1 : List Loc), t.heap = H1 → s.vm.Alike t.vm → post r u → B u t → H.size ≤ H1.size → (∀ q : Nat, q < H.size → ¬ A1 q → H1[q]? = H[q]?) → va_S A0 H0 H1 locs1 → W p l e R s m args below meth c H1 locs1 (cells + mc) (slots + ms) Q (F0 m (pc + 3) ls (.int r :: rest))) : W p l e R s m args below meth c H locs cells slots Q (F0 m pc ls st0) := by
  intro T hT X
  rcases hr T hT X with ⟨v, st₀, t, T', L, h0, X', hL, e1, e2, ⟨⟨r, u, hv, hp, hb⟩, hF⟩, st⟩ | ⟨q, st₀, t, T', L, E, ce, h0, X', hL, e1, e2, ⟨u, hp, hb, hF⟩, hce, hcv, hcl, st⟩
  · cases hv
    obtain ⟨k1, k2, k3⟩ := vx_keep h0 e1 hS hA hf hL hF
    obtain ⟨t2, a1, b1⟩ := kk r u t T'.heap (locs ++ L) e1.symm (by rw [← e2]; exact X'.warmed.alike) hp hb k1 k2 k3 T' rfl X'
    exact ⟨t2, st t2 a1, b1⟩
  · obtain ⟨k1, k2, k3⟩ := vx_keep h0 e1 hS hAX hf hL hF
    obtain ⟨t2, a1, b1⟩ := kx E ce q u t T'.heap (locs ++ L) e1.symm (by rw [← e2]; exact X'.warmed.alike) hp hb k1 k2 k3 (by rw [e1]; exact hce) hcv hcl T' rfl X'
    exact ⟨t2, st.trans a1, b1⟩
theorem vx_calll {S SX : Type} {post : Int64 → S → Prop} {px : SX → Prop} {B : S → State → Prop} {BX : String → SX → State → Prop} {AX : Nat → Prop} (hr : vx_Run p l e R s m args below meth c H locs cells slots mc ms (F0 m pc ls st0) rest (va_Ql post B A1 a) (vx_X px BX AX) free) (hS : va_S A0 H0 H locs) (hA : ∀ q, q < H.size → A1 q → A0 q) (hf : ∀ q, free q → A0 q) (hAX : ∀ q, q < H.size → AX q → A0 q)
    (kx : ∀ (E : String) (ce : Cell) (q9 : Addr) (u : SX) (t : State) (H1 : Heap) (locs1 : List Loc), t.heap = H1 → s.vm.Alike t.vm → px u → BX E u t → H.size ≤ H1.size → (∀ q : Nat, q < H.size → ¬ AX q → H1[q]? = H[q]?) → va_S A0 H0 H1 locs1 → H1[q9]? = some ce → ce.vm = .none → s.vm.findClass E = some ce.cls → vx_W p l e R s m args below meth c H1 locs1 (cells + mc) (slots + ms) Q (F0 m pc ls rest) q9)
    (kk : ∀ (r : Int64) (u : S) (t : State) (H1 : Heap) (locs1 : List Loc), t.heap = H1 → s.vm.Alike t.vm → post r u → B u t → H.size ≤ H1.size → (∀ q : Nat, q < H.size → ¬ A1 q → H1[q]? = H[q]?) → va_S A0 H0 H1 locs1 → W p l e R s m args below meth c H1 locs1 (cells + mc) (slots + ms) Q (F0 m (pc + 3) ls (.long r :: rest))) : W p l e R s m args below meth c H locs cells slots Q (F0 m pc ls st0) := by
  intro T hT X
  rcases hr T hT X with ⟨v, st₀, t, T', L, h0, X', hL, e1, e2, ⟨⟨r, u, hv, hp, hb⟩, hF⟩, st⟩ | ⟨q, st₀, t, T', L, E, ce, h0, X', hL, e1, e2, ⟨u, hp, hb, hF⟩, hce, hcv, hcl, st⟩
  · cases hv
    obtain ⟨k1, k2, k3⟩ := vx_keep h0 e1 hS hA hf hL hF
    obtain ⟨t2, a1, b1⟩ := kk r u t T'.heap (locs ++ L) e1.symm (by rw [← e2]; exact X'.warmed.alike) hp hb k1 k2 k3 T' rfl X'
    exact ⟨t2, st t2 a1, b1⟩
  · obtain ⟨k1, k2, k3⟩ := vx_keep h0 e1 hS hAX hf hL hF
    obtain ⟨t2, a1, b1⟩ := kx E ce q u t T'.heap (locs ++ L) e1.symm (by rw [← e2]; exact X'.warmed.alike) hp hb k1 k2 k3 (by rw [e1]; exact hce) hcv hcl T' rfl X'
    exact ⟨t2, st.trans a1, b1⟩
theorem vx_callf {S SX : Type} {post : UInt32 → S → Prop} {px : SX → Prop} {B : S → State → Prop} {BX : String → SX → State → Prop} {AX : Nat → Prop} (hr : vx_Run p l e R s m args below meth c H locs cells slots mc ms (F0 m pc ls st0) rest (va_Qf post B A1 a) (vx_X px BX AX) free) (hS : va_S A0 H0 H locs) (hA : ∀ q, q < H.size → A1 q → A0 q) (hf : ∀ q, free q → A0 q) (hAX : ∀ q, q < H.size → AX q → A0 q)
    (kx : ∀ (E : String) (ce : Cell) (q9 : Addr) (u : SX) (t : State) (H1 : Heap) (locs1 : List Loc), t.heap = H1 → s.vm.Alike t.vm → px u → BX E u t → H.size ≤ H1.size → (∀ q : Nat, q < H.size → ¬ AX q → H1[q]? = H[q]?) → va_S A0 H0 H1 locs1 → H1[q9]? = some ce → ce.vm = .none → s.vm.findClass E = some ce.cls → vx_W p l e R s m args below meth c H1 locs1 (cells + mc) (slots + ms) Q (F0 m pc ls rest) q9)
    (kk : ∀ (r : UInt32) (u : S) (t : State) (H1 : Heap) (locs1 : List Loc), t.heap = H1 → s.vm.Alike t.vm → post r u → B u t → H.size ≤ H1.size → (∀ q : Nat, q < H.size → ¬ A1 q → H1[q]? = H[q]?) → va_S A0 H0 H1 locs1 → W p l e R s m args below meth c H1 locs1 (cells + mc) (slots + ms) Q (F0 m (pc + 3) ls (.float r :: rest))) : W p l e R s m args below meth c H locs cells slots Q (F0 m pc ls st0) := by
  intro T hT X
  rcases hr T hT X with ⟨v, st₀, t, T', L, h0, X', hL, e1, e2, ⟨⟨r, u, hv, hp, hb⟩, hF⟩, st⟩ | ⟨q, st₀, t, T', L, E, ce, h0, X', hL, e1, e2, ⟨u, hp, hb, hF⟩, hce, hcv, hcl, st⟩
  · cases hv
    obtain ⟨k1, k2, k3⟩ := vx_keep h0 e1 hS hA hf hL hF
    obtain ⟨t2, a1, b1⟩ := kk r u t T'.heap (locs ++ L) e1.symm (by rw [← e2]; exact X'.warmed.alike) hp hb k1 k2 k3 T' rfl X'
    exact ⟨t2, st t2 a1, b1⟩
  · obtain ⟨k1, k2, k3⟩ := vx_keep h0 e1 hS hAX hf hL hF
    obtain ⟨t2, a1, b1⟩ := kx E ce q u t T'.heap (locs ++ L) e1.symm (by rw [← e2]; exact X'.warmed.alike) hp hb k1 k2 k3 (by rw [e1]; exact hce) hcv hcl T' rfl X'
    exact ⟨t2, st.trans a1, b1⟩
theorem vx_calld {S SX : Type} {post : UInt64 → S → Prop} {px : SX → Prop} {B : S → State → Prop} {BX : String → SX → State → Prop} {AX : Nat → Prop} (hr : vx_Run p l e R s m args below meth c H locs cells slots mc ms (F0 m pc ls st0) rest (va_Qd post B A1 a) (vx_X px BX AX) free) (hS : va_S A0 H0 H locs) (hA : ∀ q, q < H.size → A1 q → A0 q) (hf : ∀ q, free q → A0 q) (hAX : ∀ q, q < H.size → AX q → A0 q)
    (kx : ∀ (E : String) (ce : Cell) (q9 : Addr) (u : SX) (t : State) (H1 : Heap) (locs1 : List Loc), t.heap = H1 → s.vm.Alike t.vm → px u → BX E u t → H.size ≤ H1.size → (∀ q : Nat, q < H.size → ¬ AX q → H1[q]? = H[q]?) → va_S A0 H0 H1 locs1 → H1[q9]? = some ce → ce.vm = .none → s.vm.findClass E = some ce.cls → vx_W p l e R s m args below meth c H1 locs1 (cells + mc) (slots + ms) Q (F0 m pc ls rest) q9)
    (kk : ∀ (r : UInt64) (u : S) (t : State) (H1 : Heap) (locs1 : List Loc), t.heap = H1 → s.vm.Alike t.vm → post r u → B u t → H.size ≤ H1.size → (∀ q : Nat, q < H.size → ¬ A1 q → H1[q]? = H[q]?) → va_S A0 H0 H1 locs1 → W p l e R s m args below meth c H1 locs1 (cells + mc) (slots + ms) Q (F0 m (pc + 3) ls (.double r :: rest))) : W p l e R s m args below meth c H locs cells slots Q (F0 m pc ls st0) := by
  intro T hT X
  rcases hr T hT X with ⟨v, st₀, t, T', L, h0, X', hL, e1, e2, ⟨⟨r, u, hv, hp, hb⟩, hF⟩, st⟩ | ⟨q, st₀, t, T', L, E, ce, h0, X', hL, e1, e2, ⟨u, hp, hb, hF⟩, hce, hcv, hcl, st⟩
  · cases hv
    obtain ⟨k1, k2, k3⟩ := vx_keep h0 e1 hS hA hf hL hF
    obtain ⟨t2, a1, b1⟩ := kk r u t T'.heap (locs ++ L) e1.symm (by rw [← e2]; exact X'.warmed.alike) hp hb k1 k2 k3 T' rfl X'
    exact ⟨t2, st t2 a1, b1⟩
  · obtain ⟨k1, k2, k3⟩ := vx_keep h0 e1 hS hAX hf hL hF
    obtain ⟨t2, a1, b1⟩ := kx E ce q u t T'.heap (locs ++ L) e1.symm (by rw [← e2]; exact X'.warmed.alike) hp hb k1 k2 k3 (by rw [e1]; exact hce) hcv hcl T' rfl X'
    exact ⟨t2, st.trans a1, b1⟩
theorem vx_callv {S SX : Type} {post : S → Prop} {px : SX → Prop} {B : S → State → Prop} {BX : String → SX → State → Prop} {AX : Nat → Prop} (hr : vx_Run p l e R s m args below meth c H locs cells slots mc ms (F0 m pc ls st0) rest (va_Qv post B A1 a) (vx_X px BX AX) free) (hS : va_S A0 H0 H locs) (hA : ∀ q, q < H.size → A1 q → A0 q) (hf : ∀ q, free q → A0 q) (hAX : ∀ q, q < H.size → AX q → A0 q)
    (kx : ∀ (E : String) (ce : Cell) (q9 : Addr) (u : SX) (t : State) (H1 : Heap) (locs1 : List Loc), t.heap = H1 → s.vm.Alike t.vm → px u → BX E u t → H.size ≤ H1.size → (∀ q : Nat, q < H.size → ¬ AX q → H1[q]? = H[q]?) → va_S A0 H0 H1 locs1 → H1[q9]? = some ce → ce.vm = .none → s.vm.findClass E = some ce.cls → vx_W p l e R s m args below meth c H1 locs1 (cells + mc) (slots + ms) Q (F0 m pc ls rest) q9)
    (kk : ∀ (u : S) (t : State) (H1 : Heap) (locs1 : List Loc), t.heap = H1 → s.vm.Alike t.vm → post u → B u t → H.size ≤ H1.size → (∀ q : Nat, q < H.size → ¬ A1 q → H1[q]? = H[q]?) → va_S A0 H0 H1 locs1 → W p l e R s m args below meth c H1 locs1 (cells + mc) (slots + ms) Q (F0 m (pc + 3) ls (rest))) : W p l e R s m args below meth c H locs cells slots Q (F0 m pc ls st0) := by
  intro T hT X
  rcases hr T hT X with ⟨v, st₀, t, T', L, h0, X', hL, e1, e2, ⟨⟨u, hv, hp, hb⟩, hF⟩, st⟩ | ⟨q, st₀, t, T', L, E, ce, h0, X', hL, e1, e2, ⟨u, hp, hb, hF⟩, hce, hcv, hcl, st⟩
  · cases hv
    obtain ⟨k1, k2, k3⟩ := vx_keep h0 e1 hS hA hf hL hF
    obtain ⟨t2, a1, b1⟩ := kk u t T'.heap (locs ++ L) e1.symm (by rw [← e2]; exact X'.warmed.alike) hp hb k1 k2 k3 T' rfl X'
    exact ⟨t2, st t2 a1, b1⟩
  · obtain ⟨k1, k2, k3⟩ := vx_keep h0 e1 hS hAX hf hL hF
    obtain ⟨t2, a1, b1⟩ := kx E ce q u t T'.heap (locs ++ L) e1.symm (by rw [← e2]; exact X'.warmed.alike) hp hb k1 k2 k3 (by rw [e1]; exact hce) hcv hcl T' rfl X'
    exact ⟨t2, st.trans a1, b1⟩
/-- caught by the row x of this method's table; the rows ahead don't take it -/
theorem vx_catch {own name : String} {E : String} {ce : Cell} {q : Addr} (hown : s.vm.findClass own = some m.cls) (pre : List ExceptionTableEntry) (x : ExceptionTableEntry) (suf : List ExceptionTableEntry) (hsplit : c.exceptionTable.toList = pre ++ x :: suf)
    (hpass : ∀ z ∈ pre, covers z pc = false ∨ (z.catchType ≠ 0 ∧ ∃ nm : String, (Cond.classLink own z.catchType nm).before args s = true ∧ va_Nc E nm s)) (hx : covers x pc = true) (h0 : x.catchType ≠ 0)
    (hlink : (Cond.classLink own x.catchType name).before args s = true) (hcast : (Cond.castable E name).before args s = true) (hcell : H[q]? = some ce) (hv : ce.vm = .none) (hcl : s.vm.findClass E = some ce.cls)
    (kk : W p l e R s m args below meth c H locs cells slots Q (F0 m x.handlerPc ls [.ref q])) : vx_W p l e R s m args below meth c H locs cells slots Q (F0 m pc ls rest) q := by
  intro T hT X
  have hpl : e.platform.magicAccessors = ({} : Platform).magicAccessors := by rw [X.admits.platform]
  obtain ⟨c3, c4, hc3, hc4, hasg⟩ := Cond.castable_spec hcast
  cases Option.some.inj (hc3.symm.trans hcl)
  obtain ⟨c5, hc5, hcl5⟩ := Cond.classLink_spec hown hlink e.platform hpl
  cases Option.some.inj (hc4.symm.trans hc5)
  obtain ⟨vm', X', st⟩ := X.thenCaughtThrough q (g := F0 m pc ls rest) rfl (Steps.refl _) (by rw [hT]; exact hcell) (by rw [hv]; rfl) (by obtain ⟨k9, h9, -⟩ := Vm.findClass_spec hcl; exact ⟨k9, h9⟩) pre x suf hsplit
    (fun z hz => by
      rcases hpass z hz with h | ⟨hz0, nm, hl1, hn1⟩
      · exact Or.inl h
      · obtain ⟨c6, hc6, hcl6⟩ := Cond.classLink_spec hown hl1 e.platform hpl
        obtain ⟨a8, b8, h1, h2, h3⟩ := hn1
        cases Option.some.inj (h1.symm.trans hcl)
        cases Option.some.inj (h2.symm.trans hc6)
        exact Or.inr ⟨hz0, _, hcl6, h3⟩) hx (Or.inr ⟨h0, c4, hcl5, hasg⟩)
  obtain ⟨t, a1, b1⟩ := kk (T.setVm vm') hT X'
  exact ⟨t, st.trans a1, b1⟩
end Rows
section Ends
variable {p : Program} {l : Launch} {e : Env} {R : Room} {s : State} {m : MethodId} {args : Array Value} {below : List Frame} {meth : Method} {c : Code} {H : Heap} {locs : List Loc} {cells slots : Nat} {Q : State → Prop}
variable {mc ms : Nat} {free : Addr → Prop} {A0 A1 : Nat → Prop} {H0 : Heap} {a : Array Value} {ls : Array Slot} {st0 rest : List Value}
variable {Qc : Array Value → State → Outcome → State → Prop} {XC : String → State → State → Prop}
/-- what a body that may throw owes at its end -/
def vx_MQ (below : List Frame) (Qc : Array Value → State → Outcome → State → Prop) (XC : String → State → State → Prop) (a : Array Value) (s : State) (mc ms : Nat) (free : Addr → Prop) : State → Prop := fun t =>
  ∃ o, t.status = .running ∧ Ended t below o ∧ vx_Q Qc XC mc ms free a s o t
theorem vx_ret {g : JFrame} {mc ms : Nat} (k : W p l e R s m args below meth c H locs cells slots (MQ below Qc args s mc ms free) g) : W p l e R s m args below meth c H locs cells slots (vx_MQ below Qc XC args s mc ms free) g := by
  intro T hT X
  obtain ⟨t, a1, o, b1, b2, b3, b4⟩ := k T hT X
  exact ⟨t, a1, o, b1, b2, Or.inl ⟨b3, b4⟩⟩
/-- not caught here: it goes on to the caller -/
theorem vx_widen {g : JFrame} {q : Addr} {k n : Nat} (h1 : cells ≤ k) (h2 : slots ≤ n) (kk : vx_W p l e R s m args below meth c H locs k n Q g q) : vx_W p l e R s m args below meth c H locs cells slots Q g q := fun T hT X => kk T hT (stand_widen X h1 h2)
theorem vx_out {pc : Nat} {E : String} {ce : Cell} {q : Addr} {mc ms : Nat} (hout : ∀ x ∈ c.exceptionTable.toList, covers x pc = false) (hlocks : meth.locks = false) (hcell : H[q]? = some ce) (hv : ce.vm = .none) (hcl : s.vm.findClass E = some ce.cls)
    (hx : ∀ t : State, t.heap = H → s.vm.Alike t.vm → XC E s t) (hf : ∀ z ∈ locs, free z.base) (hc : cells ≤ mc) (hs : slots ≤ ms) :
    vx_W p l e R s m args below meth c H locs cells slots (vx_MQ below Qc XC args s mc ms free) (F0 m pc ls rest) q := by
  intro T hT X
  obtain ⟨st1, hrun, hend, hW, hsm⟩ := X.leaveThrown q (g := F0 m pc ls rest) rfl rfl rfl hout hlocks
  have hcell9 : (T.setFrames (.throwing q :: below)).heap[q]? = some ce := by
    show T.heap[q]? = some ce
    rw [hT]; exact hcell
  exact ⟨_, st1, .threw q, hrun, hend, Or.inr ⟨q, rfl, E, ce, locs, hx _ hT hW.alike, hcell9, hv, hcl, hW, hsm.mono hc hs, hf⟩⟩
theorem vx_frame {U : State} {k n : Nat} (h : s.sameButNew ({ U with vm := s.vm } : State) locs k n) : s.heap.size ≤ U.heap.size ∧ ∀ q : Nat, q < s.heap.size → (∀ z ∈ locs, z.base ≠ q) → U.heap[q]? = s.heap[q]? := by
  obtain ⟨-, h2, -, -, -, h6⟩ := h
  refine ⟨h2, fun q hq hz => ?_⟩
  obtain ⟨c9, e1, e2, e3, e4⟩ := h6 q _ (Array.getElem?_eq_getElem hq)
  have hs : c9.slots = (s.heap[q]).slots := Array.ext_getElem? fun i => e4 i fun hm => hz _ hm rfl
  have h9 : c9 = s.heap[q] := by
    rw [hs] at e2
    exact e2
  have e5 : U.heap[q]? = some c9 := e1
  rw [e5, h9, Array.getElem?_eq_getElem hq]
/-- the words of a throw but the four that speak of the heap -/
def vx_no (w : Cond) : Bool := decide (w ≠ .isRef (.static Bundle.tN "UNASSIGNED_STACK" Bundle.steD)) && decide (w ≠ .isRef (.static Bundle.tN "SUPPRESSED_SENTINEL" Bundle.listD)) && decide (w ≠ .laysStatic Bundle.tN "UNASSIGNED_STACK" Bundle.steD) && decide (w ≠ .laysStatic Bundle.tN "SUPPRESSED_SENTINEL" Bundle.listD)
def vx_at0 (own : String) (ic : Nat) (X : String) (names : List String) : List Cond := (Bundle.ownAtoms0 own ic X names).filter vx_no
def vx_atS (own : String) (ic : Nat) (X : String) (names : List String) : List Cond := (Bundle.ownAtoms own ic X names).filter vx_no
/-- a word that the tables alone decide, or a good one -/
def vx_ot (w : Cond) : Bool := w.onTables || goodWord w
theorem vx_ot_at {args a' : Array Value} {s U : State} {w : Cond} (hW : s.WarmedH U.vm) (hvm : s.vm = U.vm) (hg : vx_ot w = true) (h : w.before args s = true) : w.before a' U = true := by
  simp only [vx_ot, Bool.or_eq_true] at hg
  rcases hg with hg | hg
  · exact va_tabs hg hvm h
  · exact word_at hW (good_of_word hg) h
/-- a list's words: the good ones out of the method's own list, the others by premises of their own -/
theorem vx_hat {args : Array Value} {s : State} {L B : List Cond} (h1 : ∀ w ∈ L.filter goodWord, w.before args s = true) (h2 : ∀ w ∈ L.filter (fun w => !goodWord w), w ∈ B) (h3 : ∀ w ∈ B, w.before args s = true) : ∀ w ∈ L, w.before args s = true := by
  intro w hw
  by_cases g : goodWord w = true
  · exact h1 w (List.mem_filter.mpr ⟨hw, g⟩)
  · refine h3 w (h2 w (List.mem_filter.mpr ⟨hw, ?_⟩))
    show (!goodWord w) = true
    cases hgw : goodWord w
    · rfl
    · exact absurd hgw g
theorem vx_c {args : Array Value} {s : State} {w : Cond} {B : List Cond} (h : w.before args s = true) (t : ∀ w ∈ B, w.before args s = true) : ∀ w' ∈ w :: B, w'.before args s = true := fun w' h' => (List.mem_cons.mp h').elim (fun e => by rw [e]; exact h) (t w')
theorem vx_n {args : Array Value} {s : State} : ∀ w ∈ ([] : List Cond), w.before args s = true := fun _ h => nomatch h
theorem vx_own {args : Array Value} {s : State} {L : List Cond} (h1 : ∀ w ∈ L.filter vx_no, w.before args s = true)
    (hU : (Cond.isRef (.static Bundle.tN "UNASSIGNED_STACK" Bundle.steD)).before args s = true) (hN : (Cond.isRef (.static Bundle.tN "SUPPRESSED_SENTINEL" Bundle.listD)).before args s = true)
    (lU : (Cond.laysStatic Bundle.tN "UNASSIGNED_STACK" Bundle.steD).before args s = true) (lN : (Cond.laysStatic Bundle.tN "SUPPRESSED_SENTINEL" Bundle.listD).before args s = true) : ∀ w ∈ L, w.before args s = true := by
  intro w hw
  by_cases e1 : w = .isRef (.static Bundle.tN "UNASSIGNED_STACK" Bundle.steD)
  · rw [e1]; exact hU
  · by_cases e2 : w = .isRef (.static Bundle.tN "SUPPRESSED_SENTINEL" Bundle.listD)
    · rw [e2]; exact hN
    · by_cases e3 : w = .laysStatic Bundle.tN "UNASSIGNED_STACK" Bundle.steD
      · rw [e3]; exact lU
      · by_cases e4 : w = .laysStatic Bundle.tN "SUPPRESSED_SENTINEL" Bundle.listD
        · rw [e4]; exact lN
        · exact h1 w (List.mem_filter.mpr ⟨hw, by unfold vx_no; rw [decide_eq_true e1, decide_eq_true e2, decide_eq_true e3, decide_eq_true e4]; rfl⟩)
/-- where a static field lies, its class's statics cell in H -/
def vx_L (C n d : String) (A : Nat → Prop) (U : State) (H : Heap) : Prop := ∃ (c : ClassId) (k : Class) (i : Nat) (f : Field) (a : Nat) (cell : Cell), U.vm.findClass C = some c ∧ U.fieldFound? C n d = some (c, k, i, f) ∧ f.isStatic = true ∧ k.statics = some a ∧ H[a]? = some cell ∧ cell.vm.isStatics = true ∧ cell.cls = c ∧ f.slot < cell.slots.size ∧ k.staticTypes[f.slot]? = some f.type ∧ ¬ A a
theorem vx_L.moved {C n d : String} {A : Nat → Prop} {u U : State} {H : Heap} (hvm : u.vm.Alike U.vm) (h : vx_L C n d A u H) : vx_L C n d A U H := by
  obtain ⟨c, k, i, f, a, cell, h1, h2, h3, h4, h5, h6, h7, h8, h9, h10⟩ := h
  obtain ⟨k', hi', he⟩ := State.fieldFound?_setVm hvm h2
  exact ⟨c, k', i, f, a, cell, by rw [hvm.findClass]; exact h1, hi', h3, by rw [he]; exact h4, h5, h6, h7, h8, by rw [he]; exact h9, h10⟩
theorem vx_L.kept {C n d : String} {A : Nat → Prop} {U : State} {H H1 : Heap} (h : vx_L C n d A U H) (hq : ∀ a : Nat, a < H.size → ¬ A a → H1[a]? = H[a]?) : vx_L C n d A U H1 := by
  obtain ⟨c, k, i, f, a, cell, h1, h2, h3, h4, h5, h6, h7, h8, h9, h10⟩ := h
  exact ⟨c, k, i, f, a, cell, h1, h2, h3, h4, by rw [hq a (Array.getElem?_eq_some_iff.mp h5).1 h10]; exact h5, h6, h7, h8, h9, h10⟩
theorem vx_L.narrow {C n d : String} {A B : Nat → Prop} {U : State} {H : Heap} (h : vx_L C n d A U H) (hAB : ∀ q, B q → A q) : vx_L C n d B U H := by
  obtain ⟨c, k, i, f, a, cell, h1, h2, h3, h4, h5, h6, h7, h8, h9, h10⟩ := h
  exact ⟨c, k, i, f, a, cell, h1, h2, h3, h4, h5, h6, h7, h8, h9, fun z => h10 (hAB _ z)⟩
theorem vx_L.word {C n d : String} {A : Nat → Prop} {s : State} {args : Array Value} (h : vx_L C n d A s s.heap) : (Cond.laysStatic C n d).before args s = true := by
  obtain ⟨c, k, i, f, a, cell, h1, h2, h3, h4, h5, h6, h7, h8, h9, -⟩ := h
  show (Cond.laysStatic C n d).holds args s none s [] = true
  exact Cond.laysStatic_of h1 h2 h3 h4 h5 h6 h7 h8 h9
/-- .. and what it holds: null or some reference -/
def vx_Zq (C n d : String) (A : Nat → Prop) (U : State) (H : Heap) : Prop := va_Zq C n d A U H ∧ vx_L C n d A U H
theorem vx_Zq.moved {C n d : String} {A : Nat → Prop} {u U : State} {H : Heap} (hvm : u.vm.Alike U.vm) (h : vx_Zq C n d A u H) : vx_Zq C n d A U H := ⟨va_Zq.moved hvm h.1, vx_L.moved hvm h.2⟩
theorem vx_Zq.kept {C n d : String} {A : Nat → Prop} {U : State} {H H1 : Heap} (h : vx_Zq C n d A U H) (hq : ∀ a : Nat, a < H.size → ¬ A a → H1[a]? = H[a]?) : vx_Zq C n d A U H1 := ⟨va_Zq.kept h.1 hq, vx_L.kept h.2 hq⟩
theorem vx_Zq.narrow {C n d : String} {A B : Nat → Prop} {U : State} {H : Heap} (h : vx_Zq C n d A U H) (hAB : ∀ q, B q → A q) : vx_Zq C n d B U H := ⟨va_Zq.narrow h.1 hAB, vx_L.narrow h.2 hAB⟩
theorem vx_Zqof {args : Array Value} {s : State} {C n d : String} {A : Nat → Prop} (hl : (Cond.laysStatic C n d).before args s = true) (hini : (Cond.initialized C).before args s = true) (h : (Cond.isRef (.static C n d)).before args s = true) (hA : ∀ a : Nat, a < s.heap.size → ¬ A a) : vx_Zq C n d A s s.heap := by
  refine ⟨va_Zqof hl hini h hA, ?_⟩
  obtain ⟨c, k, i, f, a, cell, h1, h2, h3, h4, h5, h6, h7, h8, h9⟩ := Cond.laysStatic_spec hl
  exact ⟨c, k, i, f, a, cell, h1, h2, h3, h4, h5, h6, h7, h8, h9, hA a (Array.getElem?_eq_some_iff.mp h5).1⟩
theorem vx_isRef {C n d : String} {v : Value} {A : Nat → Prop} {s : State} {args : Array Value} (h : va_Z C n d v A s s.heap) (hv : v.isRef = true) : (Cond.isRef (.static C n d)).before args s = true := by
  obtain ⟨cf, kf, fi, f, a, cell, h1, h2, h3, h4, h5, h6, h7, -⟩ := h
  have he : (Term.static C n d).eval args s none [] s = some v := by
    simp [Term.eval, State.fieldNamed?, h1, h2, h4, h5, h6, h7]
  simp only [Cond.before, Cond.holds, Cond.value, he]
  cases v <;> simp_all [Value.isRef]
theorem vx_isRefq {C n d : String} {A : Nat → Prop} {s : State} {args : Array Value} (h : va_Zq C n d A s s.heap) : (Cond.isRef (.static C n d)).before args s = true := by
  rcases h with h | ⟨t, h⟩
  · exact vx_isRef h rfl
  · exact vx_isRef h rfl
/-- the same frame, seen from here: as if the method were called anew in this heap -/
theorem vx_rebase {T : State} (X : Stand p l e R s m args below meth c T locs cells slots) {R' : Room} (hf : R'.frames ≤ R.frames) (hl : R'.locals ≤ R.locals) (hc : cells + R'.cells ≤ R.cells) (hs : slots + R'.slots ≤ R.slots) :
    Stand p l e R' ((T.setVm s.vm).setFrames (.invoking m args :: below)) m args below meth c T [] 0 0 := by
  have htop : (T.setVm s.vm).topJava?.isSome := X.here.top
  have hF : ((T.setVm s.vm).setFrames (.invoking m args :: below)).frames = .invoking m args :: below := State.frames_setFrames _ (State.cur_lt_of_top htop)
  obtain ⟨g₀, hg0⟩ := Option.isSome_iff_exists.mp htop
  obtain ⟨r, hr⟩ := State.topJava?_eq_some.mp hg0
  have hl9 : e.platform.stackLimits (T.setVm s.vm).me = e.platform.stackLimits s.me := X.limits
  have hb9 : (T.setVm s.vm).me.stackBytes = s.me.stackBytes := X.bytes
  refine ⟨X.admits, X.cas, X.clock, hF, ?_, X.hears, X.method, X.code, X.here, X.tail, X.warmed, ?_, ?_, ?_⟩
  · have h := X.room
    have hU : ((T.setVm s.vm).setFrames (.invoking m args :: below)).localsInUse = s.localsInUse := by
      rw [State.localsInUse_invoking hF (meth := meth) (c := c) X.method X.code, State.localsInUse_invoking X.frames X.method X.code]
    simp only [State.hasRoom, Bool.and_eq_true, decide_eq_true_eq] at h ⊢
    obtain ⟨⟨⟨⟨h1, h2, h3, h4, h5, h6⟩, h7⟩, h8⟩, h9⟩ := h
    rw [X.frames, List.length_cons] at h2 h3
    have q1 := X.heapSize
    have q2 := X.used
    simp only [hF, hU, List.length_cons, State.stackLimits_setFrames, State.stackBytes_setFrames, hl9, hb9]
    refine ⟨⟨⟨⟨by omega, by omega, by omega, by omega, by omega, h6⟩, ?_⟩, ?_⟩, X.book⟩
    · show T.heap.size + R'.cells ≤ e.platform.maxCells
      omega
    · show T.slotsUsed + R'.slots ≤ e.platform.maxSlots
      omega
  · rw [State.stackLimits_setFrames]; rfl
  · rw [State.stackBytes_setFrames]; rfl
  · refine ⟨?_, Nat.le_refl _, Nat.le_refl _, ?_, ?_, fun a c9 h9 => ⟨c9, h9, rfl, rfl, fun _ _ => rfl⟩⟩
    · obtain ⟨t, ht, -⟩ := State.frames_cons hr
      show T.setVm s.vm = { ((T.setVm s.vm).setFrames (.invoking m args :: below)).setFrames (T.setVm s.vm).frames with heap := T.heap, slotsUsed := T.slotsUsed }
      rw [State.setFrames_setFrames, State.setFrames_self ht]
      rfl
    · show T.slotsUsed = T.slotsUsed + ((T.heap.toList.drop T.heap.size).map (·.slots.size)).sum
      rw [List.drop_eq_nil_of_le (Nat.le_of_eq Array.length_toList)]
      rfl
    · show ((T.heap.toList.drop T.heap.size).map (·.slots.size)).sum ≤ 0
      rw [List.drop_eq_nil_of_le (Nat.le_of_eq Array.length_toList)]
      exact Nat.le_refl _
/-- 'throw new E()': new; dup; invokespecial; athrow -/
theorem vx_throw0 {cc : ByteArray} {pc : Nat} (hexec : p.tables.exec = Jvm.exec) (hb : c.code = cc) (hl : l.stackTraces = false) {own cls : String} {names : List String} {ik ic mc ms : Nat} {A : Nat → Prop}
    (hown : s.vm.findClass own = some m.cls) (hcls : Bundle.fit cls = true) (hnames : ∀ n ∈ names, Bundle.fit n = true)
    (hk : (Cond.classLink own ik cls).before args s = true) (hini : (Cond.initialized cls).before args s = true) (hat : ∀ w ∈ vx_at0 own ic cls names, w.before args s = true)
    (hgood : ∀ w ∈ Cond.classLink own ik cls :: Cond.initialized cls :: vx_at0 own ic cls names, vx_ot w = true)
    (hU : vx_Zq Bundle.tN "UNASSIGNED_STACK" Bundle.steD A s s.heap) (hN : vx_Zq Bundle.tN "SUPPRESSED_SENTINEL" Bundle.listD A s s.heap) (hS : va_S A s.heap H locs) (hsize : ls.size = c.maxLocals)
    (d0 : decode cc pc = .ok (.new ik, 3)) (d3 : decode cc (pc + 3) = .ok (.dup, 1)) (d4 : decode cc (pc + 4) = .ok (.invokespecial ic, 3)) (d7 : decode cc (pc + 7) = .ok (.athrow, 1))
    (hout : ∀ x ∈ c.exceptionTable.toList, covers x (pc + 7) = false)
    (hRframes : names.length + 3 < R.frames) (hRlocals : (rest.map fun v => v.category).sum + (13 * (names.length + 1) + 42) ≤ R.locals) (hRcells : cells + 1 ≤ R.cells) (hRslots : slots + 6 ≤ R.slots) (hlocks : meth.locks = false)
    (hx : ∀ t : State, s.vm.Alike t.vm → H.size ≤ t.heap.size → (∀ q : Nat, q < H.size → t.heap[q]? = H[q]?) → XC cls s t)
    (hf : ∀ z ∈ locs, free z.base) (hc : cells + 1 ≤ mc) (hs : slots + 6 ≤ ms) :
    W p l e R s m args below meth c H locs cells slots (vx_MQ below Qc XC args s mc ms free) (F0 m pc ls rest) := by
  intro T hT X
  have htr : e.platform.stackTraces = false := (show e.platform.stackTraces = l.stackTraces by rw [X.admits.platform]).trans hl
  have Y := vx_rebase X (R' := { frames := R.frames, locals := R.locals, cells := 1, slots := 6 }) (Nat.le_refl _) (Nat.le_refl _) hRcells hRslots
  obtain ⟨s', hA⟩ : ∃ z, z = (T.setVm s.vm).setFrames (.invoking m args :: below) := ⟨_, rfl⟩
  rw [← hA] at Y
  have hvm : s'.vm = s.vm := by rw [hA]; rfl
  have hhp : s'.heap = H := by rw [hA]; exact hT
  have hW0 : s.WarmedH s'.vm := by rw [hvm]; exact State.WarmedH.refl s
  have hat' : ∀ w ∈ vx_at0 own ic cls names, w.before args s' = true := fun w hw => vx_ot_at hW0 hvm.symm (hgood w (List.mem_cons_of_mem _ (List.mem_cons_of_mem _ hw))) (hat w hw)
  have hk' : (Cond.classLink own ik cls).before args s' = true := vx_ot_at hW0 hvm.symm (hgood _ List.mem_cons_self) hk
  have hini' : (Cond.initialized cls).before args s' = true := vx_ot_at hW0 hvm.symm (hgood _ (List.mem_cons_of_mem _ List.mem_cons_self)) hini
  have hU' : vx_Zq Bundle.tN "UNASSIGNED_STACK" Bundle.steD A s' s'.heap := by rw [hhp]; exact vx_Zq.moved hW0.alike (hU.kept hS.2.1)
  have hN' : vx_Zq Bundle.tN "SUPPRESSED_SENTINEL" Bundle.listD A s' s'.heap := by rw [hhp]; exact vx_Zq.moved hW0.alike (hN.kept hS.2.1)
  have h : ∀ w ∈ Bundle.ownAtoms0 own ic cls names, w.before args s' = true := vx_own hat' (vx_isRefq hU'.1) (vx_isRefq hN'.1) hU'.2.word hN'.2.word
  have hown' : s'.vm.findClass own = some m.cls := by rw [hvm]; exact hown
  have hins : (Cond.instantiable cls 6).before args s' = true := h _ (by simp [Bundle.ownAtoms0])
  obtain ⟨vm₁, cX, kX, hfX, hkX, -, -, X₁, st1⟩ := Y.newCold hexec (own := own) (C := cls) (index := ik) (n := 6) hown' hk' hins hini'
    (g := F0 m pc ls rest) rfl (by rw [hb]; exact d0) (Nat.le_refl _) (Nat.le_refl _)
  generalize hT1 : (T.setVm vm₁).pushCell { cls := cX, slots := kX.instanceTypes.map defaultValue, vm := .none } = T1 at X₁ st1
  have hcat : (Value.ref T.heap.size).category = 1 := rfl
  have hcellA : T1.heap[T.heap.size]? = some (freshCell cX kX) := by rw [← hT1]; exact State.heap_pushCell_size _ _
  have d3' : decode c.code (pc + 3) = .ok (.dup, 1) := by rw [hb]; exact d3
  obtain ⟨U, hsteps, hrun, hend, hW, hsame, ce, hce, hO⟩ := X₁.ctorThrow0 hexec htr (own := own) (cls := cls) (names := names) (ic := ic) hown' hcls hnames h (fun x hx => nomatch hx) hfX hkX hcellA (by rw [hhp, hT]; exact Nat.le_refl _)
    (g := { method := m, pc := pc + 4, locals := ls, stack := .ref T.heap.size :: .ref T.heap.size :: rest, locked := none }) rfl hsize rfl rfl (rest := rest) rfl
    (by rw [hb]; exact d4) (by rw [hb]; exact d7) hout hRframes (by simp only [List.map_cons, List.sum_cons, hcat]; omega) hlocks
  obtain ⟨f1, f2⟩ := vx_frame hsame
  rw [hhp] at f1 f2
  have hWs : s.WarmedH U.vm := State.WarmedH.trans hW0 hW
  have hcl : s.vm.findClass cls = some ce.cls := by
    have h9 := hO.cls
    rw [hvm] at h9
    exact h9
  have hall : s.sameButNew ({ U with vm := s.vm } : State) locs mc ms := by
    subst hA
    obtain ⟨e1, e2⟩ := hsame
    rw [State.setFrames_setFrames] at e1
    have h2 : (T.setVm s.vm).sameButNew ({ U with vm := s.vm } : State) [] (0 + 1) (0 + 6) := ⟨e1, e2⟩
    have h3 := X.same.trans h2
    rw [List.append_nil] at h3
    exact h3.mono hc hs
  refine ⟨U, ?_, .threw T.heap.size, hrun, hend, Or.inr ⟨T.heap.size, rfl, cls, ce, locs, hx U hWs.alike f1 (fun q hq => f2 q hq (fun z hz => nomatch hz)), hce, hO.vm, hcl, hWs, hall, hf⟩⟩
  refine st1 _ ?_
  show Steps p.tables e below (T1.setTop { method := m, pc := pc + 3, locals := ls, stack := .ref T.heap.size :: rest, locked := none }) _
  jvm_step X₁.here [X₁.here.top, hexec, d3', Value.category]
  exact hsteps
/-- 'throw new E("text")': new; dup; ldc; invokespecial; athrow -/
theorem vx_throwS {cc : ByteArray} {pc : Nat} (hexec : p.tables.exec = Jvm.exec) (hb : c.code = cc) (hl : l.stackTraces = false) {own cls text : String} {names : List String} {ik is ic mc ms sa : Nat} {A : Nat → Prop}
    (hown : s.vm.findClass own = some m.cls) (hcls : Bundle.fit cls = true) (hnames : ∀ n ∈ names, Bundle.fit n = true)
    (hk : (Cond.classLink own ik cls).before args s = true) (hini : (Cond.initialized cls).before args s = true) (hstr : vk_R own is text sa s) (hat : ∀ w ∈ vx_atS own ic cls names, w.before args s = true)
    (hgood : ∀ w ∈ Cond.classLink own ik cls :: Cond.initialized cls :: vx_atS own ic cls names, vx_ot w = true)
    (hU : vx_Zq Bundle.tN "UNASSIGNED_STACK" Bundle.steD A s s.heap) (hN : vx_Zq Bundle.tN "SUPPRESSED_SENTINEL" Bundle.listD A s s.heap) (hS : va_S A s.heap H locs) (hsize : ls.size = c.maxLocals)
    (d0 : decode cc pc = .ok (.new ik, 3)) (d3 : decode cc (pc + 3) = .ok (.dup, 1)) (d4 : decode cc (pc + 4) = .ok (.ldc is, 2)) (d6 : decode cc (pc + 6) = .ok (.invokespecial ic, 3)) (d9 : decode cc (pc + 9) = .ok (.athrow, 1))
    (hout : ∀ x ∈ c.exceptionTable.toList, covers x (pc + 9) = false)
    (hRframes : names.length + 3 < R.frames) (hRlocals : (rest.map fun v => v.category).sum + (13 * (names.length + 1) + 43) ≤ R.locals) (hRcells : cells + 1 ≤ R.cells) (hRslots : slots + 6 ≤ R.slots) (hlocks : meth.locks = false)
    (hx : ∀ t : State, s.vm.Alike t.vm → H.size ≤ t.heap.size → (∀ q : Nat, q < H.size → t.heap[q]? = H[q]?) → XC cls s t)
    (hf : ∀ z ∈ locs, free z.base) (hc : cells + 1 ≤ mc) (hs : slots + 6 ≤ ms) :
    W p l e R s m args below meth c H locs cells slots (vx_MQ below Qc XC args s mc ms free) (F0 m pc ls rest) := by
  intro T hT X
  have htr : e.platform.stackTraces = false := (show e.platform.stackTraces = l.stackTraces by rw [X.admits.platform]).trans hl
  have Y := vx_rebase X (R' := { frames := R.frames, locals := R.locals, cells := 1, slots := 6 }) (Nat.le_refl _) (Nat.le_refl _) hRcells hRslots
  obtain ⟨s', hA⟩ : ∃ z, z = (T.setVm s.vm).setFrames (.invoking m args :: below) := ⟨_, rfl⟩
  rw [← hA] at Y
  have hvm : s'.vm = s.vm := by rw [hA]; rfl
  have hhp : s'.heap = H := by rw [hA]; exact hT
  have hW0 : s.WarmedH s'.vm := by rw [hvm]; exact State.WarmedH.refl s
  have hat' : ∀ w ∈ vx_atS own ic cls names, w.before args s' = true := fun w hw => vx_ot_at hW0 hvm.symm (hgood w (List.mem_cons_of_mem _ (List.mem_cons_of_mem _ hw))) (hat w hw)
  have hk' : (Cond.classLink own ik cls).before args s' = true := vx_ot_at hW0 hvm.symm (hgood _ List.mem_cons_self) hk
  have hini' : (Cond.initialized cls).before args s' = true := vx_ot_at hW0 hvm.symm (hgood _ (List.mem_cons_of_mem _ List.mem_cons_self)) hini
  have hU' : vx_Zq Bundle.tN "UNASSIGNED_STACK" Bundle.steD A s' s'.heap := by rw [hhp]; exact vx_Zq.moved hW0.alike (hU.kept hS.2.1)
  have hN' : vx_Zq Bundle.tN "SUPPRESSED_SENTINEL" Bundle.listD A s' s'.heap := by rw [hhp]; exact vx_Zq.moved hW0.alike (hN.kept hS.2.1)
  have h : ∀ w ∈ Bundle.ownAtoms own ic cls names, w.before args s' = true := vx_own hat' (vx_isRefq hU'.1) (vx_isRefq hN'.1) hU'.2.word hN'.2.word
  have hown' : s'.vm.findClass own = some m.cls := by rw [hvm]; exact hown
  have hins : (Cond.instantiable cls 6).before args s' = true := h _ (by simp [Bundle.ownAtoms])
  obtain ⟨vm₁, cX, kX, hfX, hkX, -, -, X₁, st1⟩ := Y.newCold hexec (own := own) (C := cls) (index := ik) (n := 6) hown' hk' hins hini'
    (g := F0 m pc ls rest) rfl (by rw [hb]; exact d0) (Nat.le_refl _) (Nat.le_refl _)
  generalize hT1 : (T.setVm vm₁).pushCell { cls := cX, slots := kX.instanceTypes.map defaultValue, vm := .none } = T1 at X₁ st1
  have hcat : (Value.ref T.heap.size).category = 1 := rfl
  have hcellA : T1.heap[T.heap.size]? = some (freshCell cX kX) := by rw [← hT1]; exact State.heap_pushCell_size _ _
  have d3' : decode c.code (pc + 3) = .ok (.dup, 1) := by rw [hb]; exact d3
  have d4' : decode c.code (pc + 4) = .ok (.ldc is, 2) := by rw [hb]; exact d4
  have hstr' : vk_R own is text sa s' := vk_R.warm hW0 hstr
  obtain ⟨U, hsteps, hrun, hend, hW, hsame, ce, hce, hO⟩ := X₁.ctorThrowS hexec htr (own := own) (cls := cls) (names := names) (ic := ic) hown' hcls hnames h (fun x hx => nomatch hx) hfX hkX hcellA (by rw [hhp, hT]; exact Nat.le_refl _) (msg := .ref sa) rfl
    (g := { method := m, pc := pc + 6, locals := ls, stack := .ref sa :: .ref T.heap.size :: .ref T.heap.size :: rest, locked := none }) rfl hsize rfl rfl (rest := rest) rfl
    (by rw [hb]; exact d6) (by rw [hb]; exact d9) hout hRframes (by simp only [List.map_cons, List.sum_cons, hcat]; omega) hlocks
  obtain ⟨f1, f2⟩ := vx_frame hsame
  rw [hhp] at f1 f2
  have hWs : s.WarmedH U.vm := State.WarmedH.trans hW0 hW
  have hcl : s.vm.findClass cls = some ce.cls := by
    have h9 := hO.cls
    rw [hvm] at h9
    exact h9
  have hall : s.sameButNew ({ U with vm := s.vm } : State) locs mc ms := by
    subst hA
    obtain ⟨e1, e2⟩ := hsame
    rw [State.setFrames_setFrames] at e1
    have h2 : (T.setVm s.vm).sameButNew ({ U with vm := s.vm } : State) [] (0 + 1) (0 + 6) := ⟨e1, e2⟩
    have h3 := X.same.trans h2
    rw [List.append_nil] at h3
    exact h3.mono hc hs
  refine ⟨U, ?_, .threw T.heap.size, hrun, hend, Or.inr ⟨T.heap.size, rfl, cls, ce, locs, hx U hWs.alike f1 (fun q hq => f2 q hq (fun z hz => nomatch hz)), hce, hO.vm, hcl, hWs, hall, hf⟩⟩
  refine st1 _ ?_
  show Steps p.tables e below (T1.setTop { method := m, pc := pc + 3, locals := ls, stack := .ref T.heap.size :: rest, locked := none }) _
  jvm_step X₁.here [X₁.here.top, hexec, d3', Value.category]
  exact X₁.ldcString hexec (own := own) (text := text) (index := is) (a := sa) hown' hstr'.1 hstr'.2
    (g := { method := m, pc := pc + 4, locals := ls, stack := .ref T.heap.size :: .ref T.heap.size :: rest, locked := none }) rfl d4' _ hsteps
/-- 'throw new E("text")', the text by a wide index -/
theorem vx_throwSW {cc : ByteArray} {pc : Nat} (hexec : p.tables.exec = Jvm.exec) (hb : c.code = cc) (hl : l.stackTraces = false) {own cls text : String} {names : List String} {ik is ic mc ms sa : Nat} {A : Nat → Prop}
    (hown : s.vm.findClass own = some m.cls) (hcls : Bundle.fit cls = true) (hnames : ∀ n ∈ names, Bundle.fit n = true)
    (hk : (Cond.classLink own ik cls).before args s = true) (hini : (Cond.initialized cls).before args s = true) (hstr : vk_R own is text sa s) (hat : ∀ w ∈ vx_atS own ic cls names, w.before args s = true)
    (hgood : ∀ w ∈ Cond.classLink own ik cls :: Cond.initialized cls :: vx_atS own ic cls names, vx_ot w = true)
    (hU : vx_Zq Bundle.tN "UNASSIGNED_STACK" Bundle.steD A s s.heap) (hN : vx_Zq Bundle.tN "SUPPRESSED_SENTINEL" Bundle.listD A s s.heap) (hS : va_S A s.heap H locs) (hsize : ls.size = c.maxLocals)
    (d0 : decode cc pc = .ok (.new ik, 3)) (d3 : decode cc (pc + 3) = .ok (.dup, 1)) (d4 : decode cc (pc + 4) = .ok (.ldc_w is, 3)) (d7 : decode cc (pc + 7) = .ok (.invokespecial ic, 3)) (d10 : decode cc (pc + 10) = .ok (.athrow, 1))
    (hout : ∀ x ∈ c.exceptionTable.toList, covers x (pc + 10) = false)
    (hRframes : names.length + 3 < R.frames) (hRlocals : (rest.map fun v => v.category).sum + (13 * (names.length + 1) + 43) ≤ R.locals) (hRcells : cells + 1 ≤ R.cells) (hRslots : slots + 6 ≤ R.slots) (hlocks : meth.locks = false)
    (hx : ∀ t : State, s.vm.Alike t.vm → H.size ≤ t.heap.size → (∀ q : Nat, q < H.size → t.heap[q]? = H[q]?) → XC cls s t)
    (hf : ∀ z ∈ locs, free z.base) (hc : cells + 1 ≤ mc) (hs : slots + 6 ≤ ms) :
    W p l e R s m args below meth c H locs cells slots (vx_MQ below Qc XC args s mc ms free) (F0 m pc ls rest) := by
  intro T hT X
  have htr : e.platform.stackTraces = false := (show e.platform.stackTraces = l.stackTraces by rw [X.admits.platform]).trans hl
  have Y := vx_rebase X (R' := { frames := R.frames, locals := R.locals, cells := 1, slots := 6 }) (Nat.le_refl _) (Nat.le_refl _) hRcells hRslots
  obtain ⟨s', hA⟩ : ∃ z, z = (T.setVm s.vm).setFrames (.invoking m args :: below) := ⟨_, rfl⟩
  rw [← hA] at Y
  have hvm : s'.vm = s.vm := by rw [hA]; rfl
  have hhp : s'.heap = H := by rw [hA]; exact hT
  have hW0 : s.WarmedH s'.vm := by rw [hvm]; exact State.WarmedH.refl s
  have hat' : ∀ w ∈ vx_atS own ic cls names, w.before args s' = true := fun w hw => vx_ot_at hW0 hvm.symm (hgood w (List.mem_cons_of_mem _ (List.mem_cons_of_mem _ hw))) (hat w hw)
  have hk' : (Cond.classLink own ik cls).before args s' = true := vx_ot_at hW0 hvm.symm (hgood _ List.mem_cons_self) hk
  have hini' : (Cond.initialized cls).before args s' = true := vx_ot_at hW0 hvm.symm (hgood _ (List.mem_cons_of_mem _ List.mem_cons_self)) hini
  have hU' : vx_Zq Bundle.tN "UNASSIGNED_STACK" Bundle.steD A s' s'.heap := by rw [hhp]; exact vx_Zq.moved hW0.alike (hU.kept hS.2.1)
  have hN' : vx_Zq Bundle.tN "SUPPRESSED_SENTINEL" Bundle.listD A s' s'.heap := by rw [hhp]; exact vx_Zq.moved hW0.alike (hN.kept hS.2.1)
  have h : ∀ w ∈ Bundle.ownAtoms own ic cls names, w.before args s' = true := vx_own hat' (vx_isRefq hU'.1) (vx_isRefq hN'.1) hU'.2.word hN'.2.word
  have hown' : s'.vm.findClass own = some m.cls := by rw [hvm]; exact hown
  have hins : (Cond.instantiable cls 6).before args s' = true := h _ (by simp [Bundle.ownAtoms])
  obtain ⟨vm₁, cX, kX, hfX, hkX, -, -, X₁, st1⟩ := Y.newCold hexec (own := own) (C := cls) (index := ik) (n := 6) hown' hk' hins hini'
    (g := F0 m pc ls rest) rfl (by rw [hb]; exact d0) (Nat.le_refl _) (Nat.le_refl _)
  generalize hT1 : (T.setVm vm₁).pushCell { cls := cX, slots := kX.instanceTypes.map defaultValue, vm := .none } = T1 at X₁ st1
  have hcat : (Value.ref T.heap.size).category = 1 := rfl
  have hcellA : T1.heap[T.heap.size]? = some (freshCell cX kX) := by rw [← hT1]; exact State.heap_pushCell_size _ _
  have d3' : decode c.code (pc + 3) = .ok (.dup, 1) := by rw [hb]; exact d3
  have d4' : decode c.code (pc + 4) = .ok (.ldc_w is, 3) := by rw [hb]; exact d4
  have hstr' : vk_R own is text sa s' := vk_R.warm hW0 hstr
  obtain ⟨U, hsteps, hrun, hend, hW, hsame, ce, hce, hO⟩ := X₁.ctorThrowS hexec htr (own := own) (cls := cls) (names := names) (ic := ic) hown' hcls hnames h (fun x hx => nomatch hx) hfX hkX hcellA (by rw [hhp, hT]; exact Nat.le_refl _) (msg := .ref sa) rfl
    (g := { method := m, pc := pc + 7, locals := ls, stack := .ref sa :: .ref T.heap.size :: .ref T.heap.size :: rest, locked := none }) rfl hsize rfl rfl (rest := rest) rfl
    (by rw [hb]; exact d7) (by rw [hb]; exact d10) hout hRframes (by simp only [List.map_cons, List.sum_cons, hcat]; omega) hlocks
  obtain ⟨f1, f2⟩ := vx_frame hsame
  rw [hhp] at f1 f2
  have hWs : s.WarmedH U.vm := State.WarmedH.trans hW0 hW
  have hcl : s.vm.findClass cls = some ce.cls := by
    have h9 := hO.cls
    rw [hvm] at h9
    exact h9
  have hall : s.sameButNew ({ U with vm := s.vm } : State) locs mc ms := by
    subst hA
    obtain ⟨e1, e2⟩ := hsame
    rw [State.setFrames_setFrames] at e1
    have h2 : (T.setVm s.vm).sameButNew ({ U with vm := s.vm } : State) [] (0 + 1) (0 + 6) := ⟨e1, e2⟩
    have h3 := X.same.trans h2
    rw [List.append_nil] at h3
    exact h3.mono hc hs
  refine ⟨U, ?_, .threw T.heap.size, hrun, hend, Or.inr ⟨T.heap.size, rfl, cls, ce, locs, hx U hWs.alike f1 (fun q hq => f2 q hq (fun z hz => nomatch hz)), hce, hO.vm, hcl, hWs, hall, hf⟩⟩
  refine st1 _ ?_
  show Steps p.tables e below (T1.setTop { method := m, pc := pc + 3, locals := ls, stack := .ref T.heap.size :: rest, locked := none }) _
  jvm_step X₁.here [X₁.here.top, hexec, d3', Value.category]
  exact X₁.ldcStringW hexec (own := own) (text := text) (index := is) (a := sa) hown' hstr'.1 hstr'.2
    (g := { method := m, pc := pc + 4, locals := ls, stack := .ref T.heap.size :: .ref T.heap.size :: rest, locked := none }) rfl d4' _ hsteps
end Ends
section Bodies
variable {l : Launch}
theorem vx_ofW {y : MethodName} {ws ws' : List Cond} {rm : Room} {Pc : Array Value → State → Prop} {Qc : Array Value → State → Outcome → State → Prop} {XC : String → State → State → Prop} {mc ms : Nat} {free : Addr → Prop} {cc : ByteArray} {maxL : Nat} {ret : Option FieldType}
    (hy : plainName y.cls = true) (hw : ws = Cond.code y cc maxL ret :: ws')
    (body : ∀ p e s m args below meth c s₁, BodyLoose p l y (headSpec ws rm) cc maxL ret e s m args below meth c s₁ → c.maxLocals = maxL → (∀ x ∈ c.exceptionTable.toList, False) → Pc args s →
      W p l e (headSpec ws rm).room s m args below meth c s.heap [] 0 0 (vx_MQ below Qc XC args s mc ms free) (entryFrame m args maxL)) : vx_Met l y ws rm Pc Qc XC mc ms free := by
  refine MetFree.of_bodyS (code := cc) (maxLocals := maxL) (ret := ret) hy ?_ ?_
  · intro args s m h hn
    obtain ⟨meth, c, h1, h2, h3, h4, h5, h6, -, -⟩ := Cond.code_spec hn (atoms_spec (ws := ws) h _ (by rw [hw]; exact List.mem_cons_self))
    exact ⟨meth, c, h1, h2, h3, h4, h5, h6⟩
  · intro p e s m args below meth c s₁ B hml hP _
    have hh0 : s₁.heap = s.heap := by rw [B.state]; rfl
    have ht : ∀ x ∈ c.exceptionTable.toList, False := by
      obtain ⟨meth9, c9, h1, h2, -, -, -, -, h7, -⟩ := Cond.code_spec B.named (atoms_spec (ws := ws) B.pre _ (by rw [hw]; exact List.mem_cons_self))
      cases Option.some.inj (h1.symm.trans B.method)
      cases Option.some.inj (h2.symm.trans (Stand.of_body B).code)
      intro x hx
      rw [Array.isEmpty_iff.mp h7] at hx
      cases hx
    obtain ⟨t, a1, o, b1, b2, b3⟩ := body p e s m args below meth c s₁ B hml ht hP s₁ hh0 (Stand.of_body B)
    exact ⟨t, o, a1, b1, b2, b3⟩
/-- the table of a body with handlers -/
theorem vx_table {p : Program} {x y : MethodName} {S : Spec} {cc bytes : ByteArray} {maxL maxL' : Nat} {ret ret' : Option FieldType} {e : Env} {s s₁ : State} {m : MethodId} {args : Array Value} {below : List Frame} {meth : Method} {c : Code} {hh : List (Nat × Nat × Nat × Nat)}
    (B : BodyLoose p l y S cc maxL ret e s m args below meth c s₁) (h : (Cond.codeWith y bytes maxL' ret' hh).before args s = true) : c.exceptionTable.toList = tableOf hh := by
  obtain ⟨m9, meth9, c9, hn9, h1, h2, -, -, h6, -⟩ := Cond.codeWith_spec h
  cases Option.some.inj (hn9.symm.trans B.named)
  cases Option.some.inj (h1.symm.trans B.method)
  cases Option.some.inj (h2.symm.trans (Stand.of_body B).code)
  rw [← h6, table_eq]
end Bodies
end VXA
/-! ===== END ===== -/
/-! ===== BEGIN a static call of a method with an exception table ===== -/
section VXS
variable {p : Program} {l : Launch} {e : Env} {R : Room} {s : State} {m : MethodId} {args : Array Value} {below : List Frame} {meth : Method} {c : Code} {T : State} {H : Heap} {locs : List Loc} {cells slots : Nat}
abbrev vx_CSW (R : Room) (s : State) (args : Array Value) (own : String) (index : Nat) (y : MethodName) (bytes : ByteArray) (maxL : Nat) (ret : Option FieldType) (hh : List (Nat × Nat × Nat × Nat)) (ws : List Cond) (rm : Room) (mc ms n : Nat) : Prop :=
  (rm.cells = mc ∧ rm.slots = ms ∧ rm.frames + 1 ≤ R.frames ∧ 8 + (maxL + 11) + rm.locals ≤ R.locals ∧ (∀ w ∈ ws, ∀ (a' : Array Value) (U : State), s.WarmedH U.vm → w.before a' U = true) ∧ Cond.codeWith y bytes maxL ret hh ∈ ws) ∧
  (Cond.codeWith y bytes maxL ret hh).before args s = true ∧ (Cond.initialized y.cls).before args s = true ∧ (y.cls ≠ "java/lang/invoke/MethodHandle" ∧ y.cls ≠ "java/lang/invoke/VarHandle") ∧
  (∀ sig, parseMethodDescriptor y.desc = some sig → n = sig.parameters.length) ∧ (Cond.methodLink own index y).before args s = true ∧ (Cond.static y).before args s = true
theorem vx_cwSW {own : String} {index maxL mc ms : Nat} {y : MethodName} {bytes : ByteArray} {ret : Option FieldType} {hh : List (Nat × Nat × Nat × Nat)} {Ts ws ws' : List Cond} {rm : Room} (n : Nat) (ht : ∀ w ∈ Ts, w.before args s = true) (hT : GoodIn Ts (va_wsS own index y ws)) (hw : ws = Cond.codeWith y bytes maxL ret hh :: ws') (hrc : rm.cells = mc) (hrs : rm.slots = ms)
    (hd : y.cls ≠ "java/lang/invoke/MethodHandle" ∧ y.cls ≠ "java/lang/invoke/VarHandle" ∧ (parseMethodDescriptor y.desc).map (fun d => d.parameters.length) = some n) (hR : rm.frames + 1 ≤ R.frames ∧ 8 + (maxL + 11) + rm.locals ≤ R.locals) :
    vx_CSW R s args own index y bytes maxL ret hh ws rm mc ms n := by
  have ok : ∀ w ∈ va_wsS own index y ws, w.before args s = true := fun w h => ht w (hT w h).1
  have hG : GoodIn Ts ws := fun w h => hT w (by unfold va_wsS; exact List.mem_append_right _ h)
  have hc : Cond.codeWith y bytes maxL ret hh ∈ ws := by rw [hw]; exact List.mem_cons_self
  refine ⟨⟨hrc, hrs, hR.1, hR.2, pay_in ht hG, hc⟩, ht _ (hG _ hc).1, ok _ (by simp [va_wsS]), ⟨hd.1, hd.2.1⟩, fun sig h => ?_, ok _ (by simp [va_wsS]), ok _ (by simp [va_wsS])⟩
  have h2 := hd.2.2
  rw [h] at h2
  exact (Option.some.inj h2).symm
theorem vx_callSW (X : Stand p l e R s m args below meth c T locs cells slots) (hexec : p.tables.exec = Jvm.exec) {own : String} {index : Nat} {y : MethodName} {bytes : ByteArray} {maxL : Nat} {ret : Option FieldType} {hh : List (Nat × Nat × Nat × Nat)}
    (hown : s.vm.findClass own = some m.cls) (hlink : (Cond.methodLink own index y).before args s = true) (hstat : (Cond.static y).before args s = true) (hinit : (Cond.initialized y.cls).before args s = true)
    (hcode : (Cond.codeWith y bytes maxL ret hh).before args s = true) (hy : y.cls ≠ "java/lang/invoke/MethodHandle" ∧ y.cls ≠ "java/lang/invoke/VarHandle")
    {W9 : Nat} {Pre : Pt → Array Value → Prop} {Post : Pt → Array Value → Option Value → Pt → Prop} (hK : Back l R p e below s args y 3 W9 Pre Post)
    {g : JFrame} (hg : g.method = m) (hsize : g.locals.size = c.maxLocals) {argsL rest : List Value} (hlen : ∀ sig, parseMethodDescriptor y.desc = some sig → argsL.length = sig.parameters.length)
    (hstack : g.stack = argsL.reverse ++ rest) (hW : 2 * g.monitorRoom + (rest.map fun v => v.category).sum ≤ W9) (hdg : decode c.code g.pc = .ok (.invokestatic index, 3))
    (hpre : ∀ vm₁, s.WarmedH vm₁ → Pre ⟨T.setVm vm₁, locs, cells, slots⟩ argsL.toArray) :
    ∃ (v : Option Value) (vm₁ : Vm) (B : Pt), s.WarmedH vm₁ ∧ Stand p l e R s m args below meth c B.U B.locs B.cells B.slots ∧ Post ⟨T.setVm vm₁, locs, cells, slots⟩ argsL.toArray v B ∧
      ∀ target, Steps p.tables e below (B.U.setTop { g with pc := g.pc + 3, stack := v.toList ++ rest }) target → Steps p.tables e below (T.setTop g) target := by
  obtain ⟨mk, methM, cM, hnamed, hmethM, -, -, -, -, -, -, hsigM⟩ := Cond.codeWith_spec hcode
  have hstatic : methM.isStatic = true := Cond.static_spec hnamed hmethM hstat
  obtain ⟨kP, hkP, -⟩ := className_of_methodNamed hnamed
  have hinitP : kP.init = .initialized := Cond.initialized_spec (findClass_of_methodNamed hnamed) hkP hinit
  obtain ⟨vm₁, X₁, hstep₁⟩ := X.invokestatic hexec hown hlink hnamed hmethM hstatic hkP hinitP hy (g := g) hg (argsL := argsL) (rest := rest) (hlen _ hsigM) hstack hdg
  obtain ⟨v, B, X', hpost, hsteps⟩ := hK m meth c ⟨T.setVm vm₁, locs, cells, slots⟩ { g with stack := rest } (.invokestatic index) mk argsL.toArray X₁ hg hsize hdg hW (X₁.named hnamed) (hpre vm₁ X₁.warmed)
  exact ⟨v, vm₁, B, X₁.warmed, X', hpost, fun target h => hstep₁ _ fun acts => by rw [doInvoke_state]; exact hsteps.trans h⟩
theorem vx_runSW {y : MethodName} {bytes cc : ByteArray} {maxL nL mc ms n index : Nat} {ret : Option FieldType} {hh : List (Nat × Nat × Nat × Nat)} {ws : List Cond} {rm : Room} {Pc : Array Value → State → Prop} {Qc : Array Value → State → Outcome → State → Prop} {free : Addr → Prop} {Ts : List Cond} {own : String} {As rest : List Value} {g : JFrame}
    (S : CallFix p m c cc nL s args Ts own) (hM : Met l y ws rm Pc Qc mc ms free) (cw : vx_CSW R s args own index y bytes maxL ret hh ws rm mc ms n) (hp : PreS s H Pc As)
    (hg : g.method = m) (hn : As.length = n) (hsize : g.locals.size = nL) (hstack : g.stack = As.reverse ++ rest) (hW : 2 * g.monitorRoom + (rest.map fun v => v.category).sum ≤ 8) (hdg : decode cc g.pc = .ok (.invokestatic index, 3)) (hf : cells + mc ≤ R.cells ∧ slots + ms ≤ R.slots) :
    va_Run p l e R s m args below meth c H locs cells slots mc ms g rest (Qc As.toArray) (free) := by
  obtain ⟨⟨hrc, hrs, hfr, hlo, hws, hcw⟩, hcode, hini, hy, hlen, hl, hstt⟩ := cw
  have hK : Back l R p e below s args y 3 8 (PreOf R mc ms Pc) (PostOf Qc mc ms free) := va_backW (hh := hh) (bytes := bytes) (maxL := maxL) (ret := ret) hM hp.1 hrc hrs hfr hlo hws hcw (fun a' U hW => word_at hW (Or.inl (by first | rfl | simp [Cond.onTables, Cond.keeps, Cond.steady])) hini)
  obtain ⟨hx, hb, hml, ho, -⟩ := S
  intro T hT X
  obtain ⟨v, vm₁, ⟨U', l2, c2, s2⟩, hW₁, X', ⟨g', mk, t, L, e1, e2, hq, h1, hL, h2, h3⟩, st⟩ := vx_callSW X hx (hh := hh) (bytes := bytes) (maxL := maxL) (ret := ret) ho hl hstt hini hcode hy hK hg (hsize.trans hml.symm) (argsL := As) (rest := rest) (fun sig h => hn.trans (hlen sig h)) hstack hW (by rw [hb]; exact hdg)
    (fun vm₁ hW₁ => ⟨hf.1, hf.2, hp.2 (T.setVm vm₁) hT hW₁⟩)
  dsimp only [Pt.U, Pt.locs, Pt.cells, Pt.slots] at X' e1 e2 h1 h2 h3 st
  subst h1; subst h2; subst h3
  exact ⟨v, (T.setVm vm₁).calling g' mk As.toArray, t, U', L, hT, X', hL, e1, e2, hq, st⟩
/-- not caught here, past rows that name other classes: it goes on to the caller -/
theorem vx_outP {p : Program} {l : Launch} {e : Env} {R : Room} {s : State} {m : MethodId} {args : Array Value} {below : List Frame} {meth : Method} {c : Code} {H : Heap} {locs : List Loc} {cells slots : Nat} {free : Addr → Prop} {ls : Array Slot} {rest : List Value} {Qc : Array Value → State → Outcome → State → Prop} {XC : String → State → State → Prop}
    {pc : Nat} {own E : String} {ce : Cell} {q : Addr} {mc ms : Nat} (hown : s.vm.findClass own = some m.cls) (hlocks : meth.locks = false)
    (hpass : ∀ z ∈ c.exceptionTable.toList, covers z pc = false ∨ (z.catchType ≠ 0 ∧ ∃ nm : String, (Cond.classLink own z.catchType nm).before args s = true ∧ va_Nc E nm s)) (hcell : H[q]? = some ce) (hv : ce.vm = .none) (hcl : s.vm.findClass E = some ce.cls)
    (hx : ∀ t : State, t.heap = H → s.vm.Alike t.vm → XC E s t) (hf : ∀ z ∈ locs, free z.base) (hc : cells ≤ mc) (hs : slots ≤ ms) :
    vx_W p l e R s m args below meth c H locs cells slots (vx_MQ below Qc XC args s mc ms free) (F0 m pc ls rest) q := by
  intro T hT X
  have hpl : e.platform.magicAccessors = ({} : Platform).magicAccessors := by rw [X.admits.platform]
  obtain ⟨vm', hW', X', st⟩ := X.outThrough hlocks q (g := F0 m pc ls rest) rfl rfl rfl (cell := ce) (by rw [hT]; exact hcell) (by rw [hv]; rfl)
    (by obtain ⟨k9, h9, -⟩ := Vm.findClass_spec hcl; exact ⟨k9, h9⟩) (fun z hz => by
      rcases hpass z hz with h | ⟨hz0, nm, hl1, hn1⟩
      · exact Or.inl h
      · obtain ⟨c6, hc6, hcl6⟩ := Cond.classLink_spec hown hl1 e.platform hpl
        obtain ⟨a8, b8, h1, h2, h3⟩ := hn1
        cases Option.some.inj (h1.symm.trans hcl)
        cases Option.some.inj (h2.symm.trans hc6)
        exact Or.inr ⟨hz0, _, hcl6, h3⟩)
  obtain ⟨g₀, hfr⟩ := X'.frames_eq
  have hcell9 : ((T.setVm vm').setFrames (.throwing q :: below)).heap[q]? = some ce := by
    show T.heap[q]? = some ce
    rw [hT]; exact hcell
  have hend : Ended ((T.setVm vm').setFrames (.throwing q :: below)) below (.threw q) := State.frames_setFrames _ (State.cur_lt_of_frames hfr)
  refine ⟨(T.setVm vm').setFrames (.throwing q :: below), ?_, .threw q, X'.here.running, hend, Or.inr ⟨q, rfl, E, ce, locs, hx _ hT (X'.ends _).1.alike, hcell9, hv, hcl, (X'.ends _).1, (X'.ends _).2.mono hc hs, hf⟩⟩
  rw [X.pushThrowing_eq]
  exact st
/-- a thing of a world lies in the heap -/
theorem vx_lt {D : va_G} {cl : List vw_C} {ws : va_W} {H1 : Heap} (h : va_P D cl ws H1) {k : Nat} {q : Nat × va_E} (hk : ws[k]? = some q) : q.1 < H1.size := (h k q hk).lt
end VXS
/-! ===== END ===== -/
/-! ===== BEGIN methods with a table of their own: called by a name, returning or throwing ===== -/
section VXH
/-! vx_backW, vx_callVX, vx_callSX, vx_callVW, vx_runVW, vx_runVX, vx_runSX, vx_ofWH follow the same proofs as their sisters above (Free/Laws.lean, Shelf42/LK1.lean); vx_outP calls Shelf42/NT130.lean (outThrough). -/
section
variable {l : Launch} {R : Room} {p : Program} {e : Env} {below : List Frame} {s : State} {sargs : Array Value} {y : MethodName} {len W9 : Nat}
theorem vx_backW {ws : List Cond} {rm : Room} {Pc : Array Value → State → Prop} {Qc : Array Value → State → Outcome → State → Prop} {XC : String → State → State → Prop} {mc ms : Nat} {free : Addr → Prop} {bytes : ByteArray} {maxL : Nat} {ret : Option FieldType} {hh : List (Nat × Nat × Nat × Nat)}
    (hM : vx_Met l y ws rm Pc Qc XC mc ms free) (hblind : FrameBlind Pc) (hrc : rm.cells = mc) (hrs : rm.slots = ms)
    (hframes : rm.frames + 1 ≤ R.frames) (hlocals : W9 + (maxL + 11) + rm.locals ≤ R.locals)
    (hws : ∀ w ∈ ws, ∀ a' U, s.WarmedH U.vm → w.before a' U = true) (hcode : Cond.codeWith y bytes maxL ret hh ∈ ws) (hinit : ∀ a' U, s.WarmedH U.vm → (Cond.initialized y.cls).before a' U = true) :
    vx_Back l R p e below s sargs y len W9 (PreOf R mc ms Pc) (PostOf Qc mc ms free) (vx_Post XC mc ms free) := by
  intro m meth c A g ig mk a X hg hsize hdg hW hn hp
  have h1 : (headSpec ws rm).pre.before a A.U = true := atoms_intro fun w hw => hws w hw _ _ X.warmed
  have h2 : (Cond.codeWith y bytes maxL ret hh).before a A.U = true := hws _ hcode _ _ X.warmed
  have h3 : (Cond.initialized y.cls).before a A.U = true := hinit _ _ X.warmed
  have h4 : A.cells + (headSpec ws rm).room.cells ≤ R.cells := by rw [show (headSpec ws rm).room.cells = mc from hrc]; exact hp.1
  have h5 : A.slots + (headSpec ws rm).room.slots ≤ R.slots := by rw [show (headSpec ws rm).room.slots = ms from hrs]; exact hp.2.1
  have hPc : Pc a (A.U.calling g mk a) := hblind _ _ _ _ hp.2.2
  obtain ⟨U, Ls, c0, s0⟩ := A
  dsimp only [Pt.U, Pt.locs, Pt.cells, Pt.slots] at h1 h2 h3 h4 h5 X hn hPc ⊢
  obtain ⟨m9, methY, cY, hn9, hmY, hcY, -, hlY, -⟩ := Cond.codeWith_spec h2
  cases Option.some.inj (hn9.symm.trans hn)
  obtain ⟨kY, hkY, -⟩ := className_of_methodNamed hn
  have hinitY : kY.init = .initialized := Cond.initialized_spec (findClass_of_methodNamed hn) hkY h3
  have h : At U g.method c below := by rw [hg]; exact X.here
  have hlocals9 : W9 + (maxL + 11) + (headSpec ws rm).room.locals ≤ R.locals := hlocals
  have happ : (headSpec ws rm).appliesLoose y e.platform (U.calling g mk a) = true :=
    Spec.appliesLoose_calling (g := g) h hdg hn hkY hinitY
      (X.room_calling (g := g) (R' := (headSpec ws rm).room) hsize hmY hcY hframes (by rw [hlY]; omega) h4 h5) h1
  obtain ⟨mid, hmid⟩ := h.above
  have hfr : (U.setTop g).frames = (.java g :: mid) ++ below := by rw [State.frames_setTop' g h.top, hmid]; rfl
  obtain ⟨o, s₂, hsteps, -, hend, hq⟩ := Steps.callFree hM p X.admits X.cas X.clock (acts := []) hfr happ hPc trivial
  have hq' : vx_Q Qc XC mc ms free a (U.calling g mk a) o s₂ := hq
  rw [State.frames_setTop' g h.top] at hend
  obtain ⟨g₀, hg0⟩ := Option.isSome_iff_exists.mp h.top
  obtain ⟨r, hr⟩ := State.topJava?_eq_some.mp hg0
  have hr' : (({ U with heap := s₂.heap, slotsUsed := s₂.slotsUsed } : State).setVm s₂.vm).frames = .java g₀ :: r := hr
  rcases hq' with ⟨hqc, L, hfe, hL⟩ | ⟨q, rfl, E, ce, L, hx, hce, hcv, hcl, hW₂, hsm, hL⟩
  · obtain ⟨⟨v, rfl⟩, hW₂, e2, q2, q3, q4, q5, q6⟩ := id hfe
    have e3 : s₂ = ({ (U.calling g mk a).setFrames s₂.frames with heap := s₂.heap, slotsUsed := s₂.slotsUsed } : State).setVm s₂.vm := by
      have : s₂ = ({ s₂ with vm := (U.calling g mk a).vm } : State).setVm s₂.vm := rfl
      rw [e2] at this
      exact this
    obtain ⟨c₂, i₂, len₂, hc₂, hd₂, hf₂⟩ := hend
    have hW' : U.WarmedH s₂.vm := hW₂
    have hcc : c₂ = c := by
      have h1 : s₂.code? g.method = U.code? g.method := by
        rw [State.code?_eq, State.code?_eq, hW'.alike.method?]
      exact Option.some.inj (hc₂.symm.trans (h1.trans h.code))
    subst hcc
    have hlen : len₂ = len := by rw [hdg] at hd₂; cases hd₂; rfl
    subst hlen
    have hs₂ : s₂ = (({ U with heap := s₂.heap, slotsUsed := s₂.slotsUsed } : State).setVm s₂.vm).setTop { g with pc := g.pc + len₂, stack := v.toList ++ g.stack } := by
      refine e3.trans ?_
      rw [hf₂, State.calling_eq h.top, State.setFrames_setFrames, State.setTop_of_frames _ hr', hr]
      rfl
    have hsame : U.sameButNew ({ U with heap := s₂.heap, slotsUsed := s₂.slotsUsed } : State) L mc ms := by
      refine ⟨?_, q2, q3, q4, q5, q6⟩
      obtain ⟨t, ht, -⟩ := State.frames_cons hr
      show ({ U with heap := s₂.heap, slotsUsed := s₂.slotsUsed } : State) = { U.setFrames U.frames with heap := s₂.heap, slotsUsed := s₂.slotsUsed }
      rw [State.setFrames_self ht]
    subst hg
    refine Or.inl ⟨v, ⟨(({ U with heap := s₂.heap, slotsUsed := s₂.slotsUsed } : State).setVm s₂.vm), Ls ++ L, c0 + mc, s0 + ms⟩,
      ⟨X.admits, X.cas, X.clock, X.frames, X.room, X.hears, X.method, X.code, (X.here.setHeapUsed s₂.heap s₂.slotsUsed).setVm hW'.alike, X.tail, State.WarmedH.trans X.warmed hW', X.limits, X.bytes, X.same.trans (hsame.setVm s.vm)⟩,
      ⟨g, mk, s₂, L, rfl, rfl, hqc, rfl, hL, rfl, rfl⟩, ?_⟩
    show Steps p.tables e below _ ((({ U with heap := s₂.heap, slotsUsed := s₂.slotsUsed } : State).setVm s₂.vm).setTop { g with pc := g.pc + len₂, stack := v.toList ++ g.stack })
    rw [← hs₂]
    exact hsteps
  · obtain ⟨e2, q2, q3, q4, q5, q6⟩ := id hsm
    have e3 : s₂ = ({ (U.calling g mk a).setFrames s₂.frames with heap := s₂.heap, slotsUsed := s₂.slotsUsed } : State).setVm s₂.vm := by
      have : s₂ = ({ s₂ with vm := (U.calling g mk a).vm } : State).setVm s₂.vm := rfl
      rw [e2] at this
      exact this
    have hf₂ : s₂.frames = .throwing q :: .java g :: U.frames.tail := hend
    have hW' : U.WarmedH s₂.vm := hW₂
    have hs₂ : s₂ = ((({ U with heap := s₂.heap, slotsUsed := s₂.slotsUsed } : State).setVm s₂.vm).setTop g).pushFrame (.throwing q) := by
      refine e3.trans ?_
      rw [hf₂, State.calling_eq h.top, State.setFrames_setFrames, State.pushFrame, State.frames_setTop _ hr', State.setTop_of_frames _ hr', State.setFrames_setFrames, hr]
      rfl
    have hsame : U.sameButNew ({ U with heap := s₂.heap, slotsUsed := s₂.slotsUsed } : State) L mc ms := by
      refine ⟨?_, q2, q3, q4, q5, q6⟩
      obtain ⟨t, ht, -⟩ := State.frames_cons hr
      show ({ U with heap := s₂.heap, slotsUsed := s₂.slotsUsed } : State) = { U.setFrames U.frames with heap := s₂.heap, slotsUsed := s₂.slotsUsed }
      rw [State.setFrames_self ht]
    subst hg
    refine Or.inr ⟨q, ⟨(({ U with heap := s₂.heap, slotsUsed := s₂.slotsUsed } : State).setVm s₂.vm), Ls ++ L, c0 + mc, s0 + ms⟩,
      ⟨X.admits, X.cas, X.clock, X.frames, X.room, X.hears, X.method, X.code, (X.here.setHeapUsed s₂.heap s₂.slotsUsed).setVm hW'.alike, X.tail, State.WarmedH.trans X.warmed hW', X.limits, X.bytes, X.same.trans (hsame.setVm s.vm)⟩,
      ⟨g, mk, s₂, L, E, ce, rfl, rfl, hx, hce, hcv, hcl, rfl, hL, rfl, rfl⟩, ?_⟩
    show Steps p.tables e below _ (((({ U with heap := s₂.heap, slotsUsed := s₂.slotsUsed } : State).setVm s₂.vm).setTop g).pushFrame (.throwing q))
    rw [← hs₂]
    exact hsteps
end
variable {p : Program} {l : Launch} {e : Env} {R : Room} {s : State} {m : MethodId} {args : Array Value} {below : List Frame} {meth : Method} {c : Code} {T : State} {H : Heap} {locs : List Loc} {cells slots : Nat}
theorem vx_callVX (X : Stand p l e R s m args below meth c T locs cells slots) (hexec : p.tables.exec = Jvm.exec) {own C : String} {index : Nat} {y : MethodName} {bytes : ByteArray} {maxL : Nat} {ret : Option FieldType} {hh : List (Nat × Nat × Nat × Nat)}
    (hown : s.vm.findClass own = some m.cls) (hlink : (Cond.methodLink own index y).before args s = true) (hinst : (Cond.instanceMethod y).before args s = true) (hsel : (Cond.selects C y y).before args s = true)
    (hcode : (Cond.codeWith y bytes maxL ret hh).before args s = true) (hy : y.cls ≠ "java/lang/invoke/MethodHandle" ∧ y.cls ≠ "java/lang/invoke/VarHandle")
    {W9 : Nat} {Pre : Pt → Array Value → Prop} {Post : Pt → Array Value → Option Value → Pt → Prop} {PostX : Pt → Array Value → Addr → Pt → Prop} (hK : vx_Back l R p e below s args y 3 W9 Pre Post PostX)
    {b : Addr} {cellB : Cell} (hcell : T.heap[b]? = some cellB) (hobj : cellB.vm.isStatics = false) (hcls : s.vm.findClass C = some cellB.cls)
    {g : JFrame} (hg : g.method = m) (hsize : g.locals.size = c.maxLocals) {argsL rest : List Value} (hlen : ∀ sig, parseMethodDescriptor y.desc = some sig → argsL.length = sig.parameters.length)
    (hstack : g.stack = argsL.reverse ++ .ref b :: rest) (hW : 2 * g.monitorRoom + (rest.map fun v => v.category).sum ≤ W9) (hdg : decode c.code g.pc = .ok (.invokevirtual index, 3))
    (hpre : ∀ vm₁, s.WarmedH vm₁ → Pre ⟨T.setVm vm₁, locs, cells, slots⟩ (Value.ref b :: argsL).toArray) :
    (∃ (v : Option Value) (vm₁ : Vm) (B : Pt), s.WarmedH vm₁ ∧ Stand p l e R s m args below meth c B.U B.locs B.cells B.slots ∧ Post ⟨T.setVm vm₁, locs, cells, slots⟩ (Value.ref b :: argsL).toArray v B ∧
      ∀ target, Steps p.tables e below (B.U.setTop { g with pc := g.pc + 3, stack := v.toList ++ rest }) target → Steps p.tables e below (T.setTop g) target) ∨
    (∃ (q : Addr) (vm₁ : Vm) (B : Pt), s.WarmedH vm₁ ∧ Stand p l e R s m args below meth c B.U B.locs B.cells B.slots ∧ PostX ⟨T.setVm vm₁, locs, cells, slots⟩ (Value.ref b :: argsL).toArray q B ∧
      Steps p.tables e below (T.setTop g) ((B.U.setTop { g with stack := rest }).pushFrame (.throwing q))) := by
  obtain ⟨mk, methM, hnamed, hmethM, hstM, habM⟩ := Cond.instanceMethod_spec hinst
  obtain ⟨m8, methM', cM, hn8, hmethM', -, -, -, -, -, -, hsigM⟩ := Cond.codeWith_spec hcode
  cases Option.some.inj (hn8.symm.trans hnamed)
  cases hmethM.symm.trans hmethM'
  obtain ⟨c2, r2, m2, q1, q2, q3, q4, kP, hkP, hkPi⟩ := Cond.selects_spec hsel
  cases hcls.symm.trans q1
  cases (State.methodFound?_of_named hnamed hy).symm.trans q2
  cases hnamed.symm.trans q3
  have hselP : selectMethod e.platform s.vm cellB.cls mk = .method mk := by rw [Launch.admits_selectMethod X.admits]; exact q4
  obtain ⟨vm₁, X₁, hstep₁⟩ := X.invokevirtual hexec hown hlink hnamed hmethM hstM hkP hkPi hy (a := b) (cell := cellB) hcell
    (fun z h => by rw [h] at hobj; cases hobj) hselP hmethM habM hkP hkPi (g := g) hg (argsL := argsL) (rest := rest) (hlen _ hsigM) hstack hdg
  rcases hK m meth c ⟨T.setVm vm₁, locs, cells, slots⟩ { g with stack := rest } (.invokevirtual index) mk (Value.ref b :: argsL).toArray X₁ hg hsize hdg hW (X₁.named hnamed) (hpre vm₁ X₁.warmed) with ⟨v, B, X', hpost, hsteps⟩ | ⟨q, B, X', hpost, hsteps⟩
  · exact Or.inl ⟨v, vm₁, B, X₁.warmed, X', hpost, fun target h => hstep₁ _ fun acts => by rw [doInvoke_state]; exact hsteps.trans h⟩
  · exact Or.inr ⟨q, vm₁, B, X₁.warmed, X', hpost, hstep₁ _ fun acts => by rw [doInvoke_state]; exact hsteps⟩
theorem vx_callSX (X : Stand p l e R s m args below meth c T locs cells slots) (hexec : p.tables.exec = Jvm.exec) {own : String} {index : Nat} {y : MethodName} {bytes : ByteArray} {maxL : Nat} {ret : Option FieldType} {hh : List (Nat × Nat × Nat × Nat)}
    (hown : s.vm.findClass own = some m.cls) (hlink : (Cond.methodLink own index y).before args s = true) (hstat : (Cond.static y).before args s = true) (hinit : (Cond.initialized y.cls).before args s = true)
    (hcode : (Cond.codeWith y bytes maxL ret hh).before args s = true) (hy : y.cls ≠ "java/lang/invoke/MethodHandle" ∧ y.cls ≠ "java/lang/invoke/VarHandle")
    {W9 : Nat} {Pre : Pt → Array Value → Prop} {Post : Pt → Array Value → Option Value → Pt → Prop} {PostX : Pt → Array Value → Addr → Pt → Prop} (hK : vx_Back l R p e below s args y 3 W9 Pre Post PostX)
    {g : JFrame} (hg : g.method = m) (hsize : g.locals.size = c.maxLocals) {argsL rest : List Value} (hlen : ∀ sig, parseMethodDescriptor y.desc = some sig → argsL.length = sig.parameters.length)
    (hstack : g.stack = argsL.reverse ++ rest) (hW : 2 * g.monitorRoom + (rest.map fun v => v.category).sum ≤ W9) (hdg : decode c.code g.pc = .ok (.invokestatic index, 3))
    (hpre : ∀ vm₁, s.WarmedH vm₁ → Pre ⟨T.setVm vm₁, locs, cells, slots⟩ argsL.toArray) :
    (∃ (v : Option Value) (vm₁ : Vm) (B : Pt), s.WarmedH vm₁ ∧ Stand p l e R s m args below meth c B.U B.locs B.cells B.slots ∧ Post ⟨T.setVm vm₁, locs, cells, slots⟩ argsL.toArray v B ∧
      ∀ target, Steps p.tables e below (B.U.setTop { g with pc := g.pc + 3, stack := v.toList ++ rest }) target → Steps p.tables e below (T.setTop g) target) ∨
    (∃ (q : Addr) (vm₁ : Vm) (B : Pt), s.WarmedH vm₁ ∧ Stand p l e R s m args below meth c B.U B.locs B.cells B.slots ∧ PostX ⟨T.setVm vm₁, locs, cells, slots⟩ argsL.toArray q B ∧
      Steps p.tables e below (T.setTop g) ((B.U.setTop { g with stack := rest }).pushFrame (.throwing q))) := by
  obtain ⟨mk, methM, cM, hnamed, hmethM, -, -, -, -, -, -, hsigM⟩ := Cond.codeWith_spec hcode
  have hstatic : methM.isStatic = true := Cond.static_spec hnamed hmethM hstat
  obtain ⟨kP, hkP, -⟩ := className_of_methodNamed hnamed
  have hinitP : kP.init = .initialized := Cond.initialized_spec (findClass_of_methodNamed hnamed) hkP hinit
  obtain ⟨vm₁, X₁, hstep₁⟩ := X.invokestatic hexec hown hlink hnamed hmethM hstatic hkP hinitP hy (g := g) hg (argsL := argsL) (rest := rest) (hlen _ hsigM) hstack hdg
  rcases hK m meth c ⟨T.setVm vm₁, locs, cells, slots⟩ { g with stack := rest } (.invokestatic index) mk argsL.toArray X₁ hg hsize hdg hW (X₁.named hnamed) (hpre vm₁ X₁.warmed) with ⟨v, B, X', hpost, hsteps⟩ | ⟨q, B, X', hpost, hsteps⟩
  · exact Or.inl ⟨v, vm₁, B, X₁.warmed, X', hpost, fun target h => hstep₁ _ fun acts => by rw [doInvoke_state]; exact hsteps.trans h⟩
  · exact Or.inr ⟨q, vm₁, B, X₁.warmed, X', hpost, hstep₁ _ fun acts => by rw [doInvoke_state]; exact hsteps⟩
theorem vx_callVW (X : Stand p l e R s m args below meth c T locs cells slots) (hexec : p.tables.exec = Jvm.exec) {own C : String} {index : Nat} {y : MethodName} {bytes : ByteArray} {maxL : Nat} {ret : Option FieldType} {hh : List (Nat × Nat × Nat × Nat)}
    (hown : s.vm.findClass own = some m.cls) (hlink : (Cond.methodLink own index y).before args s = true) (hinst : (Cond.instanceMethod y).before args s = true) (hsel : (Cond.selects C y y).before args s = true)
    (hcode : (Cond.codeWith y bytes maxL ret hh).before args s = true) (hy : y.cls ≠ "java/lang/invoke/MethodHandle" ∧ y.cls ≠ "java/lang/invoke/VarHandle")
    {W9 : Nat} {Pre : Pt → Array Value → Prop} {Post : Pt → Array Value → Option Value → Pt → Prop} (hK : Back l R p e below s args y 3 W9 Pre Post)
    {b : Addr} {cellB : Cell} (hcell : T.heap[b]? = some cellB) (hobj : cellB.vm.isStatics = false) (hcls : s.vm.findClass C = some cellB.cls)
    {g : JFrame} (hg : g.method = m) (hsize : g.locals.size = c.maxLocals) {argsL rest : List Value} (hlen : ∀ sig, parseMethodDescriptor y.desc = some sig → argsL.length = sig.parameters.length)
    (hstack : g.stack = argsL.reverse ++ .ref b :: rest) (hW : 2 * g.monitorRoom + (rest.map fun v => v.category).sum ≤ W9) (hdg : decode c.code g.pc = .ok (.invokevirtual index, 3))
    (hpre : ∀ vm₁, s.WarmedH vm₁ → Pre ⟨T.setVm vm₁, locs, cells, slots⟩ (Value.ref b :: argsL).toArray) :
    ∃ (v : Option Value) (vm₁ : Vm) (B : Pt), s.WarmedH vm₁ ∧ Stand p l e R s m args below meth c B.U B.locs B.cells B.slots ∧ Post ⟨T.setVm vm₁, locs, cells, slots⟩ (Value.ref b :: argsL).toArray v B ∧
      ∀ target, Steps p.tables e below (B.U.setTop { g with pc := g.pc + 3, stack := v.toList ++ rest }) target → Steps p.tables e below (T.setTop g) target := by
  obtain ⟨mk, methM, hnamed, hmethM, hstM, habM⟩ := Cond.instanceMethod_spec hinst
  obtain ⟨m8, methM', cM, hn8, hmethM', -, -, -, -, -, -, hsigM⟩ := Cond.codeWith_spec hcode
  cases Option.some.inj (hn8.symm.trans hnamed)
  cases hmethM.symm.trans hmethM'
  obtain ⟨c2, r2, m2, q1, q2, q3, q4, kP, hkP, hkPi⟩ := Cond.selects_spec hsel
  cases hcls.symm.trans q1
  cases (State.methodFound?_of_named hnamed hy).symm.trans q2
  cases hnamed.symm.trans q3
  have hselP : selectMethod e.platform s.vm cellB.cls mk = .method mk := by rw [Launch.admits_selectMethod X.admits]; exact q4
  obtain ⟨vm₁, X₁, hstep₁⟩ := X.invokevirtual hexec hown hlink hnamed hmethM hstM hkP hkPi hy (a := b) (cell := cellB) hcell
    (fun z h => by rw [h] at hobj; cases hobj) hselP hmethM habM hkP hkPi (g := g) hg (argsL := argsL) (rest := rest) (hlen _ hsigM) hstack hdg
  obtain ⟨v, B, X', hpost, hsteps⟩ := hK m meth c ⟨T.setVm vm₁, locs, cells, slots⟩ { g with stack := rest } (.invokevirtual index) mk (Value.ref b :: argsL).toArray X₁ hg hsize hdg hW (X₁.named hnamed) (hpre vm₁ X₁.warmed)
  exact ⟨v, vm₁, B, X₁.warmed, X', hpost, fun target h => hstep₁ _ fun acts => by rw [doInvoke_state]; exact hsteps.trans h⟩
abbrev vx_CVW (R : Room) (s : State) (args : Array Value) (own C : String) (index : Nat) (y : MethodName) (bytes : ByteArray) (maxL : Nat) (ret : Option FieldType) (hh : List (Nat × Nat × Nat × Nat)) (ws : List Cond) (rm : Room) (mc ms n : Nat) : Prop :=
  (rm.cells = mc ∧ rm.slots = ms ∧ rm.frames + 1 ≤ R.frames ∧ 8 + (maxL + 11) + rm.locals ≤ R.locals ∧ (∀ w ∈ ws, ∀ (a' : Array Value) (U : State), s.WarmedH U.vm → w.before a' U = true) ∧ Cond.codeWith y bytes maxL ret hh ∈ ws) ∧
  (Cond.codeWith y bytes maxL ret hh).before args s = true ∧ (Cond.initialized y.cls).before args s = true ∧ (y.cls ≠ "java/lang/invoke/MethodHandle" ∧ y.cls ≠ "java/lang/invoke/VarHandle") ∧
  (∀ sig, parseMethodDescriptor y.desc = some sig → n = sig.parameters.length) ∧ (Cond.methodLink own index y).before args s = true ∧ (Cond.instanceMethod y).before args s = true ∧ (Cond.selects C y y).before args s = true
theorem vx_cwVW {own C : String} {index maxL mc ms : Nat} {y : MethodName} {bytes : ByteArray} {ret : Option FieldType} {hh : List (Nat × Nat × Nat × Nat)} {Ts ws ws' : List Cond} {rm : Room} (n : Nat) (ht : ∀ w ∈ Ts, w.before args s = true) (hT : GoodIn Ts (wsV own index C y ws)) (hw : ws = Cond.codeWith y bytes maxL ret hh :: ws') (hrc : rm.cells = mc) (hrs : rm.slots = ms)
    (hd : y.cls = C ∧ y.cls ≠ "java/lang/invoke/MethodHandle" ∧ y.cls ≠ "java/lang/invoke/VarHandle" ∧ (parseMethodDescriptor y.desc).map (fun d => d.parameters.length) = some n) (hR : rm.frames + 1 ≤ R.frames ∧ 8 + (maxL + 11) + rm.locals ≤ R.locals) :
    vx_CVW R s args own C index y bytes maxL ret hh ws rm mc ms n := by
  obtain ⟨hC, hd⟩ := hd
  subst hC
  have ok : ∀ w ∈ wsV own index y.cls y ws, w.before args s = true := fun w h => ht w (hT w h).1
  have hG : GoodIn Ts ws := fun w h => hT w (by unfold wsV; exact List.mem_append_right _ h)
  have hc : Cond.codeWith y bytes maxL ret hh ∈ ws := by rw [hw]; exact List.mem_cons_self
  refine ⟨⟨hrc, hrs, hR.1, hR.2, pay_in ht hG, hc⟩, ht _ (hG _ hc).1, ok _ (by simp [wsV]), ⟨hd.1, hd.2.1⟩, fun sig h => ?_, ok _ (by simp [wsV]), ok _ (by simp [wsV]), ok _ (by simp [wsV])⟩
  have h2 := hd.2.2
  rw [h] at h2
  exact (Option.some.inj h2).symm
theorem vx_runVW {y : MethodName} {bytes cc : ByteArray} {maxL nL mc ms n index : Nat} {ret : Option FieldType} {hh : List (Nat × Nat × Nat × Nat)} {ws : List Cond} {rm : Room} {Pc : Array Value → State → Prop} {Qc : Array Value → State → Outcome → State → Prop} {free : Addr → Prop} {Ts : List Cond} {own C : String} {b : Addr} {As rest : List Value} {g : JFrame}
    (S : CallFix p m c cc nL s args Ts own) (hM : Met l y ws rm Pc Qc mc ms free) (cw : vx_CVW R s args own C index y bytes maxL ret hh ws rm mc ms n) (hp : PreV s H C b Pc As)
    (hg : g.method = m) (hn : As.length = n) (hsize : g.locals.size = nL) (hstack : g.stack = As.reverse ++ .ref b :: rest) (hW : 2 * g.monitorRoom + (rest.map fun v => v.category).sum ≤ 8) (hdg : decode cc g.pc = .ok (.invokevirtual index, 3)) (hf : cells + mc ≤ R.cells ∧ slots + ms ≤ R.slots) :
    va_Run p l e R s m args below meth c H locs cells slots mc ms g rest (Qc (Value.ref b :: As).toArray) free := by
  obtain ⟨⟨hrc, hrs, hfr, hlo, hws, hcw⟩, hcode, hini, hy, hlen, hl, hin, hse⟩ := cw
  have hK : Back l R p e below s args y 3 8 (PreOf R mc ms Pc) (PostOf Qc mc ms free) := va_backW (hh := hh) (bytes := bytes) (maxL := maxL) (ret := ret) hM hp.1 hrc hrs hfr hlo hws hcw (fun a' U hW => word_at hW (Or.inl (by first | rfl | simp [Cond.onTables, Cond.keeps, Cond.steady])) hini)
  obtain ⟨hx, hb, hml, ho, -⟩ := S
  obtain ⟨-, ⟨cellB, hcB, hoB, hclB⟩, hPc⟩ := hp
  intro T hT X
  obtain ⟨v, vm₁, ⟨U', l2, c2, s2⟩, hW₁, X', ⟨g', mk, t, L, e1, e2, hq, h1, hL, h2, h3⟩, st⟩ := vx_callVW X hx (C := C) (hh := hh) (bytes := bytes) (maxL := maxL) (ret := ret) ho hl hin hse hcode hy hK (by rw [hT]; exact hcB) hoB hclB hg (hsize.trans hml.symm) (argsL := As) (rest := rest) (fun sig h => hn.trans (hlen sig h)) hstack hW (by rw [hb]; exact hdg)
    (fun vm₁ hW₁ => ⟨hf.1, hf.2, hPc (T.setVm vm₁) hT hW₁⟩)
  dsimp only [Pt.U, Pt.locs, Pt.cells, Pt.slots] at X' e1 e2 h1 h2 h3 st
  subst h1; subst h2; subst h3
  exact ⟨v, (T.setVm vm₁).calling g' mk (Value.ref b :: As).toArray, t, U', L, hT, X', hL, e1, e2, hq, st⟩
section
variable {y : MethodName} {bytes cc : ByteArray} {maxL nL mc ms n index : Nat} {ret : Option FieldType} {ws : List Cond} {rm : Room} {Pc : Array Value → State → Prop} {Qc : Array Value → State → Outcome → State → Prop} {XC : String → State → State → Prop} {free : Addr → Prop} {Ts : List Cond} {own C : String} {b : Addr} {As rest : List Value} {g : JFrame}
theorem vx_runVX {hh : List (Nat × Nat × Nat × Nat)} (S : CallFix p m c cc nL s args Ts own) (hM : vx_Met l y ws rm Pc Qc XC mc ms free) (cw : vx_CVW R s args own C index y bytes maxL ret hh ws rm mc ms n) (hp : PreV s H C b Pc As)
    (hg : g.method = m) (hn : As.length = n) (hsize : g.locals.size = nL) (hstack : g.stack = As.reverse ++ .ref b :: rest) (hW : 2 * g.monitorRoom + (rest.map fun v => v.category).sum ≤ 8) (hdg : decode cc g.pc = .ok (.invokevirtual index, 3)) (hf : cells + mc ≤ R.cells ∧ slots + ms ≤ R.slots) :
    vx_Run p l e R s m args below meth c H locs cells slots mc ms g rest (Qc (Value.ref b :: As).toArray) XC free := by
  obtain ⟨⟨hrc, hrs, hfr, hlo, hws, hcw⟩, hcode, hini, hy, hlen, hl, hin, hse⟩ := cw
  have hK : vx_Back l R p e below s args y 3 8 (PreOf R mc ms Pc) (PostOf Qc mc ms free) (vx_Post XC mc ms free) := vx_backW (hh := hh) (bytes := bytes) (maxL := maxL) (ret := ret) hM hp.1 hrc hrs hfr hlo hws hcw (fun a' U hW => word_at hW (Or.inl (by first | rfl | simp [Cond.onTables, Cond.keeps, Cond.steady])) hini)
  obtain ⟨hx, hb, hml, ho, -⟩ := S
  obtain ⟨-, ⟨cellB, hcB, hoB, hclB⟩, hPc⟩ := hp
  intro T hT X
  rcases vx_callVX X hx (C := C) (hh := hh) (bytes := bytes) (maxL := maxL) (ret := ret) ho hl hin hse hcode hy hK (by rw [hT]; exact hcB) hoB hclB hg (hsize.trans hml.symm) (argsL := As) (rest := rest) (fun sig h => hn.trans (hlen sig h)) hstack hW (by rw [hb]; exact hdg)
    (fun vm₁ hW₁ => ⟨hf.1, hf.2, hPc (T.setVm vm₁) hT hW₁⟩) with ⟨v, vm₁, ⟨U', l2, c2, s2⟩, hW₁, X', ⟨g', mk, t, L, e1, e2, hq, h1, hL, h2, h3⟩, st⟩ | ⟨q, vm₁, ⟨U', l2, c2, s2⟩, hW₁, X', ⟨g', mk, t, L, E, ce, e1, e2, hq, hce, hcv, hcl, h1, hL, h2, h3⟩, st⟩
  · dsimp only [Pt.U, Pt.locs, Pt.cells, Pt.slots] at X' e1 e2 h1 h2 h3 st
    subst h1; subst h2; subst h3
    exact Or.inl ⟨v, (T.setVm vm₁).calling g' mk (Value.ref b :: As).toArray, t, U', L, hT, X', hL, e1, e2, hq, st⟩
  · dsimp only [Pt.U, Pt.locs, Pt.cells, Pt.slots] at X' e1 e2 h1 h2 h3 st hcl
    subst h1; subst h2; subst h3
    exact Or.inr ⟨q, (T.setVm vm₁).calling g' mk (Value.ref b :: As).toArray, t, U', L, E, ce, hT, X', hL, e1, e2, hq, hce, hcv, vx_cls hW₁ hcl, st⟩
theorem vx_runSX {hh : List (Nat × Nat × Nat × Nat)} (S : CallFix p m c cc nL s args Ts own) (hM : vx_Met l y ws rm Pc Qc XC mc ms free) (cw : vx_CSW R s args own index y bytes maxL ret hh ws rm mc ms n) (hp : PreS s H Pc As)
    (hg : g.method = m) (hn : As.length = n) (hsize : g.locals.size = nL) (hstack : g.stack = As.reverse ++ rest) (hW : 2 * g.monitorRoom + (rest.map fun v => v.category).sum ≤ 8) (hdg : decode cc g.pc = .ok (.invokestatic index, 3)) (hf : cells + mc ≤ R.cells ∧ slots + ms ≤ R.slots) :
    vx_Run p l e R s m args below meth c H locs cells slots mc ms g rest (Qc As.toArray) XC free := by
  obtain ⟨⟨hrc, hrs, hfr, hlo, hws, hcw⟩, hcode, hini, hy, hlen, hl, hstt⟩ := cw
  have hK : vx_Back l R p e below s args y 3 8 (PreOf R mc ms Pc) (PostOf Qc mc ms free) (vx_Post XC mc ms free) := vx_backW (hh := hh) (bytes := bytes) (maxL := maxL) (ret := ret) hM hp.1 hrc hrs hfr hlo hws hcw (fun a' U hW => word_at hW (Or.inl (by first | rfl | simp [Cond.onTables, Cond.keeps, Cond.steady])) hini)
  obtain ⟨hx, hb, hml, ho, -⟩ := S
  intro T hT X
  rcases vx_callSX X hx (hh := hh) (bytes := bytes) (maxL := maxL) (ret := ret) ho hl hstt hini hcode hy hK hg (hsize.trans hml.symm) (argsL := As) (rest := rest) (fun sig h => hn.trans (hlen sig h)) hstack hW (by rw [hb]; exact hdg)
    (fun vm₁ hW₁ => ⟨hf.1, hf.2, hp.2 (T.setVm vm₁) hT hW₁⟩) with ⟨v, vm₁, ⟨U', l2, c2, s2⟩, hW₁, X', ⟨g', mk, t, L, e1, e2, hq, h1, hL, h2, h3⟩, st⟩ | ⟨q, vm₁, ⟨U', l2, c2, s2⟩, hW₁, X', ⟨g', mk, t, L, E, ce, e1, e2, hq, hce, hcv, hcl, h1, hL, h2, h3⟩, st⟩
  · dsimp only [Pt.U, Pt.locs, Pt.cells, Pt.slots] at X' e1 e2 h1 h2 h3 st
    subst h1; subst h2; subst h3
    exact Or.inl ⟨v, (T.setVm vm₁).calling g' mk As.toArray, t, U', L, hT, X', hL, e1, e2, hq, st⟩
  · dsimp only [Pt.U, Pt.locs, Pt.cells, Pt.slots] at X' e1 e2 h1 h2 h3 st hcl
    subst h1; subst h2; subst h3
    exact Or.inr ⟨q, (T.setVm vm₁).calling g' mk As.toArray, t, U', L, E, ce, hT, X', hL, e1, e2, hq, hce, hcv, vx_cls hW₁ hcl, st⟩
end
end VXH
theorem vx_ofWH {l : Launch} {y : MethodName} {ws ws' : List Cond} {rm : Room} {Pc : Array Value → State → Prop} {Qc : Array Value → State → Outcome → State → Prop} {XC : String → State → State → Prop} {mc ms : Nat} {free : Addr → Prop} {cc : ByteArray} {maxL : Nat} {ret : Option FieldType} {hh : List (Nat × Nat × Nat × Nat)}
    (hy : plainName y.cls = true) (hw : ws = Cond.codeWith y cc maxL ret hh :: ws')
    (body : ∀ p e s m args below meth c s₁, BodyLoose p l y (headSpec ws rm) cc maxL ret e s m args below meth c s₁ → c.maxLocals = maxL → Pc args s →
      W p l e (headSpec ws rm).room s m args below meth c s.heap [] 0 0 (vx_MQ below Qc XC args s mc ms free) (entryFrame m args maxL)) : vx_Met l y ws rm Pc Qc XC mc ms free := by
  refine MetFree.of_bodyS (code := cc) (maxLocals := maxL) (ret := ret) hy ?_ ?_
  · intro args s m h hn
    obtain ⟨m9, meth, c, hn9, h1, h2, h3, h4, -, h5, h6, -⟩ := Cond.codeWith_spec (atoms_spec (ws := ws) h _ (by rw [hw]; exact List.mem_cons_self))
    cases hn.symm.trans hn9
    exact ⟨meth, c, h1, h2, h3, h4, h5, h6⟩
  · intro p e s m args below meth c s₁ B hml hP _
    have hh0 : s₁.heap = s.heap := by rw [B.state]; rfl
    obtain ⟨t, a1, o, b1, b2, b3⟩ := body p e s m args below meth c s₁ B hml hP s₁ hh0 (Stand.of_body B)
    exact ⟨t, o, a1, b1, b2, b3⟩
/-! ===== END ===== -/
end
section
def RX0 : String := "MapCarrier$Carrier"
def TX0 : u_T := fun k => match k with
  | 0 => ("MapCarrier$Carrier", "land", "LMapCarrier$Land;", true)
  | 1 => ("MapCarrier$Carrier", "memory", "LMapCarrier$Memory;", true)
  | 2 => ("MapCarrier$Carrier", "at", "I", false)
  | 3 => ("MapCarrier$Carrier", "coins", "I", false)
  | 4 => ("MapCarrier$Carrier", "goal", "I", false)
  | 5 => ("MapCarrier$Carrier", "way", "[I", true)
  | 6 => ("MapCarrier$Carrier", "wayLength", "I", false)
  | 7 => ("MapCarrier$Carrier", "tried", "[Z", true)
  | 8 => ("MapCarrier$Carrier", "askedAt", "[Z", true)
  | 9 => ("MapCarrier$Carrier", "guest", "I", false)
  | 10 => ("MapCarrier$Carrier", "walked", "I", false)
  | 11 => ("MapCarrier$Carrier", "doubled", "I", false)
  | 12 => ("MapCarrier$Carrier", "done", "I", false)
  | 13 => ("MapCarrier$Carrier", "inVain", "I", false)
  | _ => ("MapCarrier$Carrier", "questions", "I", false)
def tyX0 : Nat → FieldType := fun k => match k with
  | 0 => .object "MapCarrier$Land"
  | 1 => .object "MapCarrier$Memory"
  | 2 => .int
  | 3 => .int
  | 4 => .int
  | 5 => .array .int
  | 6 => .int
  | 7 => .array .boolean
  | 8 => .array .boolean
  | 9 => .int
  | 10 => .int
  | 11 => .int
  | 12 => .int
  | 13 => .int
  | _ => .int
abbrev wsX00 : List Cond := u_ws RX0 TX0 15
theorem nmX0 : ∀ a, a < 15 → ∀ b, b < 15 → a ≠ b → (TX0 a).2.1 ≠ (TX0 b).2.1 := by decide +kernel
theorem tyX0_ok : ∀ k, k < 15 → parseFieldDescriptor (TX0 k).2.2.1 = some (tyX0 k) := by decide +kernel
abbrev cX0_init : ByteArray := prog_2_method_1_code
def yX0_init : MethodName := ⟨RX0, "<init>", "(LMapCarrier$Land;)V"⟩
abbrev cX0_startLike : ByteArray := prog_2_method_2_code
def yX0_startLike : MethodName := ⟨RX0, "startLike", "(LMapCarrier$Carrier;I)V"⟩
abbrev cX0_isUnderway : ByteArray := prog_2_method_3_code
def yX0_isUnderway : MethodName := ⟨RX0, "isUnderway", "()Z"⟩
abbrev cX0_hasTried : ByteArray := prog_2_method_4_code
def yX0_hasTried : MethodName := ⟨RX0, "hasTried", "(I)Z"⟩
abbrev cX0_begin : ByteArray := prog_2_method_5_code
def yX0_begin : MethodName := ⟨RX0, "begin", "(I)V"⟩
abbrev cX0_endErrand : ByteArray := prog_2_method_6_code
def yX0_endErrand : MethodName := ⟨RX0, "endErrand", "()V"⟩
abbrev cX0_step : ByteArray := prog_2_method_7_code
def yX0_step : MethodName := ⟨RX0, "step", "()Z"⟩
abbrev cX0_canTake : ByteArray := prog_2_method_8_code
def yX0_canTake : MethodName := ⟨RX0, "canTake", "(I)Z"⟩
abbrev cX0_rememberedEnd : ByteArray := prog_2_method_9_code
def yX0_rememberedEnd : MethodName := ⟨RX0, "rememberedEnd", "()I"⟩
abbrev cX0_askedEnd : ByteArray := prog_2_method_10_code
def yX0_askedEnd : MethodName := ⟨RX0, "askedEnd", "()I"⟩
abbrev cX0_firstUntried : ByteArray := prog_2_method_11_code
def yX0_firstUntried : MethodName := ⟨RX0, "firstUntried", "()I"⟩
abbrev cX0_take : ByteArray := prog_2_method_12_code
def yX0_take : MethodName := ⟨RX0, "take", "(I)V"⟩
abbrev cX0_doubleBack : ByteArray := prog_2_method_13_code
def yX0_doubleBack : MethodName := ⟨RX0, "doubleBack", "()V"⟩
abbrev cX0_rememberWay : ByteArray := prog_2_method_14_code
def yX0_rememberWay : MethodName := ⟨RX0, "rememberWay", "()V"⟩
abbrev cX0_findsByMemory : ByteArray := prog_2_method_15_code
def yX0_findsByMemory : MethodName := ⟨RX0, "findsByMemory", "(I)Z"⟩
abbrev cX0_forget : ByteArray := prog_2_method_16_code
def yX0_forget : MethodName := ⟨RX0, "forget", "([Z)V"⟩
def RX1 : String := "MapCarrier$Land"
def TX1 : u_T := fun k => match k with
  | 0 => ("MapCarrier$Land", "places", "I", false)
  | 1 => ("MapCarrier$Land", "exits", "[I", true)
  | 2 => ("MapCarrier$Land", "shepherds", "[Z", true)
  | 3 => ("MapCarrier$Land", "leads", "[I", true)
  | 4 => ("MapCarrier$Land", "twins", "[I", true)
  | 5 => ("MapCarrier$Land", "lengths", "[I", true)
  | 6 => ("MapCarrier$Land", "open", "[Z", true)
  | _ => ("MapCarrier$Land", "far", "[I", true)
def tyX1 : Nat → FieldType := fun k => match k with
  | 0 => .int
  | 1 => .array .int
  | 2 => .array .boolean
  | 3 => .array .int
  | 4 => .array .int
  | 5 => .array .int
  | 6 => .array .boolean
  | _ => .array .int
abbrev wsX10 : List Cond := u_ws RX1 TX1 8
theorem nmX1 : ∀ a, a < 8 → ∀ b, b < 8 → a ≠ b → (TX1 a).2.1 ≠ (TX1 b).2.1 := by decide +kernel
theorem tyX1_ok : ∀ k, k < 8 → parseFieldDescriptor (TX1 k).2.2.1 = some (tyX1 k) := by decide +kernel
abbrev cX1_init : ByteArray := prog_3_method_1_code
def yX1_init : MethodName := ⟨RX1, "<init>", "()V"⟩
abbrev cX1_isPlace : ByteArray := prog_3_method_2_code
def yX1_isPlace : MethodName := ⟨RX1, "isPlace", "(I)Z"⟩
abbrev cX1_hasRoom : ByteArray := prog_3_method_3_code
def yX1_hasRoom : MethodName := ⟨RX1, "hasRoom", "(I)Z"⟩
abbrev cX1_endAt : ByteArray := prog_3_method_4_code
def yX1_endAt : MethodName := ⟨RX1, "endAt", "(II)I"⟩
abbrev cX1_join : ByteArray := prog_3_method_5_code
def yX1_join : MethodName := ⟨RX1, "join", "(III)I"⟩
abbrev cX1_layEnd : ByteArray := prog_3_method_6_code
def yX1_layEnd : MethodName := ⟨RX1, "layEnd", "(III)V"⟩
abbrev cX1_turnEnd : ByteArray := prog_3_method_7_code
def yX1_turnEnd : MethodName := ⟨RX1, "turnEnd", "(I)Z"⟩
abbrev cX1_opensAt : ByteArray := prog_3_method_8_code
def yX1_opensAt : MethodName := ⟨RX1, "opensAt", "(I)Z"⟩
abbrev cX1_milesAt : ByteArray := prog_3_method_9_code
def yX1_milesAt : MethodName := ⟨RX1, "milesAt", "(I)I"⟩
abbrev cX1_twinOf : ByteArray := prog_3_method_10_code
def yX1_twinOf : MethodName := ⟨RX1, "twinOf", "(I)I"⟩
abbrev cX1_beyond : ByteArray := prog_3_method_11_code
def yX1_beyond : MethodName := ⟨RX1, "beyond", "(I)I"⟩
abbrev cX1_shortest : ByteArray := prog_3_method_12_code
def yX1_shortest : MethodName := ⟨RX1, "shortest", "(II)I"⟩
abbrev cX1_endTowards : ByteArray := prog_3_method_13_code
def yX1_endTowards : MethodName := ⟨RX1, "endTowards", "(II)I"⟩
abbrev cX1_measure : ByteArray := prog_3_method_14_code
def yX1_measure : MethodName := ⟨RX1, "measure", "(I)V"⟩
abbrev cX1_milesBy : ByteArray := prog_3_method_15_code
def yX1_milesBy : MethodName := ⟨RX1, "milesBy", "(I)I"⟩
def RX2 : String := "MapCarrier$Memory"
def TX2 : u_T := fun k => match k with
  | 0 => ("MapCarrier$Memory", "exits", "[I", true)
  | _ => ("MapCarrier$Memory", "strengths", "[I", true)
def tyX2 : Nat → FieldType := fun k => match k with
  | 0 => .array .int
  | _ => .array .int
abbrev wsX20 : List Cond := u_ws RX2 TX2 2
theorem nmX2 : ∀ a, a < 2 → ∀ b, b < 2 → a ≠ b → (TX2 a).2.1 ≠ (TX2 b).2.1 := by decide +kernel
theorem tyX2_ok : ∀ k, k < 2 → parseFieldDescriptor (TX2 k).2.2.1 = some (tyX2 k) := by decide +kernel
abbrev cX2_init : ByteArray := prog_4_method_1_code
def yX2_init : MethodName := ⟨RX2, "<init>", "()V"⟩
abbrev cX2_exitFor : ByteArray := prog_4_method_2_code
def yX2_exitFor : MethodName := ⟨RX2, "exitFor", "(II)I"⟩
abbrev cX2_strengthFor : ByteArray := prog_4_method_3_code
def yX2_strengthFor : MethodName := ⟨RX2, "strengthFor", "(II)I"⟩
abbrev cX2_learn : ByteArray := prog_4_method_4_code
def yX2_learn : MethodName := ⟨RX2, "learn", "(III)V"⟩
abbrev cX2_confirm : ByteArray := prog_4_method_5_code
def yX2_confirm : MethodName := ⟨RX2, "confirm", "(III)V"⟩
abbrev cX2_fade : ByteArray := prog_4_method_6_code
def yX2_fade : MethodName := ⟨RX2, "fade", "(I)I"⟩
abbrev cX2_copyFrom : ByteArray := prog_4_method_7_code
def yX2_copyFrom : MethodName := ⟨RX2, "copyFrom", "(LMapCarrier$Memory;)V"⟩
abbrev cX2_spotOf : ByteArray := prog_4_method_8_code
def yX2_spotOf : MethodName := ⟨RX2, "spotOf", "(II)I"⟩
def RX3 : String := "MapCarrier"
def TX3 : u_T := fun k => match k with
  | 0 => ("MapCarrier", "land", "LMapCarrier$Land;", true)
  | 1 => ("MapCarrier", "carrier", "LMapCarrier$Carrier;", true)
  | _ => ("MapCarrier", "trial", "LMapCarrier$Carrier;", true)
def tyX3 : Nat → FieldType := fun k => match k with
  | 0 => .object "MapCarrier$Land"
  | 1 => .object "MapCarrier$Carrier"
  | _ => .object "MapCarrier$Carrier"
abbrev wsX30 : List Cond := u_ws RX3 TX3 3
theorem nmX3 : ∀ a, a < 3 → ∀ b, b < 3 → a ≠ b → (TX3 a).2.1 ≠ (TX3 b).2.1 := by decide +kernel
theorem tyX3_ok : ∀ k, k < 3 → parseFieldDescriptor (TX3 k).2.2.1 = some (tyX3 k) := by decide +kernel
abbrev cX3_init : ByteArray := prog_1_method_1_code
def yX3_init : MethodName := ⟨RX3, "<init>", "()V"⟩
abbrev cX3_addPlace : ByteArray := prog_1_method_2_code
def yX3_addPlace : MethodName := ⟨RX3, "addPlace", "()I"⟩
abbrev cX3_addRoad : ByteArray := prog_1_method_3_code
def yX3_addRoad : MethodName := ⟨RX3, "addRoad", "(III)I"⟩
abbrev cX3_turnRoad : ByteArray := prog_1_method_4_code
def yX3_turnRoad : MethodName := ⟨RX3, "turnRoad", "(II)Z"⟩
abbrev cX3_turnShepherd : ByteArray := prog_1_method_5_code
def yX3_turnShepherd : MethodName := ⟨RX3, "turnShepherd", "(I)Z"⟩
abbrev cX3_pay : ByteArray := prog_1_method_6_code
def yX3_pay : MethodName := ⟨RX3, "pay", "(I)I"⟩
abbrev cX3_beginErrand : ByteArray := prog_1_method_7_code
def yX3_beginErrand : MethodName := ⟨RX3, "beginErrand", "(I)I"⟩
abbrev cX3_goOn : ByteArray := prog_1_method_8_code
def yX3_goOn : MethodName := ⟨RX3, "goOn", "(I)I"⟩
abbrev cX3_giveUp : ByteArray := prog_1_method_9_code
def yX3_giveUp : MethodName := ⟨RX3, "giveUp", "()I"⟩
abbrev cX3_sleep : ByteArray := prog_1_method_10_code
def yX3_sleep : MethodName := ⟨RX3, "sleep", "(I)I"⟩
abbrev cX3_places : ByteArray := prog_1_method_11_code
def yX3_places : MethodName := ⟨RX3, "places", "()I"⟩
abbrev cX3_exitsOf : ByteArray := prog_1_method_12_code
def yX3_exitsOf : MethodName := ⟨RX3, "exitsOf", "(I)I"⟩
abbrev cX3_leadsTo : ByteArray := prog_1_method_13_code
def yX3_leadsTo : MethodName := ⟨RX3, "leadsTo", "(II)I"⟩
abbrev cX3_milesOf : ByteArray := prog_1_method_14_code
def yX3_milesOf : MethodName := ⟨RX3, "milesOf", "(II)I"⟩
abbrev cX3_isOpen : ByteArray := prog_1_method_15_code
def yX3_isOpen : MethodName := ⟨RX3, "isOpen", "(II)Z"⟩
abbrev cX3_hasShepherd : ByteArray := prog_1_method_16_code
def yX3_hasShepherd : MethodName := ⟨RX3, "hasShepherd", "(I)Z"⟩
abbrev cX3_distance : ByteArray := prog_1_method_17_code
def yX3_distance : MethodName := ⟨RX3, "distance", "(II)I"⟩
abbrev cX3_whereIs : ByteArray := prog_1_method_18_code
def yX3_whereIs : MethodName := ⟨RX3, "whereIs", "()I"⟩
abbrev cX3_coins : ByteArray := prog_1_method_19_code
def yX3_coins : MethodName := ⟨RX3, "coins", "()I"⟩
abbrev cX3_goal : ByteArray := prog_1_method_20_code
def yX3_goal : MethodName := ⟨RX3, "goal", "()I"⟩
abbrev cX3_wayLength : ByteArray := prog_1_method_21_code
def yX3_wayLength : MethodName := ⟨RX3, "wayLength", "()I"⟩
abbrev cX3_isTried : ByteArray := prog_1_method_22_code
def yX3_isTried : MethodName := ⟨RX3, "isTried", "(II)Z"⟩
abbrev cX3_remembered : ByteArray := prog_1_method_23_code
def yX3_remembered : MethodName := ⟨RX3, "remembered", "(II)I"⟩
abbrev cX3_strength : ByteArray := prog_1_method_24_code
def yX3_strength : MethodName := ⟨RX3, "strength", "(II)I"⟩
abbrev cX3_knowsWay : ByteArray := prog_1_method_25_code
def yX3_knowsWay : MethodName := ⟨RX3, "knowsWay", "(I)Z"⟩
abbrev cX3_milesWalked : ByteArray := prog_1_method_26_code
def yX3_milesWalked : MethodName := ⟨RX3, "milesWalked", "()I"⟩
abbrev cX3_milesDoubled : ByteArray := prog_1_method_27_code
def yX3_milesDoubled : MethodName := ⟨RX3, "milesDoubled", "()I"⟩
abbrev cX3_errandsDone : ByteArray := prog_1_method_28_code
def yX3_errandsDone : MethodName := ⟨RX3, "errandsDone", "()I"⟩
abbrev cX3_errandsInVain : ByteArray := prog_1_method_29_code
def yX3_errandsInVain : MethodName := ⟨RX3, "errandsInVain", "()I"⟩
abbrev cX3_asked : ByteArray := prog_1_method_30_code
def yX3_asked : MethodName := ⟨RX3, "asked", "()I"⟩
abbrev cX3_wouldWalk : ByteArray := prog_1_method_31_code
def yX3_wouldWalk : MethodName := ⟨RX3, "wouldWalk", "(I)I"⟩
abbrev cX3_bestShepherd : ByteArray := prog_1_method_32_code
def yX3_bestShepherd : MethodName := ⟨RX3, "bestShepherd", "(I)I"⟩
abbrev cX3_meanMiles : ByteArray := prog_1_method_33_code
def yX3_meanMiles : MethodName := ⟨RX3, "meanMiles", "()D"⟩
abbrev cX3_digest : ByteArray := prog_1_method_34_code
def yX3_digest : MethodName := ⟨RX3, "digest", "()J"⟩
abbrev cX3_checkPlace : ByteArray := prog_1_method_35_code
def yX3_checkPlace : MethodName := ⟨RX3, "checkPlace", "(I)V"⟩
abbrev cX3_checkedEnd : ByteArray := prog_1_method_36_code
def yX3_checkedEnd : MethodName := ⟨RX3, "checkedEnd", "(II)I"⟩
abbrev cX3_checkRange : ByteArray := prog_1_method_37_code
def yX3_checkRange : MethodName := ⟨RX3, "checkRange", "(II)V"⟩
abbrev cX3_checkIdle : ByteArray := prog_1_method_38_code
def yX3_checkIdle : MethodName := ⟨RX3, "checkIdle", "()V"⟩
abbrev cX3_checkUnderway : ByteArray := prog_1_method_39_code
def yX3_checkUnderway : MethodName := ⟨RX3, "checkUnderway", "()V"⟩
abbrev cX3_trialMiles : ByteArray := prog_1_method_40_code
def yX3_trialMiles : MethodName := ⟨RX3, "trialMiles", "(II)I"⟩
abbrev cX3_mix : ByteArray := prog_1_method_41_code
def yX3_mix : MethodName := ⟨RX3, "mix", "(JJ)J"⟩
abbrev cX3_mixFlag : ByteArray := prog_1_method_42_code
def yX3_mixFlag : MethodName := ⟨RX3, "mixFlag", "(JZ)J"⟩
abbrev cX3_mixPlaces : ByteArray := prog_1_method_43_code
def yX3_mixPlaces : MethodName := ⟨RX3, "mixPlaces", "(J)J"⟩
abbrev cX3_mixMemory : ByteArray := prog_1_method_44_code
def yX3_mixMemory : MethodName := ⟨RX3, "mixMemory", "(J)J"⟩
abbrev cX3_isEnd : ByteArray := prog_1_method_45_code
def yX3_isEnd : MethodName := ⟨RX3, "isEnd", "(I)Z"⟩
abbrev cX3_placeOfEnd : ByteArray := prog_1_method_46_code
def yX3_placeOfEnd : MethodName := ⟨RX3, "placeOfEnd", "(I)I"⟩
abbrev cX3_exitOfEnd : ByteArray := prog_1_method_47_code
def yX3_exitOfEnd : MethodName := ⟨RX3, "exitOfEnd", "(I)I"⟩
def RX4 : String := "MapCarrierLaw$Sim"
def TX4 : u_T := fun k => match k with
  | 0 => ("MapCarrierLaw$Sim", "roads", "[[I", false)
  | 1 => ("MapCarrierLaw$Sim", "exits", "[[I", false)
  | 2 => ("MapCarrierLaw$Sim", "shepherd", "[Z", false)
  | 3 => ("MapCarrierLaw$Sim", "isAsked", "[Z", false)
  | 4 => ("MapCarrierLaw$Sim", "where", "I", false)
  | 5 => ("MapCarrierLaw$Sim", "coins", "I", false)
  | 6 => ("MapCarrierLaw$Sim", "goal", "I", false)
  | 7 => ("MapCarrierLaw$Sim", "way", "[[I", false)
  | 8 => ("MapCarrierLaw$Sim", "memory", "[[[I", false)
  | 9 => ("MapCarrierLaw$Sim", "walked", "I", false)
  | 10 => ("MapCarrierLaw$Sim", "doubled", "I", false)
  | 11 => ("MapCarrierLaw$Sim", "done", "I", false)
  | 12 => ("MapCarrierLaw$Sim", "vain", "I", false)
  | _ => ("MapCarrierLaw$Sim", "asked", "I", false)
def tyX4 : Nat → FieldType := fun k => match k with
  | 0 => .array (.array .int)
  | 1 => .array (.array .int)
  | 2 => .array .boolean
  | 3 => .array .boolean
  | 4 => .int
  | 5 => .int
  | 6 => .int
  | 7 => .array (.array .int)
  | 8 => .array (.array (.array .int))
  | 9 => .int
  | 10 => .int
  | 11 => .int
  | 12 => .int
  | _ => .int
abbrev wsX40 : List Cond := u_ws RX4 TX4 14
theorem nmX4 : ∀ a, a < 14 → ∀ b, b < 14 → a ≠ b → (TX4 a).2.1 ≠ (TX4 b).2.1 := by decide +kernel
theorem tyX4_ok : ∀ k, k < 14 → parseFieldDescriptor (TX4 k).2.2.1 = some (tyX4 k) := by decide +kernel
abbrev cX4_init : ByteArray := prog_6_method_1_code
def yX4_init : MethodName := ⟨RX4, "<init>", "()V"⟩
abbrev cX4_more : ByteArray := prog_6_method_4_code
def yX4_more : MethodName := ⟨RX4, "more", "([[I[I)[[I"⟩
abbrev cX4_more_ : ByteArray := prog_6_method_5_code
def yX4_more_ : MethodName := ⟨RX4, "more", "([II)[I"⟩
abbrev cX4_place : ByteArray := prog_6_method_6_code
def yX4_place : MethodName := ⟨RX4, "place", "()V"⟩
abbrev cX4_road : ByteArray := prog_6_method_7_code
def yX4_road : MethodName := ⟨RX4, "road", "(III)I"⟩
abbrev cX4_to : ByteArray := prog_6_method_8_code
def yX4_to : MethodName := ⟨RX4, "to", "(II)I"⟩
abbrev cX4_far : ByteArray := prog_6_method_9_code
def yX4_far : MethodName := ⟨RX4, "far", "(II)I"⟩
abbrev cX4_over : ByteArray := prog_6_method_10_code
def yX4_over : MethodName := ⟨RX4, "over", "()V"⟩
abbrev cX4_begin : ByteArray := prog_6_method_11_code
def yX4_begin : MethodName := ⟨RX4, "begin", "(I)Z"⟩
abbrev cX4_isFree : ByteArray := prog_6_method_12_code
def yX4_isFree : MethodName := ⟨RX4, "isFree", "(I)Z"⟩
abbrev cX4_chosen : ByteArray := prog_6_method_13_code
def yX4_chosen : MethodName := ⟨RX4, "chosen", "()I"⟩
abbrev cX4_step : ByteArray := prog_6_method_14_code
def yX4_step : MethodName := ⟨RX4, "step", "()Z"⟩
abbrev cX4_go : ByteArray := prog_6_method_15_code
def yX4_go : MethodName := ⟨RX4, "go", "(I)I"⟩
abbrev cX4_night : ByteArray := prog_6_method_16_code
def yX4_night : MethodName := ⟨RX4, "night", "()I"⟩
abbrev cX4_knows : ByteArray := prog_6_method_17_code
def yX4_knows : MethodName := ⟨RX4, "knows", "(I)Z"⟩
abbrev cX4_isSame : ByteArray := prog_6_method_18_code
def yX4_isSame : MethodName := ⟨RX4, "isSame", "(LMapCarrier;)Z"⟩
def RX5 : String := "MapCarrierModel$State"
def TX5 : u_T := fun k => match k with
  | _ => ("", "", "", false)
def tyX5 : Nat → FieldType := fun k => match k with
  | _ => .int
abbrev wsX50 : List Cond := u_ws RX5 TX5 0
theorem nmX5 : ∀ a, a < 0 → ∀ b, b < 0 → a ≠ b → (TX5 a).2.1 ≠ (TX5 b).2.1 := by decide +kernel
theorem tyX5_ok : ∀ k, k < 0 → parseFieldDescriptor (TX5 k).2.2.1 = some (tyX5 k) := by decide +kernel
def RX6 : String := "MapCarrierModel"
def TX6 : u_T := fun k => match k with
  | _ => ("", "", "", false)
def tyX6 : Nat → FieldType := fun k => match k with
  | _ => .int
abbrev wsX60 : List Cond := u_ws RX6 TX6 0
theorem nmX6 : ∀ a, a < 0 → ∀ b, b < 0 → a ≠ b → (TX6 a).2.1 ≠ (TX6 b).2.1 := by decide +kernel
theorem tyX6_ok : ∀ k, k < 0 → parseFieldDescriptor (TX6 k).2.2.1 = some (tyX6 k) := by decide +kernel
def RJx145de : String := "java/io/Serializable"
def TJx145de : u_T := fun k => match k with
  | _ => ("", "", "", false)
def tyJx145de : Nat → FieldType := fun k => match k with
  | _ => .int
abbrev wsJx145de0 : List Cond := u_ws RJx145de TJx145de 0
theorem nmJx145de : ∀ a, a < 0 → ∀ b, b < 0 → a ≠ b → (TJx145de a).2.1 ≠ (TJx145de b).2.1 := by decide +kernel
theorem tyJx145de_ok : ∀ k, k < 0 → parseFieldDescriptor (TJx145de k).2.2.1 = some (tyJx145de k) := by decide +kernel
def RJ9 : String := "java/lang/Math"
def TJ9 : u_T := fun k => match k with
  | _ => ("", "", "", false)
def tyJ9 : Nat → FieldType := fun k => match k with
  | _ => .int
abbrev wsJ90 : List Cond := u_ws RJ9 TJ9 0
theorem nmJ9 : ∀ a, a < 0 → ∀ b, b < 0 → a ≠ b → (TJ9 a).2.1 ≠ (TJ9 b).2.1 := by decide +kernel
theorem tyJ9_ok : ∀ k, k < 0 → parseFieldDescriptor (TJ9 k).2.2.1 = some (tyJ9 k) := by decide +kernel
abbrev cJ9_max_7cf53 : ByteArray := prog_13_method_65_code
def yJ9_max_7cf53 : MethodName := ⟨RJ9, "max", "(II)I"⟩
abbrev cJ9_min_7cf53 : ByteArray := prog_13_method_69_code
def yJ9_min_7cf53 : MethodName := ⟨RJ9, "min", "(II)I"⟩
def RJ0 : String := "java/lang/String"
def TJ0 : u_T := fun k => match k with
  | _ => ("", "", "", false)
def tyJ0 : Nat → FieldType := fun k => match k with
  | _ => .int
abbrev wsJ00 : List Cond := u_ws RJ0 TJ0 0
theorem nmJ0 : ∀ a, a < 0 → ∀ b, b < 0 → a ≠ b → (TJ0 a).2.1 ≠ (TJ0 b).2.1 := by decide +kernel
theorem tyJ0_ok : ∀ k, k < 0 → parseFieldDescriptor (TJ0 k).2.2.1 = some (tyJ0 k) := by decide +kernel
def RJ10 : String := "java/lang/System"
def TJ10 : u_T := fun k => match k with
  | _ => ("", "", "", false)
def tyJ10 : Nat → FieldType := fun k => match k with
  | _ => .int
abbrev wsJ100 : List Cond := u_ws RJ10 TJ10 0
theorem nmJ10 : ∀ a, a < 0 → ∀ b, b < 0 → a ≠ b → (TJ10 a).2.1 ≠ (TJ10 b).2.1 := by decide +kernel
theorem tyJ10_ok : ∀ k, k < 0 → parseFieldDescriptor (TJ10 k).2.2.1 = some (tyJ10 k) := by decide +kernel
def RJ7 : String := "java/util/Arrays"
def TJ7 : u_T := fun k => match k with
  | _ => ("", "", "", false)
def tyJ7 : Nat → FieldType := fun k => match k with
  | _ => .int
abbrev wsJ70 : List Cond := u_ws RJ7 TJ7 0
theorem nmJ7 : ∀ a, a < 0 → ∀ b, b < 0 → a ≠ b → (TJ7 a).2.1 ≠ (TJ7 b).2.1 := by decide +kernel
theorem tyJ7_ok : ∀ k, k < 0 → parseFieldDescriptor (TJ7 k).2.2.1 = some (tyJ7 k) := by decide +kernel
abbrev cJ7_fill_53178 : ByteArray := prog_18_method_103_code
def yJ7_fill_53178 : MethodName := ⟨RJ7, "fill", "([II)V"⟩
def RL : String := "MapCarrierLaw"
abbrev cL_below : ByteArray := method_2_code
def yL_below : MethodName := ⟨RL, "below", "(II)I"⟩
abbrev cL_cell : ByteArray := method_3_code
def yL_cell : MethodName := ⟨RL, "cell", "([II)I"⟩
abbrev cL_act : ByteArray := method_4_code
def yL_act : MethodName := ⟨RL, "act", "(LMapCarrier;LMapCarrierLaw$Sim;I)Z"⟩
abbrev cL_build : ByteArray := method_5_code
def yL_build : MethodName := ⟨RL, "build", "(LMapCarrier;[I)LMapCarrierLaw$Sim;"⟩
abbrev cL_law : ByteArray := code
def yL_law : MethodName := ⟨RL, "law", "([I)Z"⟩
abbrev cL_known : ByteArray := method_7_code
def yL_known : MethodName := ⟨RL, "known", "(LMapCarrier;II)I"⟩
def wsX2_init : List Cond := .code yX2_init cX2_init 1 none :: ([.methodLink RX2 3 objectInit, .instanceMethod objectInit, .code objectInit ⟨#[0xb1]⟩ 1 none, .arrayClass .int, .fieldLink RX2 9 "MapCarrier$Memory" "exits" "[I", .fieldLink RX2 15 "MapCarrier$Memory" "strengths" "[I"] ++ wsX20)
def wsX0_init : List Cond := .code yX0_init cX0_init 2 none :: ([.methodLink RX0 3 objectInit, .instanceMethod objectInit, .code objectInit ⟨#[0xb1]⟩ 1 none, .classLink RX0 9 RX2, .instantiable RX2 2, .initialized RX2, .fieldLink RX0 12 "MapCarrier$Carrier" "memory" "LMapCarrier$Memory;", .fieldLink RX0 18 "MapCarrier$Carrier" "goal" "I", .arrayClass .int, .fieldLink RX0 22 "MapCarrier$Carrier" "way" "[I", .arrayClass .boolean, .fieldLink RX0 26 "MapCarrier$Carrier" "tried" "[Z", .fieldLink RX0 30 "MapCarrier$Carrier" "askedAt" "[Z", .fieldLink RX0 33 "MapCarrier$Carrier" "guest" "I", .fieldLink RX0 36 "MapCarrier$Carrier" "land" "LMapCarrier$Land;", .instanceMethod yX2_init, .code yX2_init cX2_init 1 none, .methodLink RX2 3 objectInit, .fieldLink RX2 9 "MapCarrier$Memory" "exits" "[I", .fieldLink RX2 15 "MapCarrier$Memory" "strengths" "[I"] ++ wsX20 ++ wsX00)
def wsX2_copyFrom : List Cond := .code yX2_copyFrom cX2_copyFrom 2 none :: ([.fieldLink RX2 9 "MapCarrier$Memory" "exits" "[I", .methodLink RX2 34 arraycopyName, .native arraycopyName, .static arraycopyName, .initialized "java/lang/System", .fieldLink RX2 15 "MapCarrier$Memory" "strengths" "[I"] ++ wsX20)
def wsX0_startLike : List Cond := .code yX0_startLike cX0_startLike 3 none :: ([.fieldLink RX0 40 "MapCarrier$Carrier" "at" "I", .fieldLink RX0 43 "MapCarrier$Carrier" "coins" "I", .fieldLink RX0 12 "MapCarrier$Carrier" "memory" "LMapCarrier$Memory;", .fieldLink RX0 33 "MapCarrier$Carrier" "guest" "I", .fieldLink RX0 50 "MapCarrier$Carrier" "walked" "I", .fieldLink RX0 53 "MapCarrier$Carrier" "inVain" "I", .methodLink RX0 46 yX2_copyFrom, .instanceMethod yX2_copyFrom, .selects RX2 yX2_copyFrom yX2_copyFrom, .initialized RX2, .code yX2_copyFrom cX2_copyFrom 2 none, .fieldLink RX2 9 "MapCarrier$Memory" "exits" "[I", .methodLink RX2 34 arraycopyName, .native arraycopyName, .static arraycopyName, .initialized "java/lang/System", .fieldLink RX2 15 "MapCarrier$Memory" "strengths" "[I"] ++ wsX00 ++ wsX20)
def wsX0_isUnderway : List Cond := .code yX0_isUnderway cX0_isUnderway 1 (some .boolean) :: ([.fieldLink RX0 18 "MapCarrier$Carrier" "goal" "I"] ++ wsX00)
def wsX3_isEnd : List Cond := .code yX3_isEnd cX3_isEnd 1 (some .boolean) :: ([])
def wsX0_hasTried : List Cond := .code yX0_hasTried cX0_hasTried 2 (some .boolean) :: ([.fieldLink RX0 26 "MapCarrier$Carrier" "tried" "[Z", .static yX3_isEnd, .initialized RX3, .code yX3_isEnd cX3_isEnd 1 (some .boolean)] ++ wsX00)
def wsX0_forget : List Cond := .code yX0_forget cX0_forget 2 none :: ([])
def wsX0_endErrand : List Cond := .code yX0_endErrand cX0_endErrand 1 none :: ([.fieldLink RX0 18 "MapCarrier$Carrier" "goal" "I", .fieldLink RX0 64 "MapCarrier$Carrier" "wayLength" "I"] ++ wsX00)
def wsX0_begin : List Cond := .code yX0_begin cX0_begin 2 none :: ([.fieldLink RX0 26 "MapCarrier$Carrier" "tried" "[Z", .fieldLink RX0 30 "MapCarrier$Carrier" "askedAt" "[Z", .fieldLink RX0 64 "MapCarrier$Carrier" "wayLength" "I", .fieldLink RX0 18 "MapCarrier$Carrier" "goal" "I", .fieldLink RX0 40 "MapCarrier$Carrier" "at" "I", .fieldLink RX0 67 "MapCarrier$Carrier" "done" "I", .methodLink RX0 60 yX0_forget, .static yX0_forget, .initialized RX0, .code yX0_forget cX0_forget 2 none, .methodLink RX0 70 yX0_endErrand, .instanceMethod yX0_endErrand, .selects RX0 yX0_endErrand yX0_endErrand, .code yX0_endErrand cX0_endErrand 1 none] ++ wsX00)
def wsX2_spotOf : List Cond := .code yX2_spotOf cX2_spotOf 3 (some .int) :: ([])
def wsX2_exitFor : List Cond := .code yX2_exitFor cX2_exitFor 4 (some .int) :: ([.fieldLink RX2 15 "MapCarrier$Memory" "strengths" "[I", .fieldLink RX2 9 "MapCarrier$Memory" "exits" "[I", .methodLink RX2 18 yX2_spotOf, .static yX2_spotOf, .initialized RX2, .code yX2_spotOf cX2_spotOf 3 (some .int)] ++ wsX20)
def wsX1_isPlace : List Cond := .code yX1_isPlace cX1_isPlace 2 (some .boolean) :: ([.fieldLink RX1 34 "MapCarrier$Land" "places" "I"] ++ wsX10)
def wsX1_endAt : List Cond := .code yX1_endAt cX1_endAt 4 (some .int) :: ([.fieldLink RX1 9 "MapCarrier$Land" "exits" "[I", .methodLink RX1 38 yX1_isPlace, .instanceMethod yX1_isPlace, .selects RX1 yX1_isPlace yX1_isPlace, .initialized RX1, .code yX1_isPlace cX1_isPlace 2 (some .boolean), .fieldLink RX1 34 "MapCarrier$Land" "places" "I"] ++ wsX10)
def wsX0_canTake : List Cond := .code yX0_canTake cX0_canTake 2 (some .boolean) :: ([.fieldLink RX0 36 "MapCarrier$Carrier" "land" "LMapCarrier$Land;", .fieldLink RX0 26 "MapCarrier$Carrier" "tried" "[Z", .static yX3_isEnd, .initialized RX3, .code yX3_isEnd cX3_isEnd 1 (some .boolean)] ++ wsX00 ++ wsX10)
def wsX0_rememberedEnd_r1 : List Cond := [Cond.fieldLink RX0 36 "MapCarrier$Carrier" "land" "LMapCarrier$Land;", Cond.fieldLink RX0 40 "MapCarrier$Carrier" "at" "I", Cond.fieldLink RX0 12 "MapCarrier$Carrier" "memory" "LMapCarrier$Memory;", Cond.fieldLink RX0 18 "MapCarrier$Carrier" "goal" "I", Cond.methodLink RX0 98 yX2_exitFor, Cond.instanceMethod yX2_exitFor, Cond.selects RX2 yX2_exitFor yX2_exitFor, Cond.initialized RX2, Cond.code yX2_exitFor cX2_exitFor 4 (some .int), Cond.fieldLink RX2 15 "MapCarrier$Memory" "strengths" "[I", Cond.fieldLink RX2 9 "MapCarrier$Memory" "exits" "[I", Cond.methodLink RX2 18 yX2_spotOf, Cond.static yX2_spotOf, Cond.code yX2_spotOf cX2_spotOf 3 (some .int), Cond.methodLink RX0 102 yX1_endAt, Cond.instanceMethod yX1_endAt, Cond.selects RX1 yX1_endAt yX1_endAt, Cond.initialized RX1, Cond.code yX1_endAt cX1_endAt 4 (some .int), Cond.fieldLink RX1 9 "MapCarrier$Land" "exits" "[I", Cond.methodLink RX1 38 yX1_isPlace, Cond.instanceMethod yX1_isPlace, Cond.selects RX1 yX1_isPlace yX1_isPlace, Cond.code yX1_isPlace cX1_isPlace 2 (some .boolean)]
def wsX0_rememberedEnd_r2 : List Cond := [Cond.fieldLink RX1 34 "MapCarrier$Land" "places" "I", Cond.methodLink RX0 105 yX0_canTake, Cond.instanceMethod yX0_canTake, Cond.selects RX0 yX0_canTake yX0_canTake, Cond.initialized RX0, Cond.code yX0_canTake cX0_canTake 2 (some .boolean), Cond.fieldLink RX0 26 "MapCarrier$Carrier" "tried" "[Z", Cond.static yX3_isEnd, Cond.initialized RX3, Cond.code yX3_isEnd cX3_isEnd 1 (some .boolean)]
def wsX0_rememberedEnd : List Cond := .code yX0_rememberedEnd cX0_rememberedEnd 2 (some .int) :: ((wsX0_rememberedEnd_r1 ++ wsX0_rememberedEnd_r2) ++ wsX00 ++ wsX20 ++ wsX10)
def wsJ7_fill_53178 : List Cond := .code yJ7_fill_53178 cJ7_fill_53178 4 none :: ([])
def wsX1_milesBy : List Cond := .code yX1_milesBy cX1_milesBy 3 (some .int) :: ([.fieldLink RX1 28 "MapCarrier$Land" "open" "[Z", .constant RX1 63 (1000000), .fieldLink RX1 19 "MapCarrier$Land" "leads" "[I", .fieldLink RX1 25 "MapCarrier$Land" "lengths" "[I", .fieldLink RX1 31 "MapCarrier$Land" "far" "[I"] ++ wsX10)
def wsX3_placeOfEnd : List Cond := .code yX3_placeOfEnd cX3_placeOfEnd 1 (some .int) :: ([])
def wsX1_measure : List Cond := .code yX1_measure cX1_measure 6 none :: ([.fieldLink RX1 31 "MapCarrier$Land" "far" "[I", .constant RX1 63 (1000000), .methodLink RX1 67 yJ7_fill_53178, .static yJ7_fill_53178, .initialized RJ7, .code yJ7_fill_53178 cJ7_fill_53178 4 none, .methodLink RX1 38 yX1_isPlace, .instanceMethod yX1_isPlace, .selects RX1 yX1_isPlace yX1_isPlace, .initialized RX1, .code yX1_isPlace cX1_isPlace 2 (some .boolean), .fieldLink RX1 34 "MapCarrier$Land" "places" "I", .methodLink RX1 64 yX1_milesBy, .instanceMethod yX1_milesBy, .selects RX1 yX1_milesBy yX1_milesBy, .code yX1_milesBy cX1_milesBy 3 (some .int), .fieldLink RX1 28 "MapCarrier$Land" "open" "[Z", .fieldLink RX1 19 "MapCarrier$Land" "leads" "[I", .fieldLink RX1 25 "MapCarrier$Land" "lengths" "[I", .static yX3_placeOfEnd, .initialized RX3, .code yX3_placeOfEnd cX3_placeOfEnd 1 (some .int)] ++ wsX10)
def wsX1_endTowards_r1 : List Cond := [Cond.fieldLink RX1 31 "MapCarrier$Land" "far" "[I", Cond.constant RX1 63 (1000000), Cond.fieldLink RX1 9 "MapCarrier$Land" "exits" "[I", Cond.methodLink RX1 59 yX1_measure, Cond.instanceMethod yX1_measure, Cond.selects RX1 yX1_measure yX1_measure, Cond.initialized RX1, Cond.code yX1_measure cX1_measure 6 none, Cond.methodLink RX1 67 yJ7_fill_53178, Cond.static yJ7_fill_53178, Cond.initialized RJ7, Cond.code yJ7_fill_53178 cJ7_fill_53178 4 none, Cond.methodLink RX1 38 yX1_isPlace, Cond.instanceMethod yX1_isPlace, Cond.selects RX1 yX1_isPlace yX1_isPlace, Cond.code yX1_isPlace cX1_isPlace 2 (some .boolean), Cond.fieldLink RX1 34 "MapCarrier$Land" "places" "I", Cond.methodLink RX1 64 yX1_milesBy, Cond.instanceMethod yX1_milesBy, Cond.selects RX1 yX1_milesBy yX1_milesBy, Cond.code yX1_milesBy cX1_milesBy 3 (some .int), Cond.fieldLink RX1 28 "MapCarrier$Land" "open" "[Z", Cond.fieldLink RX1 19 "MapCarrier$Land" "leads" "[I", Cond.fieldLink RX1 25 "MapCarrier$Land" "lengths" "[I"]
def wsX1_endTowards_r2 : List Cond := [Cond.static yX3_placeOfEnd, Cond.initialized RX3, Cond.code yX3_placeOfEnd cX3_placeOfEnd 1 (some .int)]
def wsX1_endTowards : List Cond := .code yX1_endTowards cX1_endTowards 5 (some .int) :: ((wsX1_endTowards_r1 ++ wsX1_endTowards_r2) ++ wsX10)
def wsX3_exitOfEnd : List Cond := .code yX3_exitOfEnd cX3_exitOfEnd 1 (some .int) :: ([])
def wsX2_learn : List Cond := .code yX2_learn cX2_learn 5 none :: ([.fieldLink RX2 9 "MapCarrier$Memory" "exits" "[I", .fieldLink RX2 15 "MapCarrier$Memory" "strengths" "[I", .methodLink RX2 18 yX2_spotOf, .static yX2_spotOf, .initialized RX2, .code yX2_spotOf cX2_spotOf 3 (some .int)] ++ wsX20)
def wsX0_askedEnd_r1 : List Cond := [Cond.fieldLink RX0 36 "MapCarrier$Carrier" "land" "LMapCarrier$Land;", Cond.fieldLink RX0 40 "MapCarrier$Carrier" "at" "I", Cond.fieldLink RX0 33 "MapCarrier$Carrier" "guest" "I", Cond.fieldLink RX0 30 "MapCarrier$Carrier" "askedAt" "[Z", Cond.fieldLink RX0 43 "MapCarrier$Carrier" "coins" "I", Cond.fieldLink RX0 114 "MapCarrier$Carrier" "questions" "I", Cond.fieldLink RX0 18 "MapCarrier$Carrier" "goal" "I", Cond.fieldLink RX0 12 "MapCarrier$Carrier" "memory" "LMapCarrier$Memory;", Cond.methodLink RX0 108 yX1_isPlace, Cond.instanceMethod yX1_isPlace, Cond.selects RX1 yX1_isPlace yX1_isPlace, Cond.initialized RX1, Cond.code yX1_isPlace cX1_isPlace 2 (some .boolean), Cond.fieldLink RX1 34 "MapCarrier$Land" "places" "I", Cond.methodLink RX0 117 yX1_endTowards, Cond.instanceMethod yX1_endTowards, Cond.selects RX1 yX1_endTowards yX1_endTowards, Cond.code yX1_endTowards cX1_endTowards 5 (some .int), Cond.fieldLink RX1 31 "MapCarrier$Land" "far" "[I", Cond.constant RX1 63 (1000000), Cond.fieldLink RX1 9 "MapCarrier$Land" "exits" "[I", Cond.methodLink RX1 59 yX1_measure, Cond.instanceMethod yX1_measure, Cond.selects RX1 yX1_measure yX1_measure]
def wsX0_askedEnd_r2 : List Cond := [Cond.code yX1_measure cX1_measure 6 none, Cond.methodLink RX1 67 yJ7_fill_53178, Cond.static yJ7_fill_53178, Cond.initialized RJ7, Cond.code yJ7_fill_53178 cJ7_fill_53178 4 none, Cond.methodLink RX1 38 yX1_isPlace, Cond.methodLink RX1 64 yX1_milesBy, Cond.instanceMethod yX1_milesBy, Cond.selects RX1 yX1_milesBy yX1_milesBy, Cond.code yX1_milesBy cX1_milesBy 3 (some .int), Cond.fieldLink RX1 28 "MapCarrier$Land" "open" "[Z", Cond.fieldLink RX1 19 "MapCarrier$Land" "leads" "[I", Cond.fieldLink RX1 25 "MapCarrier$Land" "lengths" "[I", Cond.static yX3_placeOfEnd, Cond.initialized RX3, Cond.code yX3_placeOfEnd cX3_placeOfEnd 1 (some .int), Cond.static yX3_exitOfEnd, Cond.code yX3_exitOfEnd cX3_exitOfEnd 1 (some .int), Cond.methodLink RX0 124 yX2_learn, Cond.instanceMethod yX2_learn, Cond.selects RX2 yX2_learn yX2_learn, Cond.initialized RX2, Cond.code yX2_learn cX2_learn 5 none, Cond.fieldLink RX2 9 "MapCarrier$Memory" "exits" "[I"]
def wsX0_askedEnd_r3 : List Cond := [Cond.fieldLink RX2 15 "MapCarrier$Memory" "strengths" "[I", Cond.methodLink RX2 18 yX2_spotOf, Cond.static yX2_spotOf, Cond.code yX2_spotOf cX2_spotOf 3 (some .int), Cond.methodLink RX0 105 yX0_canTake, Cond.instanceMethod yX0_canTake, Cond.selects RX0 yX0_canTake yX0_canTake, Cond.initialized RX0, Cond.code yX0_canTake cX0_canTake 2 (some .boolean), Cond.fieldLink RX0 26 "MapCarrier$Carrier" "tried" "[Z", Cond.static yX3_isEnd, Cond.code yX3_isEnd cX3_isEnd 1 (some .boolean)]
def wsX0_askedEnd : List Cond := .code yX0_askedEnd cX0_askedEnd 3 (some .int) :: ((wsX0_askedEnd_r1 ++ (wsX0_askedEnd_r2 ++ wsX0_askedEnd_r3)) ++ wsX00 ++ wsX10 ++ wsX20)
def wsX0_firstUntried : List Cond := .code yX0_firstUntried cX0_firstUntried 3 (some .int) :: ([.fieldLink RX0 40 "MapCarrier$Carrier" "at" "I", .methodLink RX0 105 yX0_canTake, .instanceMethod yX0_canTake, .selects RX0 yX0_canTake yX0_canTake, .initialized RX0, .code yX0_canTake cX0_canTake 2 (some .boolean), .fieldLink RX0 36 "MapCarrier$Carrier" "land" "LMapCarrier$Land;", .fieldLink RX0 26 "MapCarrier$Carrier" "tried" "[Z", .static yX3_isEnd, .initialized RX3, .code yX3_isEnd cX3_isEnd 1 (some .boolean)] ++ wsX00 ++ wsX10)
def wsX1_twinOf : List Cond := .code yX1_twinOf cX1_twinOf 2 (some .int) :: ([.fieldLink RX1 22 "MapCarrier$Land" "twins" "[I", .static yX3_isEnd, .initialized RX3, .code yX3_isEnd cX3_isEnd 1 (some .boolean)] ++ wsX10)
def wsX1_milesAt : List Cond := .code yX1_milesAt cX1_milesAt 2 (some .int) :: ([.fieldLink RX1 25 "MapCarrier$Land" "lengths" "[I", .static yX3_isEnd, .initialized RX3, .code yX3_isEnd cX3_isEnd 1 (some .boolean)] ++ wsX10)
def wsX0_take : List Cond := .code yX0_take cX0_take 3 none :: ([.fieldLink RX0 36 "MapCarrier$Carrier" "land" "LMapCarrier$Land;", .fieldLink RX0 64 "MapCarrier$Carrier" "wayLength" "I", .fieldLink RX0 26 "MapCarrier$Carrier" "tried" "[Z", .fieldLink RX0 22 "MapCarrier$Carrier" "way" "[I", .fieldLink RX0 50 "MapCarrier$Carrier" "walked" "I", .fieldLink RX0 40 "MapCarrier$Carrier" "at" "I", .methodLink RX0 128 yX1_twinOf, .instanceMethod yX1_twinOf, .selects RX1 yX1_twinOf yX1_twinOf, .initialized RX1, .code yX1_twinOf cX1_twinOf 2 (some .int), .fieldLink RX1 22 "MapCarrier$Land" "twins" "[I", .static yX3_isEnd, .initialized RX3, .code yX3_isEnd cX3_isEnd 1 (some .boolean), .methodLink RX0 131 yX1_milesAt, .instanceMethod yX1_milesAt, .selects RX1 yX1_milesAt yX1_milesAt, .code yX1_milesAt cX1_milesAt 2 (some .int), .fieldLink RX1 25 "MapCarrier$Land" "lengths" "[I", .static yX3_placeOfEnd, .code yX3_placeOfEnd cX3_placeOfEnd 1 (some .int)] ++ wsX00 ++ wsX10)
def wsX0_doubleBack : List Cond := .code yX0_doubleBack cX0_doubleBack 4 none :: ([.fieldLink RX0 64 "MapCarrier$Carrier" "wayLength" "I", .fieldLink RX0 22 "MapCarrier$Carrier" "way" "[I", .fieldLink RX0 36 "MapCarrier$Carrier" "land" "LMapCarrier$Land;", .fieldLink RX0 50 "MapCarrier$Carrier" "walked" "I", .fieldLink RX0 137 "MapCarrier$Carrier" "doubled" "I", .fieldLink RX0 40 "MapCarrier$Carrier" "at" "I", .methodLink RX0 131 yX1_milesAt, .instanceMethod yX1_milesAt, .selects RX1 yX1_milesAt yX1_milesAt, .initialized RX1, .code yX1_milesAt cX1_milesAt 2 (some .int), .fieldLink RX1 25 "MapCarrier$Land" "lengths" "[I", .static yX3_isEnd, .initialized RX3, .code yX3_isEnd cX3_isEnd 1 (some .boolean), .static yX3_placeOfEnd, .code yX3_placeOfEnd cX3_placeOfEnd 1 (some .int)] ++ wsX00 ++ wsX10)
def wsX2_confirm : List Cond := .code yX2_confirm cX2_confirm 5 none :: ([.fieldLink RX2 15 "MapCarrier$Memory" "strengths" "[I", .fieldLink RX2 9 "MapCarrier$Memory" "exits" "[I", .methodLink RX2 22 Lib.Math.min.name, .static Lib.Math.min.name, .initialized "java/lang/Math", .code Lib.Math.min.name Lib.Math.min.code 2 (some .int), .methodLink RX2 18 yX2_spotOf, .static yX2_spotOf, .initialized RX2, .code yX2_spotOf cX2_spotOf 3 (some .int), .methodLink RX2 27 yX2_learn, .instanceMethod yX2_learn, .selects RX2 yX2_learn yX2_learn, .code yX2_learn cX2_learn 5 none] ++ wsX20)
def wsX0_rememberWay_r1 : List Cond := [Cond.fieldLink RX0 64 "MapCarrier$Carrier" "wayLength" "I", Cond.fieldLink RX0 12 "MapCarrier$Carrier" "memory" "LMapCarrier$Memory;", Cond.fieldLink RX0 18 "MapCarrier$Carrier" "goal" "I", Cond.fieldLink RX0 22 "MapCarrier$Carrier" "way" "[I", Cond.static yX3_placeOfEnd, Cond.initialized RX3, Cond.code yX3_placeOfEnd cX3_placeOfEnd 1 (some .int), Cond.static yX3_exitOfEnd, Cond.code yX3_exitOfEnd cX3_exitOfEnd 1 (some .int), Cond.methodLink RX0 140 yX2_confirm, Cond.instanceMethod yX2_confirm, Cond.selects RX2 yX2_confirm yX2_confirm, Cond.initialized RX2, Cond.code yX2_confirm cX2_confirm 5 none, Cond.fieldLink RX2 15 "MapCarrier$Memory" "strengths" "[I", Cond.fieldLink RX2 9 "MapCarrier$Memory" "exits" "[I", Cond.methodLink RX2 22 Lib.Math.min.name, Cond.static Lib.Math.min.name, Cond.initialized "java/lang/Math", Cond.code Lib.Math.min.name Lib.Math.min.code 2 (some .int), Cond.methodLink RX2 18 yX2_spotOf, Cond.static yX2_spotOf, Cond.code yX2_spotOf cX2_spotOf 3 (some .int), Cond.methodLink RX2 27 yX2_learn]
def wsX0_rememberWay_r2 : List Cond := [Cond.instanceMethod yX2_learn, Cond.selects RX2 yX2_learn yX2_learn, Cond.code yX2_learn cX2_learn 5 none]
def wsX0_rememberWay : List Cond := .code yX0_rememberWay cX0_rememberWay 2 none :: ((wsX0_rememberWay_r1 ++ wsX0_rememberWay_r2) ++ wsX00 ++ wsX20)
def wsX0_step_r1 : List Cond := [Cond.fieldLink RX0 64 "MapCarrier$Carrier" "wayLength" "I", Cond.fieldLink RX0 53 "MapCarrier$Carrier" "inVain" "I", Cond.fieldLink RX0 40 "MapCarrier$Carrier" "at" "I", Cond.fieldLink RX0 18 "MapCarrier$Carrier" "goal" "I", Cond.fieldLink RX0 67 "MapCarrier$Carrier" "done" "I", Cond.methodLink RX0 73 yX0_rememberedEnd, Cond.instanceMethod yX0_rememberedEnd, Cond.selects RX0 yX0_rememberedEnd yX0_rememberedEnd, Cond.initialized RX0, Cond.code yX0_rememberedEnd cX0_rememberedEnd 2 (some .int), Cond.fieldLink RX0 36 "MapCarrier$Carrier" "land" "LMapCarrier$Land;", Cond.fieldLink RX0 12 "MapCarrier$Carrier" "memory" "LMapCarrier$Memory;", Cond.methodLink RX0 98 yX2_exitFor, Cond.instanceMethod yX2_exitFor, Cond.selects RX2 yX2_exitFor yX2_exitFor, Cond.initialized RX2, Cond.code yX2_exitFor cX2_exitFor 4 (some .int), Cond.fieldLink RX2 15 "MapCarrier$Memory" "strengths" "[I", Cond.fieldLink RX2 9 "MapCarrier$Memory" "exits" "[I", Cond.methodLink RX2 18 yX2_spotOf, Cond.static yX2_spotOf, Cond.code yX2_spotOf cX2_spotOf 3 (some .int), Cond.methodLink RX0 102 yX1_endAt, Cond.instanceMethod yX1_endAt]
def wsX0_step_r2 : List Cond := [Cond.selects RX1 yX1_endAt yX1_endAt, Cond.initialized RX1, Cond.code yX1_endAt cX1_endAt 4 (some .int), Cond.fieldLink RX1 9 "MapCarrier$Land" "exits" "[I", Cond.methodLink RX1 38 yX1_isPlace, Cond.instanceMethod yX1_isPlace, Cond.selects RX1 yX1_isPlace yX1_isPlace, Cond.code yX1_isPlace cX1_isPlace 2 (some .boolean), Cond.fieldLink RX1 34 "MapCarrier$Land" "places" "I", Cond.methodLink RX0 105 yX0_canTake, Cond.instanceMethod yX0_canTake, Cond.selects RX0 yX0_canTake yX0_canTake, Cond.code yX0_canTake cX0_canTake 2 (some .boolean), Cond.fieldLink RX0 26 "MapCarrier$Carrier" "tried" "[Z", Cond.static yX3_isEnd, Cond.initialized RX3, Cond.code yX3_isEnd cX3_isEnd 1 (some .boolean), Cond.methodLink RX0 77 yX0_askedEnd, Cond.instanceMethod yX0_askedEnd, Cond.selects RX0 yX0_askedEnd yX0_askedEnd, Cond.code yX0_askedEnd cX0_askedEnd 3 (some .int), Cond.fieldLink RX0 33 "MapCarrier$Carrier" "guest" "I", Cond.fieldLink RX0 30 "MapCarrier$Carrier" "askedAt" "[Z", Cond.fieldLink RX0 43 "MapCarrier$Carrier" "coins" "I"]
def wsX0_step_r3 : List Cond := [Cond.fieldLink RX0 114 "MapCarrier$Carrier" "questions" "I", Cond.methodLink RX0 108 yX1_isPlace, Cond.methodLink RX0 117 yX1_endTowards, Cond.instanceMethod yX1_endTowards, Cond.selects RX1 yX1_endTowards yX1_endTowards, Cond.code yX1_endTowards cX1_endTowards 5 (some .int), Cond.fieldLink RX1 31 "MapCarrier$Land" "far" "[I", Cond.constant RX1 63 (1000000), Cond.methodLink RX1 59 yX1_measure, Cond.instanceMethod yX1_measure, Cond.selects RX1 yX1_measure yX1_measure, Cond.code yX1_measure cX1_measure 6 none, Cond.methodLink RX1 67 yJ7_fill_53178, Cond.static yJ7_fill_53178, Cond.initialized RJ7, Cond.code yJ7_fill_53178 cJ7_fill_53178 4 none, Cond.methodLink RX1 64 yX1_milesBy, Cond.instanceMethod yX1_milesBy, Cond.selects RX1 yX1_milesBy yX1_milesBy, Cond.code yX1_milesBy cX1_milesBy 3 (some .int), Cond.fieldLink RX1 28 "MapCarrier$Land" "open" "[Z", Cond.fieldLink RX1 19 "MapCarrier$Land" "leads" "[I", Cond.fieldLink RX1 25 "MapCarrier$Land" "lengths" "[I", Cond.static yX3_placeOfEnd]
def wsX0_step_r4 : List Cond := [Cond.code yX3_placeOfEnd cX3_placeOfEnd 1 (some .int), Cond.static yX3_exitOfEnd, Cond.code yX3_exitOfEnd cX3_exitOfEnd 1 (some .int), Cond.methodLink RX0 124 yX2_learn, Cond.instanceMethod yX2_learn, Cond.selects RX2 yX2_learn yX2_learn, Cond.code yX2_learn cX2_learn 5 none, Cond.methodLink RX0 80 yX0_firstUntried, Cond.instanceMethod yX0_firstUntried, Cond.selects RX0 yX0_firstUntried yX0_firstUntried, Cond.code yX0_firstUntried cX0_firstUntried 3 (some .int), Cond.methodLink RX0 83 yX0_take, Cond.instanceMethod yX0_take, Cond.selects RX0 yX0_take yX0_take, Cond.code yX0_take cX0_take 3 none, Cond.fieldLink RX0 22 "MapCarrier$Carrier" "way" "[I", Cond.fieldLink RX0 50 "MapCarrier$Carrier" "walked" "I", Cond.methodLink RX0 128 yX1_twinOf, Cond.instanceMethod yX1_twinOf, Cond.selects RX1 yX1_twinOf yX1_twinOf, Cond.code yX1_twinOf cX1_twinOf 2 (some .int), Cond.fieldLink RX1 22 "MapCarrier$Land" "twins" "[I", Cond.methodLink RX0 131 yX1_milesAt, Cond.instanceMethod yX1_milesAt]
def wsX0_step_r5 : List Cond := [Cond.selects RX1 yX1_milesAt yX1_milesAt, Cond.code yX1_milesAt cX1_milesAt 2 (some .int), Cond.methodLink RX0 87 yX0_doubleBack, Cond.instanceMethod yX0_doubleBack, Cond.selects RX0 yX0_doubleBack yX0_doubleBack, Cond.code yX0_doubleBack cX0_doubleBack 4 none, Cond.fieldLink RX0 137 "MapCarrier$Carrier" "doubled" "I", Cond.methodLink RX0 70 yX0_endErrand, Cond.instanceMethod yX0_endErrand, Cond.selects RX0 yX0_endErrand yX0_endErrand, Cond.code yX0_endErrand cX0_endErrand 1 none, Cond.methodLink RX0 90 yX0_rememberWay, Cond.instanceMethod yX0_rememberWay, Cond.selects RX0 yX0_rememberWay yX0_rememberWay, Cond.code yX0_rememberWay cX0_rememberWay 2 none, Cond.methodLink RX0 140 yX2_confirm, Cond.instanceMethod yX2_confirm, Cond.selects RX2 yX2_confirm yX2_confirm, Cond.code yX2_confirm cX2_confirm 5 none, Cond.methodLink RX2 22 Lib.Math.min.name, Cond.static Lib.Math.min.name, Cond.initialized "java/lang/Math", Cond.code Lib.Math.min.name Lib.Math.min.code 2 (some .int), Cond.methodLink RX2 27 yX2_learn]
def wsX0_step : List Cond := .code yX0_step cX0_step 2 (some .boolean) :: ((wsX0_step_r1 ++ (wsX0_step_r2 ++ (wsX0_step_r3 ++ (wsX0_step_r4 ++ wsX0_step_r5)))) ++ wsX00 ++ wsX20 ++ wsX10)
def wsX1_opensAt : List Cond := .code yX1_opensAt cX1_opensAt 2 (some .boolean) :: ([.fieldLink RX1 28 "MapCarrier$Land" "open" "[Z", .static yX3_isEnd, .initialized RX3, .code yX3_isEnd cX3_isEnd 1 (some .boolean)] ++ wsX10)
def wsX1_beyond : List Cond := .code yX1_beyond cX1_beyond 2 (some .int) :: ([.fieldLink RX1 19 "MapCarrier$Land" "leads" "[I", .static yX3_isEnd, .initialized RX3, .code yX3_isEnd cX3_isEnd 1 (some .boolean)] ++ wsX10)
def wsX0_findsByMemory_r1 : List Cond := [Cond.fieldLink RX0 40 "MapCarrier$Carrier" "at" "I", Cond.fieldLink RX0 36 "MapCarrier$Carrier" "land" "LMapCarrier$Land;", Cond.fieldLink RX0 12 "MapCarrier$Carrier" "memory" "LMapCarrier$Memory;", Cond.methodLink RX0 98 yX2_exitFor, Cond.instanceMethod yX2_exitFor, Cond.selects RX2 yX2_exitFor yX2_exitFor, Cond.initialized RX2, Cond.code yX2_exitFor cX2_exitFor 4 (some .int), Cond.fieldLink RX2 15 "MapCarrier$Memory" "strengths" "[I", Cond.fieldLink RX2 9 "MapCarrier$Memory" "exits" "[I", Cond.methodLink RX2 18 yX2_spotOf, Cond.static yX2_spotOf, Cond.code yX2_spotOf cX2_spotOf 3 (some .int), Cond.methodLink RX0 102 yX1_endAt, Cond.instanceMethod yX1_endAt, Cond.selects RX1 yX1_endAt yX1_endAt, Cond.initialized RX1, Cond.code yX1_endAt cX1_endAt 4 (some .int), Cond.fieldLink RX1 9 "MapCarrier$Land" "exits" "[I", Cond.methodLink RX1 38 yX1_isPlace, Cond.instanceMethod yX1_isPlace, Cond.selects RX1 yX1_isPlace yX1_isPlace, Cond.code yX1_isPlace cX1_isPlace 2 (some .boolean), Cond.fieldLink RX1 34 "MapCarrier$Land" "places" "I"]
def wsX0_findsByMemory_r2 : List Cond := [Cond.methodLink RX0 143 yX1_opensAt, Cond.instanceMethod yX1_opensAt, Cond.selects RX1 yX1_opensAt yX1_opensAt, Cond.code yX1_opensAt cX1_opensAt 2 (some .boolean), Cond.fieldLink RX1 28 "MapCarrier$Land" "open" "[Z", Cond.static yX3_isEnd, Cond.initialized RX3, Cond.code yX3_isEnd cX3_isEnd 1 (some .boolean), Cond.methodLink RX0 146 yX1_beyond, Cond.instanceMethod yX1_beyond, Cond.selects RX1 yX1_beyond yX1_beyond, Cond.code yX1_beyond cX1_beyond 2 (some .int), Cond.fieldLink RX1 19 "MapCarrier$Land" "leads" "[I"]
def wsX0_findsByMemory : List Cond := .code yX0_findsByMemory cX0_findsByMemory 5 (some .boolean) :: ((wsX0_findsByMemory_r1 ++ wsX0_findsByMemory_r2) ++ wsX00 ++ wsX20 ++ wsX10)
def wsX1_init : List Cond := .code yX1_init cX1_init 1 none :: ([.methodLink RX1 3 objectInit, .instanceMethod objectInit, .code objectInit ⟨#[0xb1]⟩ 1 none, .arrayClass .int, .fieldLink RX1 9 "MapCarrier$Land" "exits" "[I", .arrayClass .boolean, .fieldLink RX1 15 "MapCarrier$Land" "shepherds" "[Z", .fieldLink RX1 19 "MapCarrier$Land" "leads" "[I", .fieldLink RX1 22 "MapCarrier$Land" "twins" "[I", .fieldLink RX1 25 "MapCarrier$Land" "lengths" "[I", .fieldLink RX1 28 "MapCarrier$Land" "open" "[Z", .fieldLink RX1 31 "MapCarrier$Land" "far" "[I"] ++ wsX10)
def wsX1_hasRoom : List Cond := .code yX1_hasRoom cX1_hasRoom 2 (some .boolean) :: ([.fieldLink RX1 9 "MapCarrier$Land" "exits" "[I", .methodLink RX1 38 yX1_isPlace, .instanceMethod yX1_isPlace, .selects RX1 yX1_isPlace yX1_isPlace, .initialized RX1, .code yX1_isPlace cX1_isPlace 2 (some .boolean), .fieldLink RX1 34 "MapCarrier$Land" "places" "I"] ++ wsX10)
def wsX1_layEnd : List Cond := .code yX1_layEnd cX1_layEnd 4 none :: ([.fieldLink RX1 19 "MapCarrier$Land" "leads" "[I", .fieldLink RX1 22 "MapCarrier$Land" "twins" "[I", .fieldLink RX1 25 "MapCarrier$Land" "lengths" "[I", .fieldLink RX1 28 "MapCarrier$Land" "open" "[Z", .static yX3_placeOfEnd, .initialized RX3, .code yX3_placeOfEnd cX3_placeOfEnd 1 (some .int)] ++ wsX10)
def wsX1_join : List Cond := .code yX1_join cX1_join 7 (some .int) :: ([.fieldLink RX1 9 "MapCarrier$Land" "exits" "[I", .methodLink RX1 42 yX1_hasRoom, .instanceMethod yX1_hasRoom, .selects RX1 yX1_hasRoom yX1_hasRoom, .initialized RX1, .code yX1_hasRoom cX1_hasRoom 2 (some .boolean), .methodLink RX1 38 yX1_isPlace, .instanceMethod yX1_isPlace, .selects RX1 yX1_isPlace yX1_isPlace, .code yX1_isPlace cX1_isPlace 2 (some .boolean), .fieldLink RX1 34 "MapCarrier$Land" "places" "I", .methodLink RX1 45 yX1_layEnd, .instanceMethod yX1_layEnd, .selects RX1 yX1_layEnd yX1_layEnd, .code yX1_layEnd cX1_layEnd 4 none, .fieldLink RX1 19 "MapCarrier$Land" "leads" "[I", .fieldLink RX1 22 "MapCarrier$Land" "twins" "[I", .fieldLink RX1 25 "MapCarrier$Land" "lengths" "[I", .fieldLink RX1 28 "MapCarrier$Land" "open" "[Z", .static yX3_placeOfEnd, .initialized RX3, .code yX3_placeOfEnd cX3_placeOfEnd 1 (some .int)] ++ wsX10)
def wsX1_turnEnd : List Cond := .code yX1_turnEnd cX1_turnEnd 4 (some .boolean) :: ([.fieldLink RX1 28 "MapCarrier$Land" "open" "[Z", .methodLink RX1 53 yX1_twinOf, .instanceMethod yX1_twinOf, .selects RX1 yX1_twinOf yX1_twinOf, .initialized RX1, .code yX1_twinOf cX1_twinOf 2 (some .int), .fieldLink RX1 22 "MapCarrier$Land" "twins" "[I", .static yX3_isEnd, .initialized RX3, .code yX3_isEnd cX3_isEnd 1 (some .boolean)] ++ wsX10)
def wsX1_shortest_r1 : List Cond := [Cond.fieldLink RX1 31 "MapCarrier$Land" "far" "[I", Cond.constant RX1 63 (1000000), Cond.methodLink RX1 59 yX1_measure, Cond.instanceMethod yX1_measure, Cond.selects RX1 yX1_measure yX1_measure, Cond.initialized RX1, Cond.code yX1_measure cX1_measure 6 none, Cond.methodLink RX1 67 yJ7_fill_53178, Cond.static yJ7_fill_53178, Cond.initialized RJ7, Cond.code yJ7_fill_53178 cJ7_fill_53178 4 none, Cond.methodLink RX1 38 yX1_isPlace, Cond.instanceMethod yX1_isPlace, Cond.selects RX1 yX1_isPlace yX1_isPlace, Cond.code yX1_isPlace cX1_isPlace 2 (some .boolean), Cond.fieldLink RX1 34 "MapCarrier$Land" "places" "I", Cond.methodLink RX1 64 yX1_milesBy, Cond.instanceMethod yX1_milesBy, Cond.selects RX1 yX1_milesBy yX1_milesBy, Cond.code yX1_milesBy cX1_milesBy 3 (some .int), Cond.fieldLink RX1 28 "MapCarrier$Land" "open" "[Z", Cond.fieldLink RX1 19 "MapCarrier$Land" "leads" "[I", Cond.fieldLink RX1 25 "MapCarrier$Land" "lengths" "[I", Cond.static yX3_placeOfEnd]
def wsX1_shortest_r2 : List Cond := [Cond.initialized RX3, Cond.code yX3_placeOfEnd cX3_placeOfEnd 1 (some .int)]
def wsX1_shortest : List Cond := .code yX1_shortest cX1_shortest 3 (some .int) :: ((wsX1_shortest_r1 ++ wsX1_shortest_r2) ++ wsX10)
def wsX2_strengthFor : List Cond := .code yX2_strengthFor cX2_strengthFor 4 (some .int) :: ([.fieldLink RX2 15 "MapCarrier$Memory" "strengths" "[I", .methodLink RX2 18 yX2_spotOf, .static yX2_spotOf, .initialized RX2, .code yX2_spotOf cX2_spotOf 3 (some .int)] ++ wsX20)
def wsX2_fade : List Cond := .code yX2_fade cX2_fade 5 (some .int) :: ([.fieldLink RX2 15 "MapCarrier$Memory" "strengths" "[I", .methodLink RX2 31 Lib.Math.max.name, .static Lib.Math.max.name, .initialized "java/lang/Math", .code Lib.Math.max.name Lib.Math.max.code 2 (some .int)] ++ wsX20)
def wsX3_init_r1 : List Cond := [Cond.methodLink RX3 3 objectInit, Cond.instanceMethod objectInit, Cond.code objectInit ⟨#[0xb1]⟩ 1 none, Cond.classLink RX3 9 RX1, Cond.instantiable RX1 8, Cond.initialized RX1, Cond.fieldLink RX3 12 "MapCarrier" "land" "LMapCarrier$Land;", Cond.classLink RX3 16 RX0, Cond.instantiable RX0 15, Cond.initialized RX0, Cond.fieldLink RX3 21 "MapCarrier" "carrier" "LMapCarrier$Carrier;", Cond.fieldLink RX3 25 "MapCarrier" "trial" "LMapCarrier$Carrier;", Cond.instanceMethod yX1_init, Cond.code yX1_init cX1_init 1 none, Cond.methodLink RX1 3 objectInit, Cond.arrayClass .int, Cond.fieldLink RX1 9 "MapCarrier$Land" "exits" "[I", Cond.arrayClass .boolean, Cond.fieldLink RX1 15 "MapCarrier$Land" "shepherds" "[Z", Cond.fieldLink RX1 19 "MapCarrier$Land" "leads" "[I", Cond.fieldLink RX1 22 "MapCarrier$Land" "twins" "[I", Cond.fieldLink RX1 25 "MapCarrier$Land" "lengths" "[I", Cond.fieldLink RX1 28 "MapCarrier$Land" "open" "[Z", Cond.fieldLink RX1 31 "MapCarrier$Land" "far" "[I"]
def wsX3_init_r2 : List Cond := [Cond.methodLink RX3 18 yX0_init, Cond.instanceMethod yX0_init, Cond.code yX0_init cX0_init 2 none, Cond.methodLink RX0 3 objectInit, Cond.classLink RX0 9 RX2, Cond.instantiable RX2 2, Cond.initialized RX2, Cond.fieldLink RX0 12 "MapCarrier$Carrier" "memory" "LMapCarrier$Memory;", Cond.fieldLink RX0 18 "MapCarrier$Carrier" "goal" "I", Cond.fieldLink RX0 22 "MapCarrier$Carrier" "way" "[I", Cond.fieldLink RX0 26 "MapCarrier$Carrier" "tried" "[Z", Cond.fieldLink RX0 30 "MapCarrier$Carrier" "askedAt" "[Z", Cond.fieldLink RX0 33 "MapCarrier$Carrier" "guest" "I", Cond.fieldLink RX0 36 "MapCarrier$Carrier" "land" "LMapCarrier$Land;", Cond.instanceMethod yX2_init, Cond.code yX2_init cX2_init 1 none, Cond.methodLink RX2 3 objectInit, Cond.fieldLink RX2 9 "MapCarrier$Memory" "exits" "[I", Cond.fieldLink RX2 15 "MapCarrier$Memory" "strengths" "[I"]
def wsX3_init : List Cond := .code yX3_init cX3_init 1 none :: ((wsX3_init_r1 ++ wsX3_init_r2) ++ wsX10 ++ wsX30 ++ wsX00 ++ wsX20)
def wsX3_addPlace : List Cond := .code yX3_addPlace cX3_addPlace 1 (some .int) :: ([.classLink RX3 32 "java/lang/IllegalStateException", .initialized "java/lang/IllegalStateException", .fieldLink RX3 12 "MapCarrier" "land" "LMapCarrier$Land;"] ++ wsX30 ++ wsX10 ++ (vx_atS RX3 36 "java/lang/IllegalStateException" ["java/lang/RuntimeException", "java/lang/Exception"]).filter goodWord)
def wsX3_checkPlace : List Cond := .code yX3_checkPlace cX3_checkPlace 2 none :: ([.classLink RX3 208 "java/lang/IndexOutOfBoundsException", .initialized "java/lang/IndexOutOfBoundsException", .fieldLink RX3 12 "MapCarrier" "land" "LMapCarrier$Land;", .methodLink RX3 205 yX1_isPlace, .instanceMethod yX1_isPlace, .selects RX1 yX1_isPlace yX1_isPlace, .initialized RX1, .code yX1_isPlace cX1_isPlace 2 (some .boolean), .fieldLink RX1 34 "MapCarrier$Land" "places" "I"] ++ wsX30 ++ wsX10 ++ (vx_atS RX3 212 "java/lang/IndexOutOfBoundsException" ["java/lang/RuntimeException", "java/lang/Exception"]).filter goodWord)
def wsX3_checkRange : List Cond := .code yX3_checkRange cX3_checkRange 3 none :: ([.classLink RX3 43 "java/lang/IllegalArgumentException", .initialized "java/lang/IllegalArgumentException"] ++ (vx_atS RX3 47 "java/lang/IllegalArgumentException" ["java/lang/RuntimeException", "java/lang/Exception"]).filter goodWord)
def wsX3_addRoad_r1 : List Cond := [Cond.classLink RX3 43 "java/lang/IllegalArgumentException", Cond.initialized "java/lang/IllegalArgumentException", Cond.classLink RX3 32 "java/lang/IllegalStateException", Cond.initialized "java/lang/IllegalStateException", Cond.fieldLink RX3 12 "MapCarrier" "land" "LMapCarrier$Land;", Cond.methodLink RX3 39 yX3_checkPlace, Cond.instanceMethod yX3_checkPlace, Cond.selects RX3 yX3_checkPlace yX3_checkPlace, Cond.initialized RX3, Cond.code yX3_checkPlace cX3_checkPlace 2 none, Cond.classLink RX3 208 "java/lang/IndexOutOfBoundsException", Cond.initialized "java/lang/IndexOutOfBoundsException", Cond.methodLink RX3 205 yX1_isPlace, Cond.instanceMethod yX1_isPlace, Cond.selects RX1 yX1_isPlace yX1_isPlace, Cond.initialized RX1, Cond.code yX1_isPlace cX1_isPlace 2 (some .boolean), Cond.fieldLink RX1 34 "MapCarrier$Land" "places" "I", Cond.methodLink RX3 48 yX3_checkRange, Cond.instanceMethod yX3_checkRange, Cond.selects RX3 yX3_checkRange yX3_checkRange, Cond.code yX3_checkRange cX3_checkRange 3 none, Cond.methodLink RX3 52 yX1_hasRoom, Cond.instanceMethod yX1_hasRoom]
def wsX3_addRoad_r2 : List Cond := [Cond.selects RX1 yX1_hasRoom yX1_hasRoom, Cond.code yX1_hasRoom cX1_hasRoom 2 (some .boolean), Cond.fieldLink RX1 9 "MapCarrier$Land" "exits" "[I", Cond.methodLink RX1 38 yX1_isPlace, Cond.methodLink RX3 58 yX1_join, Cond.instanceMethod yX1_join, Cond.selects RX1 yX1_join yX1_join, Cond.code yX1_join cX1_join 7 (some .int), Cond.methodLink RX1 42 yX1_hasRoom, Cond.methodLink RX1 45 yX1_layEnd, Cond.instanceMethod yX1_layEnd, Cond.selects RX1 yX1_layEnd yX1_layEnd, Cond.code yX1_layEnd cX1_layEnd 4 none, Cond.fieldLink RX1 19 "MapCarrier$Land" "leads" "[I", Cond.fieldLink RX1 22 "MapCarrier$Land" "twins" "[I", Cond.fieldLink RX1 25 "MapCarrier$Land" "lengths" "[I", Cond.fieldLink RX1 28 "MapCarrier$Land" "open" "[Z", Cond.static yX3_placeOfEnd, Cond.code yX3_placeOfEnd cX3_placeOfEnd 1 (some .int)]
def wsX3_addRoad : List Cond := .code yX3_addRoad cX3_addRoad 4 (some .int) :: ((wsX3_addRoad_r1 ++ wsX3_addRoad_r2) ++ wsX30 ++ wsX10 ++ (vx_atS RX3 47 "java/lang/IllegalArgumentException" ["java/lang/RuntimeException", "java/lang/Exception"]).filter goodWord ++ (vx_atS RX3 36 "java/lang/IllegalStateException" ["java/lang/RuntimeException", "java/lang/Exception"]).filter goodWord ++ (vx_atS RX3 212 "java/lang/IndexOutOfBoundsException" ["java/lang/RuntimeException", "java/lang/Exception"]).filter goodWord)
def wsX3_checkedEnd : List Cond := .code yX3_checkedEnd cX3_checkedEnd 4 (some .int) :: ([.classLink RX3 208 "java/lang/IndexOutOfBoundsException", .initialized "java/lang/IndexOutOfBoundsException", .fieldLink RX3 12 "MapCarrier" "land" "LMapCarrier$Land;", .methodLink RX3 213 yX1_endAt, .instanceMethod yX1_endAt, .selects RX1 yX1_endAt yX1_endAt, .initialized RX1, .code yX1_endAt cX1_endAt 4 (some .int), .fieldLink RX1 9 "MapCarrier$Land" "exits" "[I", .methodLink RX1 38 yX1_isPlace, .instanceMethod yX1_isPlace, .selects RX1 yX1_isPlace yX1_isPlace, .code yX1_isPlace cX1_isPlace 2 (some .boolean), .fieldLink RX1 34 "MapCarrier$Land" "places" "I"] ++ wsX30 ++ wsX10 ++ (vx_atS RX3 212 "java/lang/IndexOutOfBoundsException" ["java/lang/RuntimeException", "java/lang/Exception"]).filter goodWord)
def wsX3_turnRoad_r1 : List Cond := [Cond.fieldLink RX3 12 "MapCarrier" "land" "LMapCarrier$Land;", Cond.methodLink RX3 62 yX3_checkedEnd, Cond.instanceMethod yX3_checkedEnd, Cond.selects RX3 yX3_checkedEnd yX3_checkedEnd, Cond.initialized RX3, Cond.code yX3_checkedEnd cX3_checkedEnd 4 (some .int), Cond.classLink RX3 208 "java/lang/IndexOutOfBoundsException", Cond.initialized "java/lang/IndexOutOfBoundsException", Cond.methodLink RX3 213 yX1_endAt, Cond.instanceMethod yX1_endAt, Cond.selects RX1 yX1_endAt yX1_endAt, Cond.initialized RX1, Cond.code yX1_endAt cX1_endAt 4 (some .int), Cond.fieldLink RX1 9 "MapCarrier$Land" "exits" "[I", Cond.methodLink RX1 38 yX1_isPlace, Cond.instanceMethod yX1_isPlace, Cond.selects RX1 yX1_isPlace yX1_isPlace, Cond.code yX1_isPlace cX1_isPlace 2 (some .boolean), Cond.fieldLink RX1 34 "MapCarrier$Land" "places" "I", Cond.methodLink RX3 66 yX1_turnEnd, Cond.instanceMethod yX1_turnEnd, Cond.selects RX1 yX1_turnEnd yX1_turnEnd, Cond.code yX1_turnEnd cX1_turnEnd 4 (some .boolean), Cond.fieldLink RX1 28 "MapCarrier$Land" "open" "[Z"]
def wsX3_turnRoad_r2 : List Cond := [Cond.methodLink RX1 53 yX1_twinOf, Cond.instanceMethod yX1_twinOf, Cond.selects RX1 yX1_twinOf yX1_twinOf, Cond.code yX1_twinOf cX1_twinOf 2 (some .int), Cond.fieldLink RX1 22 "MapCarrier$Land" "twins" "[I", Cond.static yX3_isEnd, Cond.code yX3_isEnd cX3_isEnd 1 (some .boolean)]
def wsX3_turnRoad : List Cond := .code yX3_turnRoad cX3_turnRoad 3 (some .boolean) :: ((wsX3_turnRoad_r1 ++ wsX3_turnRoad_r2) ++ wsX30 ++ wsX10 ++ (vx_atS RX3 212 "java/lang/IndexOutOfBoundsException" ["java/lang/RuntimeException", "java/lang/Exception"]).filter goodWord)
def wsX3_turnShepherd : List Cond := .code yX3_turnShepherd cX3_turnShepherd 2 (some .boolean) :: ([.fieldLink RX3 12 "MapCarrier" "land" "LMapCarrier$Land;", .methodLink RX3 39 yX3_checkPlace, .instanceMethod yX3_checkPlace, .selects RX3 yX3_checkPlace yX3_checkPlace, .initialized RX3, .code yX3_checkPlace cX3_checkPlace 2 none, .classLink RX3 208 "java/lang/IndexOutOfBoundsException", .initialized "java/lang/IndexOutOfBoundsException", .methodLink RX3 205 yX1_isPlace, .instanceMethod yX1_isPlace, .selects RX1 yX1_isPlace yX1_isPlace, .initialized RX1, .code yX1_isPlace cX1_isPlace 2 (some .boolean), .fieldLink RX1 34 "MapCarrier$Land" "places" "I"] ++ wsX30 ++ wsX10 ++ (vx_atS RX3 212 "java/lang/IndexOutOfBoundsException" ["java/lang/RuntimeException", "java/lang/Exception"]).filter goodWord)
def wsX3_pay : List Cond := .code yX3_pay cX3_pay 2 (some .int) :: ([.fieldLink RX3 21 "MapCarrier" "carrier" "LMapCarrier$Carrier;", .methodLink RX3 76 Lib.Math.min.name, .static Lib.Math.min.name, .initialized "java/lang/Math", .code Lib.Math.min.name Lib.Math.min.code 2 (some .int), .methodLink RX3 48 yX3_checkRange, .instanceMethod yX3_checkRange, .selects RX3 yX3_checkRange yX3_checkRange, .initialized RX3, .code yX3_checkRange cX3_checkRange 3 none, .classLink RX3 43 "java/lang/IllegalArgumentException", .initialized "java/lang/IllegalArgumentException"] ++ wsX30 ++ wsX00 ++ (vx_atS RX3 47 "java/lang/IllegalArgumentException" ["java/lang/RuntimeException", "java/lang/Exception"]).filter goodWord)
def wsX3_checkIdle : List Cond := .code yX3_checkIdle cX3_checkIdle 1 none :: ([.classLink RX3 32 "java/lang/IllegalStateException", .initialized "java/lang/IllegalStateException", .fieldLink RX3 21 "MapCarrier" "carrier" "LMapCarrier$Carrier;", .methodLink RX3 96 yX0_isUnderway, .instanceMethod yX0_isUnderway, .selects RX0 yX0_isUnderway yX0_isUnderway, .initialized RX0, .code yX0_isUnderway cX0_isUnderway 1 (some .boolean), .fieldLink RX0 18 "MapCarrier$Carrier" "goal" "I"] ++ wsX30 ++ wsX00 ++ (vx_atS RX3 36 "java/lang/IllegalStateException" ["java/lang/RuntimeException", "java/lang/Exception"]).filter goodWord)
def wsX3_beginErrand_r1 : List Cond := [Cond.fieldLink RX3 12 "MapCarrier" "land" "LMapCarrier$Land;", Cond.fieldLink RX3 21 "MapCarrier" "carrier" "LMapCarrier$Carrier;", Cond.methodLink RX3 39 yX3_checkPlace, Cond.instanceMethod yX3_checkPlace, Cond.selects RX3 yX3_checkPlace yX3_checkPlace, Cond.initialized RX3, Cond.code yX3_checkPlace cX3_checkPlace 2 none, Cond.classLink RX3 208 "java/lang/IndexOutOfBoundsException", Cond.initialized "java/lang/IndexOutOfBoundsException", Cond.methodLink RX3 205 yX1_isPlace, Cond.instanceMethod yX1_isPlace, Cond.selects RX1 yX1_isPlace yX1_isPlace, Cond.initialized RX1, Cond.code yX1_isPlace cX1_isPlace 2 (some .boolean), Cond.fieldLink RX1 34 "MapCarrier$Land" "places" "I", Cond.methodLink RX3 81 yX3_checkIdle, Cond.instanceMethod yX3_checkIdle, Cond.selects RX3 yX3_checkIdle yX3_checkIdle, Cond.code yX3_checkIdle cX3_checkIdle 1 none, Cond.classLink RX3 32 "java/lang/IllegalStateException", Cond.initialized "java/lang/IllegalStateException", Cond.methodLink RX3 96 yX0_isUnderway, Cond.instanceMethod yX0_isUnderway, Cond.selects RX0 yX0_isUnderway yX0_isUnderway]
def wsX3_beginErrand_r2 : List Cond := [Cond.initialized RX0, Cond.code yX0_isUnderway cX0_isUnderway 1 (some .boolean), Cond.fieldLink RX0 18 "MapCarrier$Carrier" "goal" "I", Cond.methodLink RX3 87 yX1_shortest, Cond.instanceMethod yX1_shortest, Cond.selects RX1 yX1_shortest yX1_shortest, Cond.code yX1_shortest cX1_shortest 3 (some .int), Cond.fieldLink RX1 31 "MapCarrier$Land" "far" "[I", Cond.constant RX1 63 (1000000), Cond.methodLink RX1 59 yX1_measure, Cond.instanceMethod yX1_measure, Cond.selects RX1 yX1_measure yX1_measure, Cond.code yX1_measure cX1_measure 6 none, Cond.methodLink RX1 67 yJ7_fill_53178, Cond.static yJ7_fill_53178, Cond.initialized RJ7, Cond.code yJ7_fill_53178 cJ7_fill_53178 4 none, Cond.methodLink RX1 38 yX1_isPlace, Cond.methodLink RX1 64 yX1_milesBy, Cond.instanceMethod yX1_milesBy, Cond.selects RX1 yX1_milesBy yX1_milesBy, Cond.code yX1_milesBy cX1_milesBy 3 (some .int), Cond.fieldLink RX1 28 "MapCarrier$Land" "open" "[Z", Cond.fieldLink RX1 19 "MapCarrier$Land" "leads" "[I"]
def wsX3_beginErrand_r3 : List Cond := [Cond.fieldLink RX1 25 "MapCarrier$Land" "lengths" "[I", Cond.static yX3_placeOfEnd, Cond.code yX3_placeOfEnd cX3_placeOfEnd 1 (some .int), Cond.methodLink RX3 90 yX0_begin, Cond.instanceMethod yX0_begin, Cond.selects RX0 yX0_begin yX0_begin, Cond.code yX0_begin cX0_begin 2 none, Cond.fieldLink RX0 26 "MapCarrier$Carrier" "tried" "[Z", Cond.fieldLink RX0 30 "MapCarrier$Carrier" "askedAt" "[Z", Cond.fieldLink RX0 64 "MapCarrier$Carrier" "wayLength" "I", Cond.fieldLink RX0 40 "MapCarrier$Carrier" "at" "I", Cond.fieldLink RX0 67 "MapCarrier$Carrier" "done" "I", Cond.methodLink RX0 60 yX0_forget, Cond.static yX0_forget, Cond.code yX0_forget cX0_forget 2 none, Cond.methodLink RX0 70 yX0_endErrand, Cond.instanceMethod yX0_endErrand, Cond.selects RX0 yX0_endErrand yX0_endErrand, Cond.code yX0_endErrand cX0_endErrand 1 none]
def wsX3_beginErrand : List Cond := .code yX3_beginErrand cX3_beginErrand 3 (some .int) :: ((wsX3_beginErrand_r1 ++ (wsX3_beginErrand_r2 ++ wsX3_beginErrand_r3)) ++ wsX30 ++ wsX00 ++ wsX10 ++ (vx_atS RX3 212 "java/lang/IndexOutOfBoundsException" ["java/lang/RuntimeException", "java/lang/Exception"]).filter goodWord ++ (vx_atS RX3 36 "java/lang/IllegalStateException" ["java/lang/RuntimeException", "java/lang/Exception"]).filter goodWord)
def wsX3_checkUnderway : List Cond := .code yX3_checkUnderway cX3_checkUnderway 1 none :: ([.classLink RX3 32 "java/lang/IllegalStateException", .initialized "java/lang/IllegalStateException", .fieldLink RX3 21 "MapCarrier" "carrier" "LMapCarrier$Carrier;", .methodLink RX3 96 yX0_isUnderway, .instanceMethod yX0_isUnderway, .selects RX0 yX0_isUnderway yX0_isUnderway, .initialized RX0, .code yX0_isUnderway cX0_isUnderway 1 (some .boolean), .fieldLink RX0 18 "MapCarrier$Carrier" "goal" "I"] ++ wsX30 ++ wsX00 ++ (vx_atS RX3 36 "java/lang/IllegalStateException" ["java/lang/RuntimeException", "java/lang/Exception"]).filter goodWord)
def wsX3_goOn_r1 : List Cond := [Cond.fieldLink RX3 21 "MapCarrier" "carrier" "LMapCarrier$Carrier;", Cond.methodLink RX3 48 yX3_checkRange, Cond.instanceMethod yX3_checkRange, Cond.selects RX3 yX3_checkRange yX3_checkRange, Cond.initialized RX3, Cond.code yX3_checkRange cX3_checkRange 3 none, Cond.classLink RX3 43 "java/lang/IllegalArgumentException", Cond.initialized "java/lang/IllegalArgumentException", Cond.methodLink RX3 93 yX3_checkUnderway, Cond.instanceMethod yX3_checkUnderway, Cond.selects RX3 yX3_checkUnderway yX3_checkUnderway, Cond.code yX3_checkUnderway cX3_checkUnderway 1 none, Cond.classLink RX3 32 "java/lang/IllegalStateException", Cond.initialized "java/lang/IllegalStateException", Cond.methodLink RX3 96 yX0_isUnderway, Cond.instanceMethod yX0_isUnderway, Cond.selects RX0 yX0_isUnderway yX0_isUnderway, Cond.initialized RX0, Cond.code yX0_isUnderway cX0_isUnderway 1 (some .boolean), Cond.fieldLink RX0 18 "MapCarrier$Carrier" "goal" "I", Cond.methodLink RX3 100 yX0_step, Cond.instanceMethod yX0_step, Cond.selects RX0 yX0_step yX0_step, Cond.code yX0_step cX0_step 2 (some .boolean)]
def wsX3_goOn_r2 : List Cond := [Cond.fieldLink RX0 64 "MapCarrier$Carrier" "wayLength" "I", Cond.fieldLink RX0 53 "MapCarrier$Carrier" "inVain" "I", Cond.fieldLink RX0 40 "MapCarrier$Carrier" "at" "I", Cond.fieldLink RX0 67 "MapCarrier$Carrier" "done" "I", Cond.methodLink RX0 73 yX0_rememberedEnd, Cond.instanceMethod yX0_rememberedEnd, Cond.selects RX0 yX0_rememberedEnd yX0_rememberedEnd, Cond.code yX0_rememberedEnd cX0_rememberedEnd 2 (some .int), Cond.fieldLink RX0 36 "MapCarrier$Carrier" "land" "LMapCarrier$Land;", Cond.fieldLink RX0 12 "MapCarrier$Carrier" "memory" "LMapCarrier$Memory;", Cond.methodLink RX0 98 yX2_exitFor, Cond.instanceMethod yX2_exitFor, Cond.selects RX2 yX2_exitFor yX2_exitFor, Cond.initialized RX2, Cond.code yX2_exitFor cX2_exitFor 4 (some .int), Cond.fieldLink RX2 15 "MapCarrier$Memory" "strengths" "[I", Cond.fieldLink RX2 9 "MapCarrier$Memory" "exits" "[I", Cond.methodLink RX2 18 yX2_spotOf, Cond.static yX2_spotOf, Cond.code yX2_spotOf cX2_spotOf 3 (some .int), Cond.methodLink RX0 102 yX1_endAt, Cond.instanceMethod yX1_endAt, Cond.selects RX1 yX1_endAt yX1_endAt, Cond.initialized RX1]
def wsX3_goOn_r3 : List Cond := [Cond.code yX1_endAt cX1_endAt 4 (some .int), Cond.fieldLink RX1 9 "MapCarrier$Land" "exits" "[I", Cond.methodLink RX1 38 yX1_isPlace, Cond.instanceMethod yX1_isPlace, Cond.selects RX1 yX1_isPlace yX1_isPlace, Cond.code yX1_isPlace cX1_isPlace 2 (some .boolean), Cond.fieldLink RX1 34 "MapCarrier$Land" "places" "I", Cond.methodLink RX0 105 yX0_canTake, Cond.instanceMethod yX0_canTake, Cond.selects RX0 yX0_canTake yX0_canTake, Cond.code yX0_canTake cX0_canTake 2 (some .boolean), Cond.fieldLink RX0 26 "MapCarrier$Carrier" "tried" "[Z", Cond.static yX3_isEnd, Cond.code yX3_isEnd cX3_isEnd 1 (some .boolean), Cond.methodLink RX0 77 yX0_askedEnd, Cond.instanceMethod yX0_askedEnd, Cond.selects RX0 yX0_askedEnd yX0_askedEnd, Cond.code yX0_askedEnd cX0_askedEnd 3 (some .int), Cond.fieldLink RX0 33 "MapCarrier$Carrier" "guest" "I", Cond.fieldLink RX0 30 "MapCarrier$Carrier" "askedAt" "[Z", Cond.fieldLink RX0 43 "MapCarrier$Carrier" "coins" "I", Cond.fieldLink RX0 114 "MapCarrier$Carrier" "questions" "I", Cond.methodLink RX0 108 yX1_isPlace, Cond.methodLink RX0 117 yX1_endTowards]
def wsX3_goOn_r4 : List Cond := [Cond.instanceMethod yX1_endTowards, Cond.selects RX1 yX1_endTowards yX1_endTowards, Cond.code yX1_endTowards cX1_endTowards 5 (some .int), Cond.fieldLink RX1 31 "MapCarrier$Land" "far" "[I", Cond.constant RX1 63 (1000000), Cond.methodLink RX1 59 yX1_measure, Cond.instanceMethod yX1_measure, Cond.selects RX1 yX1_measure yX1_measure, Cond.code yX1_measure cX1_measure 6 none, Cond.methodLink RX1 67 yJ7_fill_53178, Cond.static yJ7_fill_53178, Cond.initialized RJ7, Cond.code yJ7_fill_53178 cJ7_fill_53178 4 none, Cond.methodLink RX1 64 yX1_milesBy, Cond.instanceMethod yX1_milesBy, Cond.selects RX1 yX1_milesBy yX1_milesBy, Cond.code yX1_milesBy cX1_milesBy 3 (some .int), Cond.fieldLink RX1 28 "MapCarrier$Land" "open" "[Z", Cond.fieldLink RX1 19 "MapCarrier$Land" "leads" "[I", Cond.fieldLink RX1 25 "MapCarrier$Land" "lengths" "[I", Cond.static yX3_placeOfEnd, Cond.code yX3_placeOfEnd cX3_placeOfEnd 1 (some .int), Cond.static yX3_exitOfEnd, Cond.code yX3_exitOfEnd cX3_exitOfEnd 1 (some .int)]
def wsX3_goOn_r5 : List Cond := [Cond.methodLink RX0 124 yX2_learn, Cond.instanceMethod yX2_learn, Cond.selects RX2 yX2_learn yX2_learn, Cond.code yX2_learn cX2_learn 5 none, Cond.methodLink RX0 80 yX0_firstUntried, Cond.instanceMethod yX0_firstUntried, Cond.selects RX0 yX0_firstUntried yX0_firstUntried, Cond.code yX0_firstUntried cX0_firstUntried 3 (some .int), Cond.methodLink RX0 83 yX0_take, Cond.instanceMethod yX0_take, Cond.selects RX0 yX0_take yX0_take, Cond.code yX0_take cX0_take 3 none, Cond.fieldLink RX0 22 "MapCarrier$Carrier" "way" "[I", Cond.fieldLink RX0 50 "MapCarrier$Carrier" "walked" "I", Cond.methodLink RX0 128 yX1_twinOf, Cond.instanceMethod yX1_twinOf, Cond.selects RX1 yX1_twinOf yX1_twinOf, Cond.code yX1_twinOf cX1_twinOf 2 (some .int), Cond.fieldLink RX1 22 "MapCarrier$Land" "twins" "[I", Cond.methodLink RX0 131 yX1_milesAt, Cond.instanceMethod yX1_milesAt, Cond.selects RX1 yX1_milesAt yX1_milesAt, Cond.code yX1_milesAt cX1_milesAt 2 (some .int), Cond.methodLink RX0 87 yX0_doubleBack]
def wsX3_goOn_r6 : List Cond := [Cond.instanceMethod yX0_doubleBack, Cond.selects RX0 yX0_doubleBack yX0_doubleBack, Cond.code yX0_doubleBack cX0_doubleBack 4 none, Cond.fieldLink RX0 137 "MapCarrier$Carrier" "doubled" "I", Cond.methodLink RX0 70 yX0_endErrand, Cond.instanceMethod yX0_endErrand, Cond.selects RX0 yX0_endErrand yX0_endErrand, Cond.code yX0_endErrand cX0_endErrand 1 none, Cond.methodLink RX0 90 yX0_rememberWay, Cond.instanceMethod yX0_rememberWay, Cond.selects RX0 yX0_rememberWay yX0_rememberWay, Cond.code yX0_rememberWay cX0_rememberWay 2 none, Cond.methodLink RX0 140 yX2_confirm, Cond.instanceMethod yX2_confirm, Cond.selects RX2 yX2_confirm yX2_confirm, Cond.code yX2_confirm cX2_confirm 5 none, Cond.methodLink RX2 22 Lib.Math.min.name, Cond.static Lib.Math.min.name, Cond.initialized "java/lang/Math", Cond.code Lib.Math.min.name Lib.Math.min.code 2 (some .int), Cond.methodLink RX2 27 yX2_learn]
def wsX3_goOn : List Cond := .code yX3_goOn cX3_goOn 3 (some .int) :: ((wsX3_goOn_r1 ++ (wsX3_goOn_r2 ++ (wsX3_goOn_r3 ++ (wsX3_goOn_r4 ++ (wsX3_goOn_r5 ++ wsX3_goOn_r6))))) ++ wsX30 ++ wsX00 ++ wsX20 ++ wsX10 ++ (vx_atS RX3 47 "java/lang/IllegalArgumentException" ["java/lang/RuntimeException", "java/lang/Exception"]).filter goodWord ++ (vx_atS RX3 36 "java/lang/IllegalStateException" ["java/lang/RuntimeException", "java/lang/Exception"]).filter goodWord)
def wsX3_giveUp : List Cond := .code yX3_giveUp cX3_giveUp 2 (some .int) :: ([.fieldLink RX3 21 "MapCarrier" "carrier" "LMapCarrier$Carrier;", .methodLink RX3 93 yX3_checkUnderway, .instanceMethod yX3_checkUnderway, .selects RX3 yX3_checkUnderway yX3_checkUnderway, .initialized RX3, .code yX3_checkUnderway cX3_checkUnderway 1 none, .classLink RX3 32 "java/lang/IllegalStateException", .initialized "java/lang/IllegalStateException", .methodLink RX3 96 yX0_isUnderway, .instanceMethod yX0_isUnderway, .selects RX0 yX0_isUnderway yX0_isUnderway, .initialized RX0, .code yX0_isUnderway cX0_isUnderway 1 (some .boolean), .fieldLink RX0 18 "MapCarrier$Carrier" "goal" "I", .methodLink RX3 106 yX0_endErrand, .instanceMethod yX0_endErrand, .selects RX0 yX0_endErrand yX0_endErrand, .code yX0_endErrand cX0_endErrand 1 none, .fieldLink RX0 64 "MapCarrier$Carrier" "wayLength" "I"] ++ wsX30 ++ wsX00 ++ (vx_atS RX3 36 "java/lang/IllegalStateException" ["java/lang/RuntimeException", "java/lang/Exception"]).filter goodWord)
def wsX3_sleep : List Cond := .code yX3_sleep cX3_sleep 2 (some .int) :: ([.fieldLink RX3 21 "MapCarrier" "carrier" "LMapCarrier$Carrier;", .methodLink RX3 48 yX3_checkRange, .instanceMethod yX3_checkRange, .selects RX3 yX3_checkRange yX3_checkRange, .initialized RX3, .code yX3_checkRange cX3_checkRange 3 none, .classLink RX3 43 "java/lang/IllegalArgumentException", .initialized "java/lang/IllegalArgumentException", .methodLink RX3 113 yX2_fade, .instanceMethod yX2_fade, .selects RX2 yX2_fade yX2_fade, .initialized RX2, .code yX2_fade cX2_fade 5 (some .int), .fieldLink RX2 15 "MapCarrier$Memory" "strengths" "[I", .methodLink RX2 31 Lib.Math.max.name, .static Lib.Math.max.name, .initialized "java/lang/Math", .code Lib.Math.max.name Lib.Math.max.code 2 (some .int)] ++ wsX30 ++ wsX00 ++ wsX20 ++ (vx_atS RX3 47 "java/lang/IllegalArgumentException" ["java/lang/RuntimeException", "java/lang/Exception"]).filter goodWord)
def wsX3_places : List Cond := .code yX3_places cX3_places 1 (some .int) :: ([.fieldLink RX3 12 "MapCarrier" "land" "LMapCarrier$Land;"] ++ wsX30 ++ wsX10)
def wsX3_exitsOf : List Cond := .code yX3_exitsOf cX3_exitsOf 2 (some .int) :: ([.fieldLink RX3 12 "MapCarrier" "land" "LMapCarrier$Land;", .methodLink RX3 39 yX3_checkPlace, .instanceMethod yX3_checkPlace, .selects RX3 yX3_checkPlace yX3_checkPlace, .initialized RX3, .code yX3_checkPlace cX3_checkPlace 2 none, .classLink RX3 208 "java/lang/IndexOutOfBoundsException", .initialized "java/lang/IndexOutOfBoundsException", .methodLink RX3 205 yX1_isPlace, .instanceMethod yX1_isPlace, .selects RX1 yX1_isPlace yX1_isPlace, .initialized RX1, .code yX1_isPlace cX1_isPlace 2 (some .boolean), .fieldLink RX1 34 "MapCarrier$Land" "places" "I"] ++ wsX30 ++ wsX10 ++ (vx_atS RX3 212 "java/lang/IndexOutOfBoundsException" ["java/lang/RuntimeException", "java/lang/Exception"]).filter goodWord)
def wsX3_leadsTo_r1 : List Cond := [Cond.fieldLink RX3 12 "MapCarrier" "land" "LMapCarrier$Land;", Cond.methodLink RX3 62 yX3_checkedEnd, Cond.instanceMethod yX3_checkedEnd, Cond.selects RX3 yX3_checkedEnd yX3_checkedEnd, Cond.initialized RX3, Cond.code yX3_checkedEnd cX3_checkedEnd 4 (some .int), Cond.classLink RX3 208 "java/lang/IndexOutOfBoundsException", Cond.initialized "java/lang/IndexOutOfBoundsException", Cond.methodLink RX3 213 yX1_endAt, Cond.instanceMethod yX1_endAt, Cond.selects RX1 yX1_endAt yX1_endAt, Cond.initialized RX1, Cond.code yX1_endAt cX1_endAt 4 (some .int), Cond.fieldLink RX1 9 "MapCarrier$Land" "exits" "[I", Cond.methodLink RX1 38 yX1_isPlace, Cond.instanceMethod yX1_isPlace, Cond.selects RX1 yX1_isPlace yX1_isPlace, Cond.code yX1_isPlace cX1_isPlace 2 (some .boolean), Cond.fieldLink RX1 34 "MapCarrier$Land" "places" "I", Cond.methodLink RX3 123 yX1_beyond, Cond.instanceMethod yX1_beyond, Cond.selects RX1 yX1_beyond yX1_beyond, Cond.code yX1_beyond cX1_beyond 2 (some .int), Cond.fieldLink RX1 19 "MapCarrier$Land" "leads" "[I"]
def wsX3_leadsTo_r2 : List Cond := [Cond.static yX3_isEnd, Cond.code yX3_isEnd cX3_isEnd 1 (some .boolean)]
def wsX3_leadsTo : List Cond := .code yX3_leadsTo cX3_leadsTo 3 (some .int) :: ((wsX3_leadsTo_r1 ++ wsX3_leadsTo_r2) ++ wsX30 ++ wsX10 ++ (vx_atS RX3 212 "java/lang/IndexOutOfBoundsException" ["java/lang/RuntimeException", "java/lang/Exception"]).filter goodWord)
def wsX3_milesOf_r1 : List Cond := [Cond.fieldLink RX3 12 "MapCarrier" "land" "LMapCarrier$Land;", Cond.methodLink RX3 62 yX3_checkedEnd, Cond.instanceMethod yX3_checkedEnd, Cond.selects RX3 yX3_checkedEnd yX3_checkedEnd, Cond.initialized RX3, Cond.code yX3_checkedEnd cX3_checkedEnd 4 (some .int), Cond.classLink RX3 208 "java/lang/IndexOutOfBoundsException", Cond.initialized "java/lang/IndexOutOfBoundsException", Cond.methodLink RX3 213 yX1_endAt, Cond.instanceMethod yX1_endAt, Cond.selects RX1 yX1_endAt yX1_endAt, Cond.initialized RX1, Cond.code yX1_endAt cX1_endAt 4 (some .int), Cond.fieldLink RX1 9 "MapCarrier$Land" "exits" "[I", Cond.methodLink RX1 38 yX1_isPlace, Cond.instanceMethod yX1_isPlace, Cond.selects RX1 yX1_isPlace yX1_isPlace, Cond.code yX1_isPlace cX1_isPlace 2 (some .boolean), Cond.fieldLink RX1 34 "MapCarrier$Land" "places" "I", Cond.methodLink RX3 126 yX1_milesAt, Cond.instanceMethod yX1_milesAt, Cond.selects RX1 yX1_milesAt yX1_milesAt, Cond.code yX1_milesAt cX1_milesAt 2 (some .int), Cond.fieldLink RX1 25 "MapCarrier$Land" "lengths" "[I"]
def wsX3_milesOf_r2 : List Cond := [Cond.static yX3_isEnd, Cond.code yX3_isEnd cX3_isEnd 1 (some .boolean)]
def wsX3_milesOf : List Cond := .code yX3_milesOf cX3_milesOf 3 (some .int) :: ((wsX3_milesOf_r1 ++ wsX3_milesOf_r2) ++ wsX30 ++ wsX10 ++ (vx_atS RX3 212 "java/lang/IndexOutOfBoundsException" ["java/lang/RuntimeException", "java/lang/Exception"]).filter goodWord)
def wsX3_isOpen_r1 : List Cond := [Cond.fieldLink RX3 12 "MapCarrier" "land" "LMapCarrier$Land;", Cond.methodLink RX3 62 yX3_checkedEnd, Cond.instanceMethod yX3_checkedEnd, Cond.selects RX3 yX3_checkedEnd yX3_checkedEnd, Cond.initialized RX3, Cond.code yX3_checkedEnd cX3_checkedEnd 4 (some .int), Cond.classLink RX3 208 "java/lang/IndexOutOfBoundsException", Cond.initialized "java/lang/IndexOutOfBoundsException", Cond.methodLink RX3 213 yX1_endAt, Cond.instanceMethod yX1_endAt, Cond.selects RX1 yX1_endAt yX1_endAt, Cond.initialized RX1, Cond.code yX1_endAt cX1_endAt 4 (some .int), Cond.fieldLink RX1 9 "MapCarrier$Land" "exits" "[I", Cond.methodLink RX1 38 yX1_isPlace, Cond.instanceMethod yX1_isPlace, Cond.selects RX1 yX1_isPlace yX1_isPlace, Cond.code yX1_isPlace cX1_isPlace 2 (some .boolean), Cond.fieldLink RX1 34 "MapCarrier$Land" "places" "I", Cond.methodLink RX3 129 yX1_opensAt, Cond.instanceMethod yX1_opensAt, Cond.selects RX1 yX1_opensAt yX1_opensAt, Cond.code yX1_opensAt cX1_opensAt 2 (some .boolean), Cond.fieldLink RX1 28 "MapCarrier$Land" "open" "[Z"]
def wsX3_isOpen_r2 : List Cond := [Cond.static yX3_isEnd, Cond.code yX3_isEnd cX3_isEnd 1 (some .boolean)]
def wsX3_isOpen : List Cond := .code yX3_isOpen cX3_isOpen 3 (some .boolean) :: ((wsX3_isOpen_r1 ++ wsX3_isOpen_r2) ++ wsX30 ++ wsX10 ++ (vx_atS RX3 212 "java/lang/IndexOutOfBoundsException" ["java/lang/RuntimeException", "java/lang/Exception"]).filter goodWord)
def wsX3_hasShepherd : List Cond := .code yX3_hasShepherd cX3_hasShepherd 2 (some .boolean) :: ([.fieldLink RX3 12 "MapCarrier" "land" "LMapCarrier$Land;", .methodLink RX3 39 yX3_checkPlace, .instanceMethod yX3_checkPlace, .selects RX3 yX3_checkPlace yX3_checkPlace, .initialized RX3, .code yX3_checkPlace cX3_checkPlace 2 none, .classLink RX3 208 "java/lang/IndexOutOfBoundsException", .initialized "java/lang/IndexOutOfBoundsException", .methodLink RX3 205 yX1_isPlace, .instanceMethod yX1_isPlace, .selects RX1 yX1_isPlace yX1_isPlace, .initialized RX1, .code yX1_isPlace cX1_isPlace 2 (some .boolean), .fieldLink RX1 34 "MapCarrier$Land" "places" "I"] ++ wsX30 ++ wsX10 ++ (vx_atS RX3 212 "java/lang/IndexOutOfBoundsException" ["java/lang/RuntimeException", "java/lang/Exception"]).filter goodWord)
def wsX3_distance_r1 : List Cond := [Cond.fieldLink RX3 12 "MapCarrier" "land" "LMapCarrier$Land;", Cond.methodLink RX3 39 yX3_checkPlace, Cond.instanceMethod yX3_checkPlace, Cond.selects RX3 yX3_checkPlace yX3_checkPlace, Cond.initialized RX3, Cond.code yX3_checkPlace cX3_checkPlace 2 none, Cond.classLink RX3 208 "java/lang/IndexOutOfBoundsException", Cond.initialized "java/lang/IndexOutOfBoundsException", Cond.methodLink RX3 205 yX1_isPlace, Cond.instanceMethod yX1_isPlace, Cond.selects RX1 yX1_isPlace yX1_isPlace, Cond.initialized RX1, Cond.code yX1_isPlace cX1_isPlace 2 (some .boolean), Cond.fieldLink RX1 34 "MapCarrier$Land" "places" "I", Cond.methodLink RX3 87 yX1_shortest, Cond.instanceMethod yX1_shortest, Cond.selects RX1 yX1_shortest yX1_shortest, Cond.code yX1_shortest cX1_shortest 3 (some .int), Cond.fieldLink RX1 31 "MapCarrier$Land" "far" "[I", Cond.constant RX1 63 (1000000), Cond.methodLink RX1 59 yX1_measure, Cond.instanceMethod yX1_measure, Cond.selects RX1 yX1_measure yX1_measure, Cond.code yX1_measure cX1_measure 6 none]
def wsX3_distance_r2 : List Cond := [Cond.methodLink RX1 67 yJ7_fill_53178, Cond.static yJ7_fill_53178, Cond.initialized RJ7, Cond.code yJ7_fill_53178 cJ7_fill_53178 4 none, Cond.methodLink RX1 38 yX1_isPlace, Cond.methodLink RX1 64 yX1_milesBy, Cond.instanceMethod yX1_milesBy, Cond.selects RX1 yX1_milesBy yX1_milesBy, Cond.code yX1_milesBy cX1_milesBy 3 (some .int), Cond.fieldLink RX1 28 "MapCarrier$Land" "open" "[Z", Cond.fieldLink RX1 19 "MapCarrier$Land" "leads" "[I", Cond.fieldLink RX1 25 "MapCarrier$Land" "lengths" "[I", Cond.static yX3_placeOfEnd, Cond.code yX3_placeOfEnd cX3_placeOfEnd 1 (some .int)]
def wsX3_distance : List Cond := .code yX3_distance cX3_distance 3 (some .int) :: ((wsX3_distance_r1 ++ wsX3_distance_r2) ++ wsX30 ++ wsX10 ++ (vx_atS RX3 212 "java/lang/IndexOutOfBoundsException" ["java/lang/RuntimeException", "java/lang/Exception"]).filter goodWord)
def wsX3_whereIs : List Cond := .code yX3_whereIs cX3_whereIs 1 (some .int) :: ([.fieldLink RX3 12 "MapCarrier" "land" "LMapCarrier$Land;", .fieldLink RX3 21 "MapCarrier" "carrier" "LMapCarrier$Carrier;"] ++ wsX30 ++ wsX10 ++ wsX00)
def wsX3_coins : List Cond := .code yX3_coins cX3_coins 1 (some .int) :: ([.fieldLink RX3 21 "MapCarrier" "carrier" "LMapCarrier$Carrier;"] ++ wsX30 ++ wsX00)
def wsX3_goal : List Cond := .code yX3_goal cX3_goal 1 (some .int) :: ([.fieldLink RX3 21 "MapCarrier" "carrier" "LMapCarrier$Carrier;"] ++ wsX30 ++ wsX00)
def wsX3_wayLength : List Cond := .code yX3_wayLength cX3_wayLength 1 (some .int) :: ([.fieldLink RX3 21 "MapCarrier" "carrier" "LMapCarrier$Carrier;"] ++ wsX30 ++ wsX00)
def wsX3_isTried_r1 : List Cond := [Cond.fieldLink RX3 21 "MapCarrier" "carrier" "LMapCarrier$Carrier;", Cond.methodLink RX3 62 yX3_checkedEnd, Cond.instanceMethod yX3_checkedEnd, Cond.selects RX3 yX3_checkedEnd yX3_checkedEnd, Cond.initialized RX3, Cond.code yX3_checkedEnd cX3_checkedEnd 4 (some .int), Cond.classLink RX3 208 "java/lang/IndexOutOfBoundsException", Cond.initialized "java/lang/IndexOutOfBoundsException", Cond.fieldLink RX3 12 "MapCarrier" "land" "LMapCarrier$Land;", Cond.methodLink RX3 213 yX1_endAt, Cond.instanceMethod yX1_endAt, Cond.selects RX1 yX1_endAt yX1_endAt, Cond.initialized RX1, Cond.code yX1_endAt cX1_endAt 4 (some .int), Cond.fieldLink RX1 9 "MapCarrier$Land" "exits" "[I", Cond.methodLink RX1 38 yX1_isPlace, Cond.instanceMethod yX1_isPlace, Cond.selects RX1 yX1_isPlace yX1_isPlace, Cond.code yX1_isPlace cX1_isPlace 2 (some .boolean), Cond.fieldLink RX1 34 "MapCarrier$Land" "places" "I", Cond.methodLink RX3 96 yX0_isUnderway, Cond.instanceMethod yX0_isUnderway, Cond.selects RX0 yX0_isUnderway yX0_isUnderway, Cond.initialized RX0]
def wsX3_isTried_r2 : List Cond := [Cond.code yX0_isUnderway cX0_isUnderway 1 (some .boolean), Cond.fieldLink RX0 18 "MapCarrier$Carrier" "goal" "I", Cond.methodLink RX3 135 yX0_hasTried, Cond.instanceMethod yX0_hasTried, Cond.selects RX0 yX0_hasTried yX0_hasTried, Cond.code yX0_hasTried cX0_hasTried 2 (some .boolean), Cond.fieldLink RX0 26 "MapCarrier$Carrier" "tried" "[Z", Cond.static yX3_isEnd, Cond.code yX3_isEnd cX3_isEnd 1 (some .boolean)]
def wsX3_isTried : List Cond := .code yX3_isTried cX3_isTried 4 (some .boolean) :: ((wsX3_isTried_r1 ++ wsX3_isTried_r2) ++ wsX30 ++ wsX10 ++ wsX00 ++ (vx_atS RX3 212 "java/lang/IndexOutOfBoundsException" ["java/lang/RuntimeException", "java/lang/Exception"]).filter goodWord)
def wsX3_remembered_r1 : List Cond := [Cond.fieldLink RX3 21 "MapCarrier" "carrier" "LMapCarrier$Carrier;", Cond.methodLink RX3 39 yX3_checkPlace, Cond.instanceMethod yX3_checkPlace, Cond.selects RX3 yX3_checkPlace yX3_checkPlace, Cond.initialized RX3, Cond.code yX3_checkPlace cX3_checkPlace 2 none, Cond.classLink RX3 208 "java/lang/IndexOutOfBoundsException", Cond.initialized "java/lang/IndexOutOfBoundsException", Cond.fieldLink RX3 12 "MapCarrier" "land" "LMapCarrier$Land;", Cond.methodLink RX3 205 yX1_isPlace, Cond.instanceMethod yX1_isPlace, Cond.selects RX1 yX1_isPlace yX1_isPlace, Cond.initialized RX1, Cond.code yX1_isPlace cX1_isPlace 2 (some .boolean), Cond.fieldLink RX1 34 "MapCarrier$Land" "places" "I", Cond.methodLink RX3 138 yX2_exitFor, Cond.instanceMethod yX2_exitFor, Cond.selects RX2 yX2_exitFor yX2_exitFor, Cond.initialized RX2, Cond.code yX2_exitFor cX2_exitFor 4 (some .int), Cond.fieldLink RX2 15 "MapCarrier$Memory" "strengths" "[I", Cond.fieldLink RX2 9 "MapCarrier$Memory" "exits" "[I", Cond.methodLink RX2 18 yX2_spotOf, Cond.static yX2_spotOf]
def wsX3_remembered_r2 : List Cond := [Cond.code yX2_spotOf cX2_spotOf 3 (some .int)]
def wsX3_remembered : List Cond := .code yX3_remembered cX3_remembered 3 (some .int) :: ((wsX3_remembered_r1 ++ wsX3_remembered_r2) ++ wsX30 ++ wsX00 ++ wsX10 ++ wsX20 ++ (vx_atS RX3 212 "java/lang/IndexOutOfBoundsException" ["java/lang/RuntimeException", "java/lang/Exception"]).filter goodWord)
def wsX3_strength : List Cond := .code yX3_strength cX3_strength 3 (some .int) :: ([.fieldLink RX3 21 "MapCarrier" "carrier" "LMapCarrier$Carrier;", .methodLink RX3 39 yX3_checkPlace, .instanceMethod yX3_checkPlace, .selects RX3 yX3_checkPlace yX3_checkPlace, .initialized RX3, .code yX3_checkPlace cX3_checkPlace 2 none, .classLink RX3 208 "java/lang/IndexOutOfBoundsException", .initialized "java/lang/IndexOutOfBoundsException", .fieldLink RX3 12 "MapCarrier" "land" "LMapCarrier$Land;", .methodLink RX3 205 yX1_isPlace, .instanceMethod yX1_isPlace, .selects RX1 yX1_isPlace yX1_isPlace, .initialized RX1, .code yX1_isPlace cX1_isPlace 2 (some .boolean), .fieldLink RX1 34 "MapCarrier$Land" "places" "I", .methodLink RX3 141 yX2_strengthFor, .instanceMethod yX2_strengthFor, .selects RX2 yX2_strengthFor yX2_strengthFor, .initialized RX2, .code yX2_strengthFor cX2_strengthFor 4 (some .int), .fieldLink RX2 15 "MapCarrier$Memory" "strengths" "[I", .methodLink RX2 18 yX2_spotOf, .static yX2_spotOf, .code yX2_spotOf cX2_spotOf 3 (some .int)] ++ wsX30 ++ wsX00 ++ wsX10 ++ wsX20 ++ (vx_atS RX3 212 "java/lang/IndexOutOfBoundsException" ["java/lang/RuntimeException", "java/lang/Exception"]).filter goodWord)
def wsX3_knowsWay_r1 : List Cond := [Cond.fieldLink RX3 21 "MapCarrier" "carrier" "LMapCarrier$Carrier;", Cond.methodLink RX3 39 yX3_checkPlace, Cond.instanceMethod yX3_checkPlace, Cond.selects RX3 yX3_checkPlace yX3_checkPlace, Cond.initialized RX3, Cond.code yX3_checkPlace cX3_checkPlace 2 none, Cond.classLink RX3 208 "java/lang/IndexOutOfBoundsException", Cond.initialized "java/lang/IndexOutOfBoundsException", Cond.fieldLink RX3 12 "MapCarrier" "land" "LMapCarrier$Land;", Cond.methodLink RX3 205 yX1_isPlace, Cond.instanceMethod yX1_isPlace, Cond.selects RX1 yX1_isPlace yX1_isPlace, Cond.initialized RX1, Cond.code yX1_isPlace cX1_isPlace 2 (some .boolean), Cond.fieldLink RX1 34 "MapCarrier$Land" "places" "I", Cond.methodLink RX3 144 yX0_findsByMemory, Cond.instanceMethod yX0_findsByMemory, Cond.selects RX0 yX0_findsByMemory yX0_findsByMemory, Cond.initialized RX0, Cond.code yX0_findsByMemory cX0_findsByMemory 5 (some .boolean), Cond.fieldLink RX0 40 "MapCarrier$Carrier" "at" "I", Cond.fieldLink RX0 36 "MapCarrier$Carrier" "land" "LMapCarrier$Land;", Cond.fieldLink RX0 12 "MapCarrier$Carrier" "memory" "LMapCarrier$Memory;", Cond.methodLink RX0 98 yX2_exitFor]
def wsX3_knowsWay_r2 : List Cond := [Cond.instanceMethod yX2_exitFor, Cond.selects RX2 yX2_exitFor yX2_exitFor, Cond.initialized RX2, Cond.code yX2_exitFor cX2_exitFor 4 (some .int), Cond.fieldLink RX2 15 "MapCarrier$Memory" "strengths" "[I", Cond.fieldLink RX2 9 "MapCarrier$Memory" "exits" "[I", Cond.methodLink RX2 18 yX2_spotOf, Cond.static yX2_spotOf, Cond.code yX2_spotOf cX2_spotOf 3 (some .int), Cond.methodLink RX0 102 yX1_endAt, Cond.instanceMethod yX1_endAt, Cond.selects RX1 yX1_endAt yX1_endAt, Cond.code yX1_endAt cX1_endAt 4 (some .int), Cond.fieldLink RX1 9 "MapCarrier$Land" "exits" "[I", Cond.methodLink RX1 38 yX1_isPlace, Cond.methodLink RX0 143 yX1_opensAt, Cond.instanceMethod yX1_opensAt, Cond.selects RX1 yX1_opensAt yX1_opensAt, Cond.code yX1_opensAt cX1_opensAt 2 (some .boolean), Cond.fieldLink RX1 28 "MapCarrier$Land" "open" "[Z", Cond.static yX3_isEnd, Cond.code yX3_isEnd cX3_isEnd 1 (some .boolean), Cond.methodLink RX0 146 yX1_beyond, Cond.instanceMethod yX1_beyond]
def wsX3_knowsWay_r3 : List Cond := [Cond.selects RX1 yX1_beyond yX1_beyond, Cond.code yX1_beyond cX1_beyond 2 (some .int), Cond.fieldLink RX1 19 "MapCarrier$Land" "leads" "[I"]
def wsX3_knowsWay : List Cond := .code yX3_knowsWay cX3_knowsWay 2 (some .boolean) :: ((wsX3_knowsWay_r1 ++ (wsX3_knowsWay_r2 ++ wsX3_knowsWay_r3)) ++ wsX30 ++ wsX10 ++ wsX00 ++ wsX20 ++ (vx_atS RX3 212 "java/lang/IndexOutOfBoundsException" ["java/lang/RuntimeException", "java/lang/Exception"]).filter goodWord)
def wsX3_milesWalked : List Cond := .code yX3_milesWalked cX3_milesWalked 1 (some .int) :: ([.fieldLink RX3 21 "MapCarrier" "carrier" "LMapCarrier$Carrier;"] ++ wsX30 ++ wsX00)
def wsX3_milesDoubled : List Cond := .code yX3_milesDoubled cX3_milesDoubled 1 (some .int) :: ([.fieldLink RX3 21 "MapCarrier" "carrier" "LMapCarrier$Carrier;"] ++ wsX30 ++ wsX00)
def wsX3_errandsDone : List Cond := .code yX3_errandsDone cX3_errandsDone 1 (some .int) :: ([.fieldLink RX3 21 "MapCarrier" "carrier" "LMapCarrier$Carrier;"] ++ wsX30 ++ wsX00)
def wsX3_errandsInVain : List Cond := .code yX3_errandsInVain cX3_errandsInVain 1 (some .int) :: ([.fieldLink RX3 21 "MapCarrier" "carrier" "LMapCarrier$Carrier;"] ++ wsX30 ++ wsX00)
def wsX3_asked : List Cond := .code yX3_asked cX3_asked 1 (some .int) :: ([.fieldLink RX3 21 "MapCarrier" "carrier" "LMapCarrier$Carrier;"] ++ wsX30 ++ wsX00)
def wsX3_trialMiles_r1 : List Cond := [Cond.fieldLink RX3 25 "MapCarrier" "trial" "LMapCarrier$Carrier;", Cond.fieldLink RX3 21 "MapCarrier" "carrier" "LMapCarrier$Carrier;", Cond.methodLink RX3 224 yX0_startLike, Cond.instanceMethod yX0_startLike, Cond.selects RX0 yX0_startLike yX0_startLike, Cond.initialized RX0, Cond.code yX0_startLike cX0_startLike 3 none, Cond.fieldLink RX0 40 "MapCarrier$Carrier" "at" "I", Cond.fieldLink RX0 43 "MapCarrier$Carrier" "coins" "I", Cond.fieldLink RX0 12 "MapCarrier$Carrier" "memory" "LMapCarrier$Memory;", Cond.fieldLink RX0 33 "MapCarrier$Carrier" "guest" "I", Cond.fieldLink RX0 50 "MapCarrier$Carrier" "walked" "I", Cond.fieldLink RX0 53 "MapCarrier$Carrier" "inVain" "I", Cond.methodLink RX0 46 yX2_copyFrom, Cond.instanceMethod yX2_copyFrom, Cond.selects RX2 yX2_copyFrom yX2_copyFrom, Cond.initialized RX2, Cond.code yX2_copyFrom cX2_copyFrom 2 none, Cond.fieldLink RX2 9 "MapCarrier$Memory" "exits" "[I", Cond.methodLink RX2 34 arraycopyName, Cond.native arraycopyName, Cond.static arraycopyName, Cond.initialized "java/lang/System", Cond.fieldLink RX2 15 "MapCarrier$Memory" "strengths" "[I"]
def wsX3_trialMiles_r2 : List Cond := [Cond.methodLink RX3 90 yX0_begin, Cond.instanceMethod yX0_begin, Cond.selects RX0 yX0_begin yX0_begin, Cond.code yX0_begin cX0_begin 2 none, Cond.fieldLink RX0 26 "MapCarrier$Carrier" "tried" "[Z", Cond.fieldLink RX0 30 "MapCarrier$Carrier" "askedAt" "[Z", Cond.fieldLink RX0 64 "MapCarrier$Carrier" "wayLength" "I", Cond.fieldLink RX0 18 "MapCarrier$Carrier" "goal" "I", Cond.fieldLink RX0 67 "MapCarrier$Carrier" "done" "I", Cond.methodLink RX0 60 yX0_forget, Cond.static yX0_forget, Cond.code yX0_forget cX0_forget 2 none, Cond.methodLink RX0 70 yX0_endErrand, Cond.instanceMethod yX0_endErrand, Cond.selects RX0 yX0_endErrand yX0_endErrand, Cond.code yX0_endErrand cX0_endErrand 1 none, Cond.methodLink RX3 96 yX0_isUnderway, Cond.instanceMethod yX0_isUnderway, Cond.selects RX0 yX0_isUnderway yX0_isUnderway, Cond.code yX0_isUnderway cX0_isUnderway 1 (some .boolean), Cond.methodLink RX3 100 yX0_step, Cond.instanceMethod yX0_step, Cond.selects RX0 yX0_step yX0_step, Cond.code yX0_step cX0_step 2 (some .boolean)]
def wsX3_trialMiles_r3 : List Cond := [Cond.methodLink RX0 73 yX0_rememberedEnd, Cond.instanceMethod yX0_rememberedEnd, Cond.selects RX0 yX0_rememberedEnd yX0_rememberedEnd, Cond.code yX0_rememberedEnd cX0_rememberedEnd 2 (some .int), Cond.fieldLink RX0 36 "MapCarrier$Carrier" "land" "LMapCarrier$Land;", Cond.methodLink RX0 98 yX2_exitFor, Cond.instanceMethod yX2_exitFor, Cond.selects RX2 yX2_exitFor yX2_exitFor, Cond.code yX2_exitFor cX2_exitFor 4 (some .int), Cond.methodLink RX2 18 yX2_spotOf, Cond.static yX2_spotOf, Cond.code yX2_spotOf cX2_spotOf 3 (some .int), Cond.methodLink RX0 102 yX1_endAt, Cond.instanceMethod yX1_endAt, Cond.selects RX1 yX1_endAt yX1_endAt, Cond.initialized RX1, Cond.code yX1_endAt cX1_endAt 4 (some .int), Cond.fieldLink RX1 9 "MapCarrier$Land" "exits" "[I", Cond.methodLink RX1 38 yX1_isPlace, Cond.instanceMethod yX1_isPlace, Cond.selects RX1 yX1_isPlace yX1_isPlace, Cond.code yX1_isPlace cX1_isPlace 2 (some .boolean), Cond.fieldLink RX1 34 "MapCarrier$Land" "places" "I", Cond.methodLink RX0 105 yX0_canTake]
def wsX3_trialMiles_r4 : List Cond := [Cond.instanceMethod yX0_canTake, Cond.selects RX0 yX0_canTake yX0_canTake, Cond.code yX0_canTake cX0_canTake 2 (some .boolean), Cond.static yX3_isEnd, Cond.initialized RX3, Cond.code yX3_isEnd cX3_isEnd 1 (some .boolean), Cond.methodLink RX0 77 yX0_askedEnd, Cond.instanceMethod yX0_askedEnd, Cond.selects RX0 yX0_askedEnd yX0_askedEnd, Cond.code yX0_askedEnd cX0_askedEnd 3 (some .int), Cond.fieldLink RX0 114 "MapCarrier$Carrier" "questions" "I", Cond.methodLink RX0 108 yX1_isPlace, Cond.methodLink RX0 117 yX1_endTowards, Cond.instanceMethod yX1_endTowards, Cond.selects RX1 yX1_endTowards yX1_endTowards, Cond.code yX1_endTowards cX1_endTowards 5 (some .int), Cond.fieldLink RX1 31 "MapCarrier$Land" "far" "[I", Cond.constant RX1 63 (1000000), Cond.methodLink RX1 59 yX1_measure, Cond.instanceMethod yX1_measure, Cond.selects RX1 yX1_measure yX1_measure, Cond.code yX1_measure cX1_measure 6 none, Cond.methodLink RX1 67 yJ7_fill_53178, Cond.static yJ7_fill_53178]
def wsX3_trialMiles_r5 : List Cond := [Cond.initialized RJ7, Cond.code yJ7_fill_53178 cJ7_fill_53178 4 none, Cond.methodLink RX1 64 yX1_milesBy, Cond.instanceMethod yX1_milesBy, Cond.selects RX1 yX1_milesBy yX1_milesBy, Cond.code yX1_milesBy cX1_milesBy 3 (some .int), Cond.fieldLink RX1 28 "MapCarrier$Land" "open" "[Z", Cond.fieldLink RX1 19 "MapCarrier$Land" "leads" "[I", Cond.fieldLink RX1 25 "MapCarrier$Land" "lengths" "[I", Cond.static yX3_placeOfEnd, Cond.code yX3_placeOfEnd cX3_placeOfEnd 1 (some .int), Cond.static yX3_exitOfEnd, Cond.code yX3_exitOfEnd cX3_exitOfEnd 1 (some .int), Cond.methodLink RX0 124 yX2_learn, Cond.instanceMethod yX2_learn, Cond.selects RX2 yX2_learn yX2_learn, Cond.code yX2_learn cX2_learn 5 none, Cond.methodLink RX0 80 yX0_firstUntried, Cond.instanceMethod yX0_firstUntried, Cond.selects RX0 yX0_firstUntried yX0_firstUntried, Cond.code yX0_firstUntried cX0_firstUntried 3 (some .int), Cond.methodLink RX0 83 yX0_take, Cond.instanceMethod yX0_take, Cond.selects RX0 yX0_take yX0_take]
def wsX3_trialMiles_r6 : List Cond := [Cond.code yX0_take cX0_take 3 none, Cond.fieldLink RX0 22 "MapCarrier$Carrier" "way" "[I", Cond.methodLink RX0 128 yX1_twinOf, Cond.instanceMethod yX1_twinOf, Cond.selects RX1 yX1_twinOf yX1_twinOf, Cond.code yX1_twinOf cX1_twinOf 2 (some .int), Cond.fieldLink RX1 22 "MapCarrier$Land" "twins" "[I", Cond.methodLink RX0 131 yX1_milesAt, Cond.instanceMethod yX1_milesAt, Cond.selects RX1 yX1_milesAt yX1_milesAt, Cond.code yX1_milesAt cX1_milesAt 2 (some .int), Cond.methodLink RX0 87 yX0_doubleBack, Cond.instanceMethod yX0_doubleBack, Cond.selects RX0 yX0_doubleBack yX0_doubleBack, Cond.code yX0_doubleBack cX0_doubleBack 4 none, Cond.fieldLink RX0 137 "MapCarrier$Carrier" "doubled" "I", Cond.methodLink RX0 90 yX0_rememberWay, Cond.instanceMethod yX0_rememberWay, Cond.selects RX0 yX0_rememberWay yX0_rememberWay, Cond.code yX0_rememberWay cX0_rememberWay 2 none, Cond.methodLink RX0 140 yX2_confirm, Cond.instanceMethod yX2_confirm, Cond.selects RX2 yX2_confirm yX2_confirm, Cond.code yX2_confirm cX2_confirm 5 none]
def wsX3_trialMiles_r7 : List Cond := [Cond.methodLink RX2 22 Lib.Math.min.name, Cond.static Lib.Math.min.name, Cond.initialized "java/lang/Math", Cond.code Lib.Math.min.name Lib.Math.min.code 2 (some .int), Cond.methodLink RX2 27 yX2_learn]
def wsX3_trialMiles : List Cond := .code yX3_trialMiles cX3_trialMiles 4 (some .int) :: ((wsX3_trialMiles_r1 ++ (wsX3_trialMiles_r2 ++ (wsX3_trialMiles_r3 ++ (wsX3_trialMiles_r4 ++ (wsX3_trialMiles_r5 ++ (wsX3_trialMiles_r6 ++ wsX3_trialMiles_r7)))))) ++ wsX30 ++ wsX00 ++ wsX20 ++ wsX10)
def wsX3_wouldWalk_r1 : List Cond := [Cond.methodLink RX3 39 yX3_checkPlace, Cond.instanceMethod yX3_checkPlace, Cond.selects RX3 yX3_checkPlace yX3_checkPlace, Cond.initialized RX3, Cond.code yX3_checkPlace cX3_checkPlace 2 none, Cond.classLink RX3 208 "java/lang/IndexOutOfBoundsException", Cond.initialized "java/lang/IndexOutOfBoundsException", Cond.fieldLink RX3 12 "MapCarrier" "land" "LMapCarrier$Land;", Cond.methodLink RX3 205 yX1_isPlace, Cond.instanceMethod yX1_isPlace, Cond.selects RX1 yX1_isPlace yX1_isPlace, Cond.initialized RX1, Cond.code yX1_isPlace cX1_isPlace 2 (some .boolean), Cond.fieldLink RX1 34 "MapCarrier$Land" "places" "I", Cond.methodLink RX3 81 yX3_checkIdle, Cond.instanceMethod yX3_checkIdle, Cond.selects RX3 yX3_checkIdle yX3_checkIdle, Cond.code yX3_checkIdle cX3_checkIdle 1 none, Cond.classLink RX3 32 "java/lang/IllegalStateException", Cond.initialized "java/lang/IllegalStateException", Cond.fieldLink RX3 21 "MapCarrier" "carrier" "LMapCarrier$Carrier;", Cond.methodLink RX3 96 yX0_isUnderway, Cond.instanceMethod yX0_isUnderway, Cond.selects RX0 yX0_isUnderway yX0_isUnderway]
def wsX3_wouldWalk_r2 : List Cond := [Cond.initialized RX0, Cond.code yX0_isUnderway cX0_isUnderway 1 (some .boolean), Cond.fieldLink RX0 18 "MapCarrier$Carrier" "goal" "I", Cond.methodLink RX3 162 yX3_trialMiles, Cond.instanceMethod yX3_trialMiles, Cond.selects RX3 yX3_trialMiles yX3_trialMiles, Cond.code yX3_trialMiles cX3_trialMiles 4 (some .int), Cond.fieldLink RX3 25 "MapCarrier" "trial" "LMapCarrier$Carrier;", Cond.methodLink RX3 224 yX0_startLike, Cond.instanceMethod yX0_startLike, Cond.selects RX0 yX0_startLike yX0_startLike, Cond.code yX0_startLike cX0_startLike 3 none, Cond.fieldLink RX0 40 "MapCarrier$Carrier" "at" "I", Cond.fieldLink RX0 43 "MapCarrier$Carrier" "coins" "I", Cond.fieldLink RX0 12 "MapCarrier$Carrier" "memory" "LMapCarrier$Memory;", Cond.fieldLink RX0 33 "MapCarrier$Carrier" "guest" "I", Cond.fieldLink RX0 50 "MapCarrier$Carrier" "walked" "I", Cond.fieldLink RX0 53 "MapCarrier$Carrier" "inVain" "I", Cond.methodLink RX0 46 yX2_copyFrom, Cond.instanceMethod yX2_copyFrom, Cond.selects RX2 yX2_copyFrom yX2_copyFrom, Cond.initialized RX2, Cond.code yX2_copyFrom cX2_copyFrom 2 none, Cond.fieldLink RX2 9 "MapCarrier$Memory" "exits" "[I"]
def wsX3_wouldWalk_r3 : List Cond := [Cond.methodLink RX2 34 arraycopyName, Cond.native arraycopyName, Cond.static arraycopyName, Cond.initialized "java/lang/System", Cond.fieldLink RX2 15 "MapCarrier$Memory" "strengths" "[I", Cond.methodLink RX3 90 yX0_begin, Cond.instanceMethod yX0_begin, Cond.selects RX0 yX0_begin yX0_begin, Cond.code yX0_begin cX0_begin 2 none, Cond.fieldLink RX0 26 "MapCarrier$Carrier" "tried" "[Z", Cond.fieldLink RX0 30 "MapCarrier$Carrier" "askedAt" "[Z", Cond.fieldLink RX0 64 "MapCarrier$Carrier" "wayLength" "I", Cond.fieldLink RX0 67 "MapCarrier$Carrier" "done" "I", Cond.methodLink RX0 60 yX0_forget, Cond.static yX0_forget, Cond.code yX0_forget cX0_forget 2 none, Cond.methodLink RX0 70 yX0_endErrand, Cond.instanceMethod yX0_endErrand, Cond.selects RX0 yX0_endErrand yX0_endErrand, Cond.code yX0_endErrand cX0_endErrand 1 none, Cond.methodLink RX3 100 yX0_step, Cond.instanceMethod yX0_step, Cond.selects RX0 yX0_step yX0_step, Cond.code yX0_step cX0_step 2 (some .boolean)]
def wsX3_wouldWalk_r4 : List Cond := [Cond.methodLink RX0 73 yX0_rememberedEnd, Cond.instanceMethod yX0_rememberedEnd, Cond.selects RX0 yX0_rememberedEnd yX0_rememberedEnd, Cond.code yX0_rememberedEnd cX0_rememberedEnd 2 (some .int), Cond.fieldLink RX0 36 "MapCarrier$Carrier" "land" "LMapCarrier$Land;", Cond.methodLink RX0 98 yX2_exitFor, Cond.instanceMethod yX2_exitFor, Cond.selects RX2 yX2_exitFor yX2_exitFor, Cond.code yX2_exitFor cX2_exitFor 4 (some .int), Cond.methodLink RX2 18 yX2_spotOf, Cond.static yX2_spotOf, Cond.code yX2_spotOf cX2_spotOf 3 (some .int), Cond.methodLink RX0 102 yX1_endAt, Cond.instanceMethod yX1_endAt, Cond.selects RX1 yX1_endAt yX1_endAt, Cond.code yX1_endAt cX1_endAt 4 (some .int), Cond.fieldLink RX1 9 "MapCarrier$Land" "exits" "[I", Cond.methodLink RX1 38 yX1_isPlace, Cond.methodLink RX0 105 yX0_canTake, Cond.instanceMethod yX0_canTake, Cond.selects RX0 yX0_canTake yX0_canTake, Cond.code yX0_canTake cX0_canTake 2 (some .boolean), Cond.static yX3_isEnd, Cond.code yX3_isEnd cX3_isEnd 1 (some .boolean)]
def wsX3_wouldWalk_r5 : List Cond := [Cond.methodLink RX0 77 yX0_askedEnd, Cond.instanceMethod yX0_askedEnd, Cond.selects RX0 yX0_askedEnd yX0_askedEnd, Cond.code yX0_askedEnd cX0_askedEnd 3 (some .int), Cond.fieldLink RX0 114 "MapCarrier$Carrier" "questions" "I", Cond.methodLink RX0 108 yX1_isPlace, Cond.methodLink RX0 117 yX1_endTowards, Cond.instanceMethod yX1_endTowards, Cond.selects RX1 yX1_endTowards yX1_endTowards, Cond.code yX1_endTowards cX1_endTowards 5 (some .int), Cond.fieldLink RX1 31 "MapCarrier$Land" "far" "[I", Cond.constant RX1 63 (1000000), Cond.methodLink RX1 59 yX1_measure, Cond.instanceMethod yX1_measure, Cond.selects RX1 yX1_measure yX1_measure, Cond.code yX1_measure cX1_measure 6 none, Cond.methodLink RX1 67 yJ7_fill_53178, Cond.static yJ7_fill_53178, Cond.initialized RJ7, Cond.code yJ7_fill_53178 cJ7_fill_53178 4 none, Cond.methodLink RX1 64 yX1_milesBy, Cond.instanceMethod yX1_milesBy, Cond.selects RX1 yX1_milesBy yX1_milesBy, Cond.code yX1_milesBy cX1_milesBy 3 (some .int)]
def wsX3_wouldWalk_r6 : List Cond := [Cond.fieldLink RX1 28 "MapCarrier$Land" "open" "[Z", Cond.fieldLink RX1 19 "MapCarrier$Land" "leads" "[I", Cond.fieldLink RX1 25 "MapCarrier$Land" "lengths" "[I", Cond.static yX3_placeOfEnd, Cond.code yX3_placeOfEnd cX3_placeOfEnd 1 (some .int), Cond.static yX3_exitOfEnd, Cond.code yX3_exitOfEnd cX3_exitOfEnd 1 (some .int), Cond.methodLink RX0 124 yX2_learn, Cond.instanceMethod yX2_learn, Cond.selects RX2 yX2_learn yX2_learn, Cond.code yX2_learn cX2_learn 5 none, Cond.methodLink RX0 80 yX0_firstUntried, Cond.instanceMethod yX0_firstUntried, Cond.selects RX0 yX0_firstUntried yX0_firstUntried, Cond.code yX0_firstUntried cX0_firstUntried 3 (some .int), Cond.methodLink RX0 83 yX0_take, Cond.instanceMethod yX0_take, Cond.selects RX0 yX0_take yX0_take, Cond.code yX0_take cX0_take 3 none, Cond.fieldLink RX0 22 "MapCarrier$Carrier" "way" "[I", Cond.methodLink RX0 128 yX1_twinOf, Cond.instanceMethod yX1_twinOf, Cond.selects RX1 yX1_twinOf yX1_twinOf, Cond.code yX1_twinOf cX1_twinOf 2 (some .int)]
def wsX3_wouldWalk_r7 : List Cond := [Cond.fieldLink RX1 22 "MapCarrier$Land" "twins" "[I", Cond.methodLink RX0 131 yX1_milesAt, Cond.instanceMethod yX1_milesAt, Cond.selects RX1 yX1_milesAt yX1_milesAt, Cond.code yX1_milesAt cX1_milesAt 2 (some .int), Cond.methodLink RX0 87 yX0_doubleBack, Cond.instanceMethod yX0_doubleBack, Cond.selects RX0 yX0_doubleBack yX0_doubleBack, Cond.code yX0_doubleBack cX0_doubleBack 4 none, Cond.fieldLink RX0 137 "MapCarrier$Carrier" "doubled" "I", Cond.methodLink RX0 90 yX0_rememberWay, Cond.instanceMethod yX0_rememberWay, Cond.selects RX0 yX0_rememberWay yX0_rememberWay, Cond.code yX0_rememberWay cX0_rememberWay 2 none, Cond.methodLink RX0 140 yX2_confirm, Cond.instanceMethod yX2_confirm, Cond.selects RX2 yX2_confirm yX2_confirm, Cond.code yX2_confirm cX2_confirm 5 none, Cond.methodLink RX2 22 Lib.Math.min.name, Cond.static Lib.Math.min.name, Cond.initialized "java/lang/Math", Cond.code Lib.Math.min.name Lib.Math.min.code 2 (some .int), Cond.methodLink RX2 27 yX2_learn]
def wsX3_wouldWalk : List Cond := .code yX3_wouldWalk cX3_wouldWalk 2 (some .int) :: ((wsX3_wouldWalk_r1 ++ (wsX3_wouldWalk_r2 ++ (wsX3_wouldWalk_r3 ++ (wsX3_wouldWalk_r4 ++ (wsX3_wouldWalk_r5 ++ (wsX3_wouldWalk_r6 ++ wsX3_wouldWalk_r7)))))) ++ wsX30 ++ wsX10 ++ wsX00 ++ wsX20 ++ (vx_atS RX3 212 "java/lang/IndexOutOfBoundsException" ["java/lang/RuntimeException", "java/lang/Exception"]).filter goodWord ++ (vx_atS RX3 36 "java/lang/IllegalStateException" ["java/lang/RuntimeException", "java/lang/Exception"]).filter goodWord)
def wsX3_bestShepherd_r1 : List Cond := [Cond.fieldLink RX3 12 "MapCarrier" "land" "LMapCarrier$Land;", Cond.methodLink RX3 39 yX3_checkPlace, Cond.instanceMethod yX3_checkPlace, Cond.selects RX3 yX3_checkPlace yX3_checkPlace, Cond.initialized RX3, Cond.code yX3_checkPlace cX3_checkPlace 2 none, Cond.classLink RX3 208 "java/lang/IndexOutOfBoundsException", Cond.initialized "java/lang/IndexOutOfBoundsException", Cond.methodLink RX3 205 yX1_isPlace, Cond.instanceMethod yX1_isPlace, Cond.selects RX1 yX1_isPlace yX1_isPlace, Cond.initialized RX1, Cond.code yX1_isPlace cX1_isPlace 2 (some .boolean), Cond.fieldLink RX1 34 "MapCarrier$Land" "places" "I", Cond.methodLink RX3 81 yX3_checkIdle, Cond.instanceMethod yX3_checkIdle, Cond.selects RX3 yX3_checkIdle yX3_checkIdle, Cond.code yX3_checkIdle cX3_checkIdle 1 none, Cond.classLink RX3 32 "java/lang/IllegalStateException", Cond.initialized "java/lang/IllegalStateException", Cond.fieldLink RX3 21 "MapCarrier" "carrier" "LMapCarrier$Carrier;", Cond.methodLink RX3 96 yX0_isUnderway, Cond.instanceMethod yX0_isUnderway, Cond.selects RX0 yX0_isUnderway yX0_isUnderway]
def wsX3_bestShepherd_r2 : List Cond := [Cond.initialized RX0, Cond.code yX0_isUnderway cX0_isUnderway 1 (some .boolean), Cond.fieldLink RX0 18 "MapCarrier$Carrier" "goal" "I", Cond.methodLink RX3 162 yX3_trialMiles, Cond.instanceMethod yX3_trialMiles, Cond.selects RX3 yX3_trialMiles yX3_trialMiles, Cond.code yX3_trialMiles cX3_trialMiles 4 (some .int), Cond.fieldLink RX3 25 "MapCarrier" "trial" "LMapCarrier$Carrier;", Cond.methodLink RX3 224 yX0_startLike, Cond.instanceMethod yX0_startLike, Cond.selects RX0 yX0_startLike yX0_startLike, Cond.code yX0_startLike cX0_startLike 3 none, Cond.fieldLink RX0 40 "MapCarrier$Carrier" "at" "I", Cond.fieldLink RX0 43 "MapCarrier$Carrier" "coins" "I", Cond.fieldLink RX0 12 "MapCarrier$Carrier" "memory" "LMapCarrier$Memory;", Cond.fieldLink RX0 33 "MapCarrier$Carrier" "guest" "I", Cond.fieldLink RX0 50 "MapCarrier$Carrier" "walked" "I", Cond.fieldLink RX0 53 "MapCarrier$Carrier" "inVain" "I", Cond.methodLink RX0 46 yX2_copyFrom, Cond.instanceMethod yX2_copyFrom, Cond.selects RX2 yX2_copyFrom yX2_copyFrom, Cond.initialized RX2, Cond.code yX2_copyFrom cX2_copyFrom 2 none, Cond.fieldLink RX2 9 "MapCarrier$Memory" "exits" "[I"]
def wsX3_bestShepherd_r3 : List Cond := [Cond.methodLink RX2 34 arraycopyName, Cond.native arraycopyName, Cond.static arraycopyName, Cond.initialized "java/lang/System", Cond.fieldLink RX2 15 "MapCarrier$Memory" "strengths" "[I", Cond.methodLink RX3 90 yX0_begin, Cond.instanceMethod yX0_begin, Cond.selects RX0 yX0_begin yX0_begin, Cond.code yX0_begin cX0_begin 2 none, Cond.fieldLink RX0 26 "MapCarrier$Carrier" "tried" "[Z", Cond.fieldLink RX0 30 "MapCarrier$Carrier" "askedAt" "[Z", Cond.fieldLink RX0 64 "MapCarrier$Carrier" "wayLength" "I", Cond.fieldLink RX0 67 "MapCarrier$Carrier" "done" "I", Cond.methodLink RX0 60 yX0_forget, Cond.static yX0_forget, Cond.code yX0_forget cX0_forget 2 none, Cond.methodLink RX0 70 yX0_endErrand, Cond.instanceMethod yX0_endErrand, Cond.selects RX0 yX0_endErrand yX0_endErrand, Cond.code yX0_endErrand cX0_endErrand 1 none, Cond.methodLink RX3 100 yX0_step, Cond.instanceMethod yX0_step, Cond.selects RX0 yX0_step yX0_step, Cond.code yX0_step cX0_step 2 (some .boolean)]
def wsX3_bestShepherd_r4 : List Cond := [Cond.methodLink RX0 73 yX0_rememberedEnd, Cond.instanceMethod yX0_rememberedEnd, Cond.selects RX0 yX0_rememberedEnd yX0_rememberedEnd, Cond.code yX0_rememberedEnd cX0_rememberedEnd 2 (some .int), Cond.fieldLink RX0 36 "MapCarrier$Carrier" "land" "LMapCarrier$Land;", Cond.methodLink RX0 98 yX2_exitFor, Cond.instanceMethod yX2_exitFor, Cond.selects RX2 yX2_exitFor yX2_exitFor, Cond.code yX2_exitFor cX2_exitFor 4 (some .int), Cond.methodLink RX2 18 yX2_spotOf, Cond.static yX2_spotOf, Cond.code yX2_spotOf cX2_spotOf 3 (some .int), Cond.methodLink RX0 102 yX1_endAt, Cond.instanceMethod yX1_endAt, Cond.selects RX1 yX1_endAt yX1_endAt, Cond.code yX1_endAt cX1_endAt 4 (some .int), Cond.fieldLink RX1 9 "MapCarrier$Land" "exits" "[I", Cond.methodLink RX1 38 yX1_isPlace, Cond.methodLink RX0 105 yX0_canTake, Cond.instanceMethod yX0_canTake, Cond.selects RX0 yX0_canTake yX0_canTake, Cond.code yX0_canTake cX0_canTake 2 (some .boolean), Cond.static yX3_isEnd, Cond.code yX3_isEnd cX3_isEnd 1 (some .boolean)]
def wsX3_bestShepherd_r5 : List Cond := [Cond.methodLink RX0 77 yX0_askedEnd, Cond.instanceMethod yX0_askedEnd, Cond.selects RX0 yX0_askedEnd yX0_askedEnd, Cond.code yX0_askedEnd cX0_askedEnd 3 (some .int), Cond.fieldLink RX0 114 "MapCarrier$Carrier" "questions" "I", Cond.methodLink RX0 108 yX1_isPlace, Cond.methodLink RX0 117 yX1_endTowards, Cond.instanceMethod yX1_endTowards, Cond.selects RX1 yX1_endTowards yX1_endTowards, Cond.code yX1_endTowards cX1_endTowards 5 (some .int), Cond.fieldLink RX1 31 "MapCarrier$Land" "far" "[I", Cond.constant RX1 63 (1000000), Cond.methodLink RX1 59 yX1_measure, Cond.instanceMethod yX1_measure, Cond.selects RX1 yX1_measure yX1_measure, Cond.code yX1_measure cX1_measure 6 none, Cond.methodLink RX1 67 yJ7_fill_53178, Cond.static yJ7_fill_53178, Cond.initialized RJ7, Cond.code yJ7_fill_53178 cJ7_fill_53178 4 none, Cond.methodLink RX1 64 yX1_milesBy, Cond.instanceMethod yX1_milesBy, Cond.selects RX1 yX1_milesBy yX1_milesBy, Cond.code yX1_milesBy cX1_milesBy 3 (some .int)]
def wsX3_bestShepherd_r6 : List Cond := [Cond.fieldLink RX1 28 "MapCarrier$Land" "open" "[Z", Cond.fieldLink RX1 19 "MapCarrier$Land" "leads" "[I", Cond.fieldLink RX1 25 "MapCarrier$Land" "lengths" "[I", Cond.static yX3_placeOfEnd, Cond.code yX3_placeOfEnd cX3_placeOfEnd 1 (some .int), Cond.static yX3_exitOfEnd, Cond.code yX3_exitOfEnd cX3_exitOfEnd 1 (some .int), Cond.methodLink RX0 124 yX2_learn, Cond.instanceMethod yX2_learn, Cond.selects RX2 yX2_learn yX2_learn, Cond.code yX2_learn cX2_learn 5 none, Cond.methodLink RX0 80 yX0_firstUntried, Cond.instanceMethod yX0_firstUntried, Cond.selects RX0 yX0_firstUntried yX0_firstUntried, Cond.code yX0_firstUntried cX0_firstUntried 3 (some .int), Cond.methodLink RX0 83 yX0_take, Cond.instanceMethod yX0_take, Cond.selects RX0 yX0_take yX0_take, Cond.code yX0_take cX0_take 3 none, Cond.fieldLink RX0 22 "MapCarrier$Carrier" "way" "[I", Cond.methodLink RX0 128 yX1_twinOf, Cond.instanceMethod yX1_twinOf, Cond.selects RX1 yX1_twinOf yX1_twinOf, Cond.code yX1_twinOf cX1_twinOf 2 (some .int)]
def wsX3_bestShepherd_r7 : List Cond := [Cond.fieldLink RX1 22 "MapCarrier$Land" "twins" "[I", Cond.methodLink RX0 131 yX1_milesAt, Cond.instanceMethod yX1_milesAt, Cond.selects RX1 yX1_milesAt yX1_milesAt, Cond.code yX1_milesAt cX1_milesAt 2 (some .int), Cond.methodLink RX0 87 yX0_doubleBack, Cond.instanceMethod yX0_doubleBack, Cond.selects RX0 yX0_doubleBack yX0_doubleBack, Cond.code yX0_doubleBack cX0_doubleBack 4 none, Cond.fieldLink RX0 137 "MapCarrier$Carrier" "doubled" "I", Cond.methodLink RX0 90 yX0_rememberWay, Cond.instanceMethod yX0_rememberWay, Cond.selects RX0 yX0_rememberWay yX0_rememberWay, Cond.code yX0_rememberWay cX0_rememberWay 2 none, Cond.methodLink RX0 140 yX2_confirm, Cond.instanceMethod yX2_confirm, Cond.selects RX2 yX2_confirm yX2_confirm, Cond.code yX2_confirm cX2_confirm 5 none, Cond.methodLink RX2 22 Lib.Math.min.name, Cond.static Lib.Math.min.name, Cond.initialized "java/lang/Math", Cond.code Lib.Math.min.name Lib.Math.min.code 2 (some .int), Cond.methodLink RX2 27 yX2_learn]
def wsX3_bestShepherd : List Cond := .code yX3_bestShepherd cX3_bestShepherd 6 (some .int) :: ((wsX3_bestShepherd_r1 ++ (wsX3_bestShepherd_r2 ++ (wsX3_bestShepherd_r3 ++ (wsX3_bestShepherd_r4 ++ (wsX3_bestShepherd_r5 ++ (wsX3_bestShepherd_r6 ++ wsX3_bestShepherd_r7)))))) ++ wsX30 ++ wsX10 ++ wsX00 ++ wsX20 ++ (vx_atS RX3 212 "java/lang/IndexOutOfBoundsException" ["java/lang/RuntimeException", "java/lang/Exception"]).filter goodWord ++ (vx_atS RX3 36 "java/lang/IllegalStateException" ["java/lang/RuntimeException", "java/lang/Exception"]).filter goodWord)
def wsX3_meanMiles : List Cond := .code yX3_meanMiles cX3_meanMiles 2 (some .double) :: ([.fieldLink RX3 21 "MapCarrier" "carrier" "LMapCarrier$Carrier;"] ++ wsX30 ++ wsX00)
def wsX3_mix : List Cond := .code yX3_mix cX3_mix 4 (some .long) :: ([.constantLong RX3 228 (31)])
def wsX3_mixFlag : List Cond := .code yX3_mixFlag cX3_mixFlag 3 (some .long) :: ([.methodLink RX3 170 yX3_mix, .static yX3_mix, .initialized RX3, .code yX3_mix cX3_mix 4 (some .long), .constantLong RX3 228 (31)])
def wsX3_mixPlaces_r1 : List Cond := [Cond.fieldLink RX3 12 "MapCarrier" "land" "LMapCarrier$Land;", Cond.methodLink RX3 230 yX3_hasShepherd, Cond.instanceMethod yX3_hasShepherd, Cond.selects RX3 yX3_hasShepherd yX3_hasShepherd, Cond.initialized RX3, Cond.code yX3_hasShepherd cX3_hasShepherd 2 (some .boolean), Cond.methodLink RX3 39 yX3_checkPlace, Cond.instanceMethod yX3_checkPlace, Cond.selects RX3 yX3_checkPlace yX3_checkPlace, Cond.code yX3_checkPlace cX3_checkPlace 2 none, Cond.classLink RX3 208 "java/lang/IndexOutOfBoundsException", Cond.initialized "java/lang/IndexOutOfBoundsException", Cond.methodLink RX3 205 yX1_isPlace, Cond.instanceMethod yX1_isPlace, Cond.selects RX1 yX1_isPlace yX1_isPlace, Cond.initialized RX1, Cond.code yX1_isPlace cX1_isPlace 2 (some .boolean), Cond.fieldLink RX1 34 "MapCarrier$Land" "places" "I", Cond.methodLink RX3 233 yX3_mixFlag, Cond.static yX3_mixFlag, Cond.code yX3_mixFlag cX3_mixFlag 3 (some .long), Cond.methodLink RX3 170 yX3_mix, Cond.static yX3_mix, Cond.code yX3_mix cX3_mix 4 (some .long)]
def wsX3_mixPlaces_r2 : List Cond := [Cond.constantLong RX3 228 (31), Cond.methodLink RX3 237 yX3_exitsOf, Cond.instanceMethod yX3_exitsOf, Cond.selects RX3 yX3_exitsOf yX3_exitsOf, Cond.code yX3_exitsOf cX3_exitsOf 2 (some .int), Cond.methodLink RX3 240 yX3_leadsTo, Cond.instanceMethod yX3_leadsTo, Cond.selects RX3 yX3_leadsTo yX3_leadsTo, Cond.code yX3_leadsTo cX3_leadsTo 3 (some .int), Cond.methodLink RX3 62 yX3_checkedEnd, Cond.instanceMethod yX3_checkedEnd, Cond.selects RX3 yX3_checkedEnd yX3_checkedEnd, Cond.code yX3_checkedEnd cX3_checkedEnd 4 (some .int), Cond.methodLink RX3 213 yX1_endAt, Cond.instanceMethod yX1_endAt, Cond.selects RX1 yX1_endAt yX1_endAt, Cond.code yX1_endAt cX1_endAt 4 (some .int), Cond.fieldLink RX1 9 "MapCarrier$Land" "exits" "[I", Cond.methodLink RX1 38 yX1_isPlace, Cond.methodLink RX3 123 yX1_beyond, Cond.instanceMethod yX1_beyond, Cond.selects RX1 yX1_beyond yX1_beyond, Cond.code yX1_beyond cX1_beyond 2 (some .int), Cond.fieldLink RX1 19 "MapCarrier$Land" "leads" "[I"]
def wsX3_mixPlaces_r3 : List Cond := [Cond.static yX3_isEnd, Cond.code yX3_isEnd cX3_isEnd 1 (some .boolean), Cond.methodLink RX3 243 yX3_milesOf, Cond.instanceMethod yX3_milesOf, Cond.selects RX3 yX3_milesOf yX3_milesOf, Cond.code yX3_milesOf cX3_milesOf 3 (some .int), Cond.methodLink RX3 126 yX1_milesAt, Cond.instanceMethod yX1_milesAt, Cond.selects RX1 yX1_milesAt yX1_milesAt, Cond.code yX1_milesAt cX1_milesAt 2 (some .int), Cond.fieldLink RX1 25 "MapCarrier$Land" "lengths" "[I", Cond.methodLink RX3 246 yX3_isOpen, Cond.instanceMethod yX3_isOpen, Cond.selects RX3 yX3_isOpen yX3_isOpen, Cond.code yX3_isOpen cX3_isOpen 3 (some .boolean), Cond.methodLink RX3 129 yX1_opensAt, Cond.instanceMethod yX1_opensAt, Cond.selects RX1 yX1_opensAt yX1_opensAt, Cond.code yX1_opensAt cX1_opensAt 2 (some .boolean), Cond.fieldLink RX1 28 "MapCarrier$Land" "open" "[Z", Cond.methodLink RX3 250 yX3_isTried, Cond.instanceMethod yX3_isTried, Cond.selects RX3 yX3_isTried yX3_isTried, Cond.code yX3_isTried cX3_isTried 4 (some .boolean)]
def wsX3_mixPlaces_r4 : List Cond := [Cond.fieldLink RX3 21 "MapCarrier" "carrier" "LMapCarrier$Carrier;", Cond.methodLink RX3 96 yX0_isUnderway, Cond.instanceMethod yX0_isUnderway, Cond.selects RX0 yX0_isUnderway yX0_isUnderway, Cond.initialized RX0, Cond.code yX0_isUnderway cX0_isUnderway 1 (some .boolean), Cond.fieldLink RX0 18 "MapCarrier$Carrier" "goal" "I", Cond.methodLink RX3 135 yX0_hasTried, Cond.instanceMethod yX0_hasTried, Cond.selects RX0 yX0_hasTried yX0_hasTried, Cond.code yX0_hasTried cX0_hasTried 2 (some .boolean), Cond.fieldLink RX0 26 "MapCarrier$Carrier" "tried" "[Z"]
def wsX3_mixPlaces : List Cond := .code yX3_mixPlaces cX3_mixPlaces 7 (some .long) :: ((wsX3_mixPlaces_r1 ++ (wsX3_mixPlaces_r2 ++ (wsX3_mixPlaces_r3 ++ wsX3_mixPlaces_r4))) ++ wsX30 ++ wsX10 ++ wsX00 ++ (vx_atS RX3 212 "java/lang/IndexOutOfBoundsException" ["java/lang/RuntimeException", "java/lang/Exception"]).filter goodWord)
def wsX3_mixMemory_r1 : List Cond := [Cond.fieldLink RX3 12 "MapCarrier" "land" "LMapCarrier$Land;", Cond.methodLink RX3 253 yX3_remembered, Cond.instanceMethod yX3_remembered, Cond.selects RX3 yX3_remembered yX3_remembered, Cond.initialized RX3, Cond.code yX3_remembered cX3_remembered 3 (some .int), Cond.fieldLink RX3 21 "MapCarrier" "carrier" "LMapCarrier$Carrier;", Cond.methodLink RX3 39 yX3_checkPlace, Cond.instanceMethod yX3_checkPlace, Cond.selects RX3 yX3_checkPlace yX3_checkPlace, Cond.code yX3_checkPlace cX3_checkPlace 2 none, Cond.classLink RX3 208 "java/lang/IndexOutOfBoundsException", Cond.initialized "java/lang/IndexOutOfBoundsException", Cond.methodLink RX3 205 yX1_isPlace, Cond.instanceMethod yX1_isPlace, Cond.selects RX1 yX1_isPlace yX1_isPlace, Cond.initialized RX1, Cond.code yX1_isPlace cX1_isPlace 2 (some .boolean), Cond.fieldLink RX1 34 "MapCarrier$Land" "places" "I", Cond.methodLink RX3 138 yX2_exitFor, Cond.instanceMethod yX2_exitFor, Cond.selects RX2 yX2_exitFor yX2_exitFor, Cond.initialized RX2, Cond.code yX2_exitFor cX2_exitFor 4 (some .int)]
def wsX3_mixMemory_r2 : List Cond := [Cond.fieldLink RX2 15 "MapCarrier$Memory" "strengths" "[I", Cond.fieldLink RX2 9 "MapCarrier$Memory" "exits" "[I", Cond.methodLink RX2 18 yX2_spotOf, Cond.static yX2_spotOf, Cond.code yX2_spotOf cX2_spotOf 3 (some .int), Cond.methodLink RX3 170 yX3_mix, Cond.static yX3_mix, Cond.code yX3_mix cX3_mix 4 (some .long), Cond.constantLong RX3 228 (31), Cond.methodLink RX3 256 yX3_strength, Cond.instanceMethod yX3_strength, Cond.selects RX3 yX3_strength yX3_strength, Cond.code yX3_strength cX3_strength 3 (some .int), Cond.methodLink RX3 141 yX2_strengthFor, Cond.instanceMethod yX2_strengthFor, Cond.selects RX2 yX2_strengthFor yX2_strengthFor, Cond.code yX2_strengthFor cX2_strengthFor 4 (some .int)]
def wsX3_mixMemory : List Cond := .code yX3_mixMemory cX3_mixMemory 7 (some .long) :: ((wsX3_mixMemory_r1 ++ wsX3_mixMemory_r2) ++ wsX30 ++ wsX10 ++ wsX00 ++ wsX20 ++ (vx_atS RX3 212 "java/lang/IndexOutOfBoundsException" ["java/lang/RuntimeException", "java/lang/Exception"]).filter goodWord)
def wsX3_digest_r1 : List Cond := [Cond.constantLong RX3 165 (1873), Cond.methodLink RX3 167 yX3_places, Cond.instanceMethod yX3_places, Cond.selects RX3 yX3_places yX3_places, Cond.initialized RX3, Cond.code yX3_places cX3_places 1 (some .int), Cond.fieldLink RX3 12 "MapCarrier" "land" "LMapCarrier$Land;", Cond.methodLink RX3 170 yX3_mix, Cond.static yX3_mix, Cond.code yX3_mix cX3_mix 4 (some .long), Cond.constantLong RX3 228 (31), Cond.methodLink RX3 174 yX3_whereIs, Cond.instanceMethod yX3_whereIs, Cond.selects RX3 yX3_whereIs yX3_whereIs, Cond.code yX3_whereIs cX3_whereIs 1 (some .int), Cond.fieldLink RX3 21 "MapCarrier" "carrier" "LMapCarrier$Carrier;", Cond.methodLink RX3 177 yX3_coins, Cond.instanceMethod yX3_coins, Cond.selects RX3 yX3_coins yX3_coins, Cond.code yX3_coins cX3_coins 1 (some .int), Cond.methodLink RX3 179 yX3_goal, Cond.instanceMethod yX3_goal, Cond.selects RX3 yX3_goal yX3_goal, Cond.code yX3_goal cX3_goal 1 (some .int)]
def wsX3_digest_r2 : List Cond := [Cond.methodLink RX3 181 yX3_wayLength, Cond.instanceMethod yX3_wayLength, Cond.selects RX3 yX3_wayLength yX3_wayLength, Cond.code yX3_wayLength cX3_wayLength 1 (some .int), Cond.methodLink RX3 183 yX3_milesWalked, Cond.instanceMethod yX3_milesWalked, Cond.selects RX3 yX3_milesWalked yX3_milesWalked, Cond.code yX3_milesWalked cX3_milesWalked 1 (some .int), Cond.methodLink RX3 186 yX3_milesDoubled, Cond.instanceMethod yX3_milesDoubled, Cond.selects RX3 yX3_milesDoubled yX3_milesDoubled, Cond.code yX3_milesDoubled cX3_milesDoubled 1 (some .int), Cond.methodLink RX3 189 yX3_errandsDone, Cond.instanceMethod yX3_errandsDone, Cond.selects RX3 yX3_errandsDone yX3_errandsDone, Cond.code yX3_errandsDone cX3_errandsDone 1 (some .int), Cond.methodLink RX3 192 yX3_errandsInVain, Cond.instanceMethod yX3_errandsInVain, Cond.selects RX3 yX3_errandsInVain yX3_errandsInVain, Cond.code yX3_errandsInVain cX3_errandsInVain 1 (some .int), Cond.methodLink RX3 195 yX3_asked, Cond.instanceMethod yX3_asked, Cond.selects RX3 yX3_asked yX3_asked, Cond.code yX3_asked cX3_asked 1 (some .int)]
def wsX3_digest_r3 : List Cond := [Cond.methodLink RX3 198 yX3_mixPlaces, Cond.instanceMethod yX3_mixPlaces, Cond.selects RX3 yX3_mixPlaces yX3_mixPlaces, Cond.code yX3_mixPlaces cX3_mixPlaces 7 (some .long), Cond.methodLink RX3 230 yX3_hasShepherd, Cond.instanceMethod yX3_hasShepherd, Cond.selects RX3 yX3_hasShepherd yX3_hasShepherd, Cond.code yX3_hasShepherd cX3_hasShepherd 2 (some .boolean), Cond.methodLink RX3 39 yX3_checkPlace, Cond.instanceMethod yX3_checkPlace, Cond.selects RX3 yX3_checkPlace yX3_checkPlace, Cond.code yX3_checkPlace cX3_checkPlace 2 none, Cond.classLink RX3 208 "java/lang/IndexOutOfBoundsException", Cond.initialized "java/lang/IndexOutOfBoundsException", Cond.methodLink RX3 205 yX1_isPlace, Cond.instanceMethod yX1_isPlace, Cond.selects RX1 yX1_isPlace yX1_isPlace, Cond.initialized RX1, Cond.code yX1_isPlace cX1_isPlace 2 (some .boolean), Cond.fieldLink RX1 34 "MapCarrier$Land" "places" "I", Cond.methodLink RX3 233 yX3_mixFlag, Cond.static yX3_mixFlag, Cond.code yX3_mixFlag cX3_mixFlag 3 (some .long), Cond.methodLink RX3 237 yX3_exitsOf]
def wsX3_digest_r4 : List Cond := [Cond.instanceMethod yX3_exitsOf, Cond.selects RX3 yX3_exitsOf yX3_exitsOf, Cond.code yX3_exitsOf cX3_exitsOf 2 (some .int), Cond.methodLink RX3 240 yX3_leadsTo, Cond.instanceMethod yX3_leadsTo, Cond.selects RX3 yX3_leadsTo yX3_leadsTo, Cond.code yX3_leadsTo cX3_leadsTo 3 (some .int), Cond.methodLink RX3 62 yX3_checkedEnd, Cond.instanceMethod yX3_checkedEnd, Cond.selects RX3 yX3_checkedEnd yX3_checkedEnd, Cond.code yX3_checkedEnd cX3_checkedEnd 4 (some .int), Cond.methodLink RX3 213 yX1_endAt, Cond.instanceMethod yX1_endAt, Cond.selects RX1 yX1_endAt yX1_endAt, Cond.code yX1_endAt cX1_endAt 4 (some .int), Cond.fieldLink RX1 9 "MapCarrier$Land" "exits" "[I", Cond.methodLink RX1 38 yX1_isPlace, Cond.methodLink RX3 123 yX1_beyond, Cond.instanceMethod yX1_beyond, Cond.selects RX1 yX1_beyond yX1_beyond, Cond.code yX1_beyond cX1_beyond 2 (some .int), Cond.fieldLink RX1 19 "MapCarrier$Land" "leads" "[I", Cond.static yX3_isEnd, Cond.code yX3_isEnd cX3_isEnd 1 (some .boolean)]
def wsX3_digest_r5 : List Cond := [Cond.methodLink RX3 243 yX3_milesOf, Cond.instanceMethod yX3_milesOf, Cond.selects RX3 yX3_milesOf yX3_milesOf, Cond.code yX3_milesOf cX3_milesOf 3 (some .int), Cond.methodLink RX3 126 yX1_milesAt, Cond.instanceMethod yX1_milesAt, Cond.selects RX1 yX1_milesAt yX1_milesAt, Cond.code yX1_milesAt cX1_milesAt 2 (some .int), Cond.fieldLink RX1 25 "MapCarrier$Land" "lengths" "[I", Cond.methodLink RX3 246 yX3_isOpen, Cond.instanceMethod yX3_isOpen, Cond.selects RX3 yX3_isOpen yX3_isOpen, Cond.code yX3_isOpen cX3_isOpen 3 (some .boolean), Cond.methodLink RX3 129 yX1_opensAt, Cond.instanceMethod yX1_opensAt, Cond.selects RX1 yX1_opensAt yX1_opensAt, Cond.code yX1_opensAt cX1_opensAt 2 (some .boolean), Cond.fieldLink RX1 28 "MapCarrier$Land" "open" "[Z", Cond.methodLink RX3 250 yX3_isTried, Cond.instanceMethod yX3_isTried, Cond.selects RX3 yX3_isTried yX3_isTried, Cond.code yX3_isTried cX3_isTried 4 (some .boolean), Cond.methodLink RX3 96 yX0_isUnderway, Cond.instanceMethod yX0_isUnderway]
def wsX3_digest_r6 : List Cond := [Cond.selects RX0 yX0_isUnderway yX0_isUnderway, Cond.initialized RX0, Cond.code yX0_isUnderway cX0_isUnderway 1 (some .boolean), Cond.fieldLink RX0 18 "MapCarrier$Carrier" "goal" "I", Cond.methodLink RX3 135 yX0_hasTried, Cond.instanceMethod yX0_hasTried, Cond.selects RX0 yX0_hasTried yX0_hasTried, Cond.code yX0_hasTried cX0_hasTried 2 (some .boolean), Cond.fieldLink RX0 26 "MapCarrier$Carrier" "tried" "[Z", Cond.methodLink RX3 202 yX3_mixMemory, Cond.instanceMethod yX3_mixMemory, Cond.selects RX3 yX3_mixMemory yX3_mixMemory, Cond.code yX3_mixMemory cX3_mixMemory 7 (some .long), Cond.methodLink RX3 253 yX3_remembered, Cond.instanceMethod yX3_remembered, Cond.selects RX3 yX3_remembered yX3_remembered, Cond.code yX3_remembered cX3_remembered 3 (some .int), Cond.methodLink RX3 138 yX2_exitFor, Cond.instanceMethod yX2_exitFor, Cond.selects RX2 yX2_exitFor yX2_exitFor, Cond.initialized RX2, Cond.code yX2_exitFor cX2_exitFor 4 (some .int), Cond.fieldLink RX2 15 "MapCarrier$Memory" "strengths" "[I", Cond.fieldLink RX2 9 "MapCarrier$Memory" "exits" "[I"]
def wsX3_digest_r7 : List Cond := [Cond.methodLink RX2 18 yX2_spotOf, Cond.static yX2_spotOf, Cond.code yX2_spotOf cX2_spotOf 3 (some .int), Cond.methodLink RX3 256 yX3_strength, Cond.instanceMethod yX3_strength, Cond.selects RX3 yX3_strength yX3_strength, Cond.code yX3_strength cX3_strength 3 (some .int), Cond.methodLink RX3 141 yX2_strengthFor, Cond.instanceMethod yX2_strengthFor, Cond.selects RX2 yX2_strengthFor yX2_strengthFor, Cond.code yX2_strengthFor cX2_strengthFor 4 (some .int)]
def wsX3_digest : List Cond := .code yX3_digest cX3_digest 3 (some .long) :: ((wsX3_digest_r1 ++ (wsX3_digest_r2 ++ (wsX3_digest_r3 ++ (wsX3_digest_r4 ++ (wsX3_digest_r5 ++ (wsX3_digest_r6 ++ wsX3_digest_r7)))))) ++ wsX30 ++ wsX10 ++ wsX00 ++ wsX20 ++ (vx_atS RX3 212 "java/lang/IndexOutOfBoundsException" ["java/lang/RuntimeException", "java/lang/Exception"]).filter goodWord)
def wsX4_init : List Cond := .code yX4_init cX4_init 1 none :: ([.methodLink RX4 1 objectInit, .instanceMethod objectInit, .code objectInit ⟨#[0xb1]⟩ 1 none, .classLink RX4 7 "[I", .fieldLink RX4 9 "MapCarrierLaw$Sim" "roads" "[[I", .fieldLink RX4 15 "MapCarrierLaw$Sim" "exits" "[[I", .arrayClass .boolean, .fieldLink RX4 18 "MapCarrierLaw$Sim" "shepherd" "[Z", .fieldLink RX4 22 "MapCarrierLaw$Sim" "isAsked" "[Z", .fieldLink RX4 25 "MapCarrierLaw$Sim" "where" "I", .fieldLink RX4 29 "MapCarrierLaw$Sim" "goal" "I", .fieldLink RX4 32 "MapCarrierLaw$Sim" "way" "[[I", .fieldLink RX4 37 "MapCarrierLaw$Sim" "memory" "[[[I"] ++ wsX40)
def wsX4_more : List Cond := .code yX4_more cX4_more 4 (some (.array (.array .int))) :: ([.classLink RX4 7 "[I"])
def wsX4_more_ : List Cond := .code yX4_more_ cX4_more_ 4 (some (.array .int)) :: ([.arrayClass .int])
def wsX4_place : List Cond := .code yX4_place cX4_place 1 none :: ([.fieldLink RX4 15 "MapCarrierLaw$Sim" "exits" "[[I", .arrayClass .int, .fieldLink RX4 25 "MapCarrierLaw$Sim" "where" "I", .methodLink RX4 69 yX4_more, .static yX4_more, .initialized RX4, .code yX4_more cX4_more 4 (some (.array (.array .int))), .classLink RX4 7 "[I"] ++ wsX40)
def wsX4_road : List Cond := .code yX4_road cX4_road 4 (some .int) :: ([.fieldLink RX4 9 "MapCarrierLaw$Sim" "roads" "[[I", .arrayClass .int, .fieldLink RX4 15 "MapCarrierLaw$Sim" "exits" "[[I", .methodLink RX4 69 yX4_more, .static yX4_more, .initialized RX4, .code yX4_more cX4_more 4 (some (.array (.array .int))), .classLink RX4 7 "[I", .methodLink RX4 73 yX4_more_, .static yX4_more_, .code yX4_more_ cX4_more_ 4 (some (.array .int))] ++ wsX40)
def wsX4_to : List Cond := .code yX4_to cX4_to 4 (some .int) :: ([.fieldLink RX4 9 "MapCarrierLaw$Sim" "roads" "[[I", .fieldLink RX4 15 "MapCarrierLaw$Sim" "exits" "[[I"] ++ wsX40)
def wsX4_far : List Cond := .code yX4_far cX4_far 9 (some .int) :: ([.fieldLink RX4 15 "MapCarrierLaw$Sim" "exits" "[[I", .arrayClass .int, .fieldLink RX4 9 "MapCarrierLaw$Sim" "roads" "[[I", .methodLink RX4 76 Lib.Math.min.name, .static Lib.Math.min.name, .initialized "java/lang/Math", .code Lib.Math.min.name Lib.Math.min.code 2 (some .int)] ++ wsX40)
def wsX4_over : List Cond := .code yX4_over cX4_over 5 none :: ([.fieldLink RX4 29 "MapCarrierLaw$Sim" "goal" "I", .classLink RX4 7 "[I", .fieldLink RX4 32 "MapCarrierLaw$Sim" "way" "[[I", .arrayClass .boolean, .fieldLink RX4 22 "MapCarrierLaw$Sim" "isAsked" "[Z", .fieldLink RX4 9 "MapCarrierLaw$Sim" "roads" "[[I"] ++ wsX40)
def wsX4_begin : List Cond := .code yX4_begin cX4_begin 2 (some .boolean) :: ([.fieldLink RX4 25 "MapCarrierLaw$Sim" "where" "I", .fieldLink RX4 59 "MapCarrierLaw$Sim" "done" "I", .fieldLink RX4 29 "MapCarrierLaw$Sim" "goal" "I", .methodLink RX4 82 yX4_over, .instanceMethod yX4_over, .selects RX4 yX4_over yX4_over, .initialized RX4, .code yX4_over cX4_over 5 none, .classLink RX4 7 "[I", .fieldLink RX4 32 "MapCarrierLaw$Sim" "way" "[[I", .arrayClass .boolean, .fieldLink RX4 22 "MapCarrierLaw$Sim" "isAsked" "[Z", .fieldLink RX4 9 "MapCarrierLaw$Sim" "roads" "[[I"] ++ wsX40)
def wsX4_isFree : List Cond := .code yX4_isFree cX4_isFree 2 (some .boolean) :: ([.fieldLink RX4 9 "MapCarrierLaw$Sim" "roads" "[[I", .fieldLink RX4 15 "MapCarrierLaw$Sim" "exits" "[[I", .fieldLink RX4 25 "MapCarrierLaw$Sim" "where" "I"] ++ wsX40)
def wsX4_chosen_r1 : List Cond := [Cond.fieldLink RX4 37 "MapCarrierLaw$Sim" "memory" "[[[I", Cond.fieldLink RX4 29 "MapCarrierLaw$Sim" "goal" "I", Cond.fieldLink RX4 25 "MapCarrierLaw$Sim" "where" "I", Cond.fieldLink RX4 18 "MapCarrierLaw$Sim" "shepherd" "[Z", Cond.fieldLink RX4 22 "MapCarrierLaw$Sim" "isAsked" "[Z", Cond.fieldLink RX4 50 "MapCarrierLaw$Sim" "coins" "I", Cond.fieldLink RX4 65 "MapCarrierLaw$Sim" "asked" "I", Cond.fieldLink RX4 15 "MapCarrierLaw$Sim" "exits" "[[I", Cond.fieldLink RX4 9 "MapCarrierLaw$Sim" "roads" "[[I", Cond.arrayClass .int, Cond.methodLink RX4 85 yX4_isFree, Cond.instanceMethod yX4_isFree, Cond.selects RX4 yX4_isFree yX4_isFree, Cond.initialized RX4, Cond.code yX4_isFree cX4_isFree 2 (some .boolean), Cond.methodLink RX4 89 yX4_to, Cond.instanceMethod yX4_to, Cond.selects RX4 yX4_to yX4_to, Cond.code yX4_to cX4_to 4 (some .int), Cond.methodLink RX4 92 yX4_far, Cond.instanceMethod yX4_far, Cond.selects RX4 yX4_far yX4_far, Cond.code yX4_far cX4_far 9 (some .int), Cond.methodLink RX4 76 Lib.Math.min.name]
def wsX4_chosen_r2 : List Cond := [Cond.static Lib.Math.min.name, Cond.initialized "java/lang/Math", Cond.code Lib.Math.min.name Lib.Math.min.code 2 (some .int)]
def wsX4_chosen : List Cond := .code yX4_chosen cX4_chosen 7 (some .int) :: ((wsX4_chosen_r1 ++ wsX4_chosen_r2) ++ wsX40)
def wsX4_step_r1 : List Cond := [Cond.fieldLink RX4 9 "MapCarrierLaw$Sim" "roads" "[[I", Cond.fieldLink RX4 15 "MapCarrierLaw$Sim" "exits" "[[I", Cond.fieldLink RX4 25 "MapCarrierLaw$Sim" "where" "I", Cond.fieldLink RX4 32 "MapCarrierLaw$Sim" "way" "[[I", Cond.arrayClass .int, Cond.fieldLink RX4 53 "MapCarrierLaw$Sim" "walked" "I", Cond.fieldLink RX4 62 "MapCarrierLaw$Sim" "vain" "I", Cond.classLink RX4 7 "[I", Cond.fieldLink RX4 56 "MapCarrierLaw$Sim" "doubled" "I", Cond.fieldLink RX4 29 "MapCarrierLaw$Sim" "goal" "I", Cond.fieldLink RX4 37 "MapCarrierLaw$Sim" "memory" "[[[I", Cond.methodLink RX4 76 Lib.Math.min.name, Cond.static Lib.Math.min.name, Cond.initialized "java/lang/Math", Cond.code Lib.Math.min.name Lib.Math.min.code 2 (some .int), Cond.fieldLink RX4 59 "MapCarrierLaw$Sim" "done" "I", Cond.methodLink RX4 95 yX4_chosen, Cond.instanceMethod yX4_chosen, Cond.selects RX4 yX4_chosen yX4_chosen, Cond.initialized RX4, Cond.code yX4_chosen cX4_chosen 7 (some .int), Cond.fieldLink RX4 18 "MapCarrierLaw$Sim" "shepherd" "[Z", Cond.fieldLink RX4 22 "MapCarrierLaw$Sim" "isAsked" "[Z", Cond.fieldLink RX4 50 "MapCarrierLaw$Sim" "coins" "I"]
def wsX4_step_r2 : List Cond := [Cond.fieldLink RX4 65 "MapCarrierLaw$Sim" "asked" "I", Cond.methodLink RX4 85 yX4_isFree, Cond.instanceMethod yX4_isFree, Cond.selects RX4 yX4_isFree yX4_isFree, Cond.code yX4_isFree cX4_isFree 2 (some .boolean), Cond.methodLink RX4 89 yX4_to, Cond.instanceMethod yX4_to, Cond.selects RX4 yX4_to yX4_to, Cond.code yX4_to cX4_to 4 (some .int), Cond.methodLink RX4 92 yX4_far, Cond.instanceMethod yX4_far, Cond.selects RX4 yX4_far yX4_far, Cond.code yX4_far cX4_far 9 (some .int), Cond.methodLink RX4 69 yX4_more, Cond.static yX4_more, Cond.code yX4_more cX4_more 4 (some (.array (.array .int))), Cond.methodLink RX4 82 yX4_over, Cond.instanceMethod yX4_over, Cond.selects RX4 yX4_over yX4_over, Cond.code yX4_over cX4_over 5 none, Cond.arrayClass .boolean]
def wsX4_step : List Cond := .code yX4_step cX4_step 7 (some .boolean) :: ((wsX4_step_r1 ++ wsX4_step_r2) ++ wsX40)
def wsX4_go_r1 : List Cond := [Cond.fieldLink RX4 29 "MapCarrierLaw$Sim" "goal" "I", Cond.methodLink RX4 99 yX4_step, Cond.instanceMethod yX4_step, Cond.selects RX4 yX4_step yX4_step, Cond.initialized RX4, Cond.code yX4_step cX4_step 7 (some .boolean), Cond.fieldLink RX4 9 "MapCarrierLaw$Sim" "roads" "[[I", Cond.fieldLink RX4 15 "MapCarrierLaw$Sim" "exits" "[[I", Cond.fieldLink RX4 25 "MapCarrierLaw$Sim" "where" "I", Cond.fieldLink RX4 32 "MapCarrierLaw$Sim" "way" "[[I", Cond.arrayClass .int, Cond.fieldLink RX4 53 "MapCarrierLaw$Sim" "walked" "I", Cond.fieldLink RX4 62 "MapCarrierLaw$Sim" "vain" "I", Cond.classLink RX4 7 "[I", Cond.fieldLink RX4 56 "MapCarrierLaw$Sim" "doubled" "I", Cond.fieldLink RX4 37 "MapCarrierLaw$Sim" "memory" "[[[I", Cond.methodLink RX4 76 Lib.Math.min.name, Cond.static Lib.Math.min.name, Cond.initialized "java/lang/Math", Cond.code Lib.Math.min.name Lib.Math.min.code 2 (some .int), Cond.fieldLink RX4 59 "MapCarrierLaw$Sim" "done" "I", Cond.methodLink RX4 95 yX4_chosen, Cond.instanceMethod yX4_chosen, Cond.selects RX4 yX4_chosen yX4_chosen]
def wsX4_go_r2 : List Cond := [Cond.code yX4_chosen cX4_chosen 7 (some .int), Cond.fieldLink RX4 18 "MapCarrierLaw$Sim" "shepherd" "[Z", Cond.fieldLink RX4 22 "MapCarrierLaw$Sim" "isAsked" "[Z", Cond.fieldLink RX4 50 "MapCarrierLaw$Sim" "coins" "I", Cond.fieldLink RX4 65 "MapCarrierLaw$Sim" "asked" "I", Cond.methodLink RX4 85 yX4_isFree, Cond.instanceMethod yX4_isFree, Cond.selects RX4 yX4_isFree yX4_isFree, Cond.code yX4_isFree cX4_isFree 2 (some .boolean), Cond.methodLink RX4 89 yX4_to, Cond.instanceMethod yX4_to, Cond.selects RX4 yX4_to yX4_to, Cond.code yX4_to cX4_to 4 (some .int), Cond.methodLink RX4 92 yX4_far, Cond.instanceMethod yX4_far, Cond.selects RX4 yX4_far yX4_far, Cond.code yX4_far cX4_far 9 (some .int), Cond.methodLink RX4 69 yX4_more, Cond.static yX4_more, Cond.code yX4_more cX4_more 4 (some (.array (.array .int))), Cond.methodLink RX4 82 yX4_over, Cond.instanceMethod yX4_over, Cond.selects RX4 yX4_over yX4_over, Cond.code yX4_over cX4_over 5 none]
def wsX4_go_r3 : List Cond := [Cond.arrayClass .boolean]
def wsX4_go : List Cond := .code yX4_go cX4_go 3 (some .int) :: ((wsX4_go_r1 ++ (wsX4_go_r2 ++ wsX4_go_r3)) ++ wsX40)
def wsX4_night : List Cond := .code yX4_night cX4_night 8 (some .int) :: ([.fieldLink RX4 37 "MapCarrierLaw$Sim" "memory" "[[[I", .arrayClass .int] ++ wsX40)
def wsX4_knows : List Cond := .code yX4_knows cX4_knows 5 (some .boolean) :: ([.fieldLink RX4 25 "MapCarrierLaw$Sim" "where" "I", .fieldLink RX4 37 "MapCarrierLaw$Sim" "memory" "[[[I", .fieldLink RX4 9 "MapCarrierLaw$Sim" "roads" "[[I", .fieldLink RX4 15 "MapCarrierLaw$Sim" "exits" "[[I", .methodLink RX4 89 yX4_to, .instanceMethod yX4_to, .selects RX4 yX4_to yX4_to, .initialized RX4, .code yX4_to cX4_to 4 (some .int)] ++ wsX40)
def wsX4_isSame_r1 : List Cond := [Cond.fieldLink RX4 15 "MapCarrierLaw$Sim" "exits" "[[I", Cond.fieldLink RX4 25 "MapCarrierLaw$Sim" "where" "I", Cond.fieldLink RX4 50 "MapCarrierLaw$Sim" "coins" "I", Cond.fieldLink RX4 29 "MapCarrierLaw$Sim" "goal" "I", Cond.fieldLink RX4 32 "MapCarrierLaw$Sim" "way" "[[I", Cond.fieldLink RX4 53 "MapCarrierLaw$Sim" "walked" "I", Cond.fieldLink RX4 56 "MapCarrierLaw$Sim" "doubled" "I", Cond.fieldLink RX4 59 "MapCarrierLaw$Sim" "done" "I", Cond.fieldLink RX4 62 "MapCarrierLaw$Sim" "vain" "I", Cond.fieldLink RX4 65 "MapCarrierLaw$Sim" "asked" "I", Cond.fieldLink RX4 18 "MapCarrierLaw$Sim" "shepherd" "[Z", Cond.fieldLink RX4 9 "MapCarrierLaw$Sim" "roads" "[[I", Cond.fieldLink RX4 37 "MapCarrierLaw$Sim" "memory" "[[[I", Cond.methodLink RX4 103 yX3_places, Cond.instanceMethod yX3_places, Cond.selects RX3 yX3_places yX3_places, Cond.initialized RX3, Cond.code yX3_places cX3_places 1 (some .int), Cond.fieldLink RX3 12 "MapCarrier" "land" "LMapCarrier$Land;", Cond.methodLink RX4 108 yX3_whereIs, Cond.instanceMethod yX3_whereIs, Cond.selects RX3 yX3_whereIs yX3_whereIs, Cond.code yX3_whereIs cX3_whereIs 1 (some .int), Cond.fieldLink RX3 21 "MapCarrier" "carrier" "LMapCarrier$Carrier;"]
def wsX4_isSame_r2 : List Cond := [Cond.methodLink RX4 111 yX3_coins, Cond.instanceMethod yX3_coins, Cond.selects RX3 yX3_coins yX3_coins, Cond.code yX3_coins cX3_coins 1 (some .int), Cond.methodLink RX4 113 yX3_goal, Cond.instanceMethod yX3_goal, Cond.selects RX3 yX3_goal yX3_goal, Cond.code yX3_goal cX3_goal 1 (some .int), Cond.methodLink RX4 115 yX3_wayLength, Cond.instanceMethod yX3_wayLength, Cond.selects RX3 yX3_wayLength yX3_wayLength, Cond.code yX3_wayLength cX3_wayLength 1 (some .int), Cond.methodLink RX4 118 yX3_milesWalked, Cond.instanceMethod yX3_milesWalked, Cond.selects RX3 yX3_milesWalked yX3_milesWalked, Cond.code yX3_milesWalked cX3_milesWalked 1 (some .int), Cond.methodLink RX4 121 yX3_milesDoubled, Cond.instanceMethod yX3_milesDoubled, Cond.selects RX3 yX3_milesDoubled yX3_milesDoubled, Cond.code yX3_milesDoubled cX3_milesDoubled 1 (some .int), Cond.methodLink RX4 124 yX3_errandsDone, Cond.instanceMethod yX3_errandsDone, Cond.selects RX3 yX3_errandsDone yX3_errandsDone, Cond.code yX3_errandsDone cX3_errandsDone 1 (some .int)]
def wsX4_isSame_r3 : List Cond := [Cond.methodLink RX4 127 yX3_errandsInVain, Cond.instanceMethod yX3_errandsInVain, Cond.selects RX3 yX3_errandsInVain yX3_errandsInVain, Cond.code yX3_errandsInVain cX3_errandsInVain 1 (some .int), Cond.methodLink RX4 130 yX3_asked, Cond.instanceMethod yX3_asked, Cond.selects RX3 yX3_asked yX3_asked, Cond.code yX3_asked cX3_asked 1 (some .int), Cond.methodLink RX4 132 yX3_exitsOf, Cond.instanceMethod yX3_exitsOf, Cond.selects RX3 yX3_exitsOf yX3_exitsOf, Cond.code yX3_exitsOf cX3_exitsOf 2 (some .int), Cond.methodLink RX3 39 yX3_checkPlace, Cond.instanceMethod yX3_checkPlace, Cond.selects RX3 yX3_checkPlace yX3_checkPlace, Cond.code yX3_checkPlace cX3_checkPlace 2 none, Cond.classLink RX3 208 "java/lang/IndexOutOfBoundsException", Cond.initialized "java/lang/IndexOutOfBoundsException", Cond.methodLink RX3 205 yX1_isPlace, Cond.instanceMethod yX1_isPlace, Cond.selects RX1 yX1_isPlace yX1_isPlace, Cond.initialized RX1, Cond.code yX1_isPlace cX1_isPlace 2 (some .boolean), Cond.fieldLink RX1 34 "MapCarrier$Land" "places" "I"]
def wsX4_isSame_r4 : List Cond := [Cond.methodLink RX4 136 yX3_hasShepherd, Cond.instanceMethod yX3_hasShepherd, Cond.selects RX3 yX3_hasShepherd yX3_hasShepherd, Cond.code yX3_hasShepherd cX3_hasShepherd 2 (some .boolean), Cond.methodLink RX4 139 yX3_knowsWay, Cond.instanceMethod yX3_knowsWay, Cond.selects RX3 yX3_knowsWay yX3_knowsWay, Cond.code yX3_knowsWay cX3_knowsWay 2 (some .boolean), Cond.methodLink RX3 144 yX0_findsByMemory, Cond.instanceMethod yX0_findsByMemory, Cond.selects RX0 yX0_findsByMemory yX0_findsByMemory, Cond.initialized RX0, Cond.code yX0_findsByMemory cX0_findsByMemory 5 (some .boolean), Cond.fieldLink RX0 40 "MapCarrier$Carrier" "at" "I", Cond.fieldLink RX0 36 "MapCarrier$Carrier" "land" "LMapCarrier$Land;", Cond.fieldLink RX0 12 "MapCarrier$Carrier" "memory" "LMapCarrier$Memory;", Cond.methodLink RX0 98 yX2_exitFor, Cond.instanceMethod yX2_exitFor, Cond.selects RX2 yX2_exitFor yX2_exitFor, Cond.initialized RX2, Cond.code yX2_exitFor cX2_exitFor 4 (some .int), Cond.fieldLink RX2 15 "MapCarrier$Memory" "strengths" "[I", Cond.fieldLink RX2 9 "MapCarrier$Memory" "exits" "[I", Cond.methodLink RX2 18 yX2_spotOf]
def wsX4_isSame_r5 : List Cond := [Cond.static yX2_spotOf, Cond.code yX2_spotOf cX2_spotOf 3 (some .int), Cond.methodLink RX0 102 yX1_endAt, Cond.instanceMethod yX1_endAt, Cond.selects RX1 yX1_endAt yX1_endAt, Cond.code yX1_endAt cX1_endAt 4 (some .int), Cond.fieldLink RX1 9 "MapCarrier$Land" "exits" "[I", Cond.methodLink RX1 38 yX1_isPlace, Cond.methodLink RX0 143 yX1_opensAt, Cond.instanceMethod yX1_opensAt, Cond.selects RX1 yX1_opensAt yX1_opensAt, Cond.code yX1_opensAt cX1_opensAt 2 (some .boolean), Cond.fieldLink RX1 28 "MapCarrier$Land" "open" "[Z", Cond.static yX3_isEnd, Cond.code yX3_isEnd cX3_isEnd 1 (some .boolean), Cond.methodLink RX0 146 yX1_beyond, Cond.instanceMethod yX1_beyond, Cond.selects RX1 yX1_beyond yX1_beyond, Cond.code yX1_beyond cX1_beyond 2 (some .int), Cond.fieldLink RX1 19 "MapCarrier$Land" "leads" "[I", Cond.methodLink RX4 142 yX4_knows, Cond.instanceMethod yX4_knows, Cond.selects RX4 yX4_knows yX4_knows, Cond.initialized RX4]
def wsX4_isSame_r6 : List Cond := [Cond.code yX4_knows cX4_knows 5 (some .boolean), Cond.methodLink RX4 89 yX4_to, Cond.instanceMethod yX4_to, Cond.selects RX4 yX4_to yX4_to, Cond.code yX4_to cX4_to 4 (some .int), Cond.methodLink RX4 145 yX3_leadsTo, Cond.instanceMethod yX3_leadsTo, Cond.selects RX3 yX3_leadsTo yX3_leadsTo, Cond.code yX3_leadsTo cX3_leadsTo 3 (some .int), Cond.methodLink RX3 62 yX3_checkedEnd, Cond.instanceMethod yX3_checkedEnd, Cond.selects RX3 yX3_checkedEnd yX3_checkedEnd, Cond.code yX3_checkedEnd cX3_checkedEnd 4 (some .int), Cond.methodLink RX3 213 yX1_endAt, Cond.methodLink RX3 123 yX1_beyond, Cond.methodLink RX4 148 yX3_milesOf, Cond.instanceMethod yX3_milesOf, Cond.selects RX3 yX3_milesOf yX3_milesOf, Cond.code yX3_milesOf cX3_milesOf 3 (some .int), Cond.methodLink RX3 126 yX1_milesAt, Cond.instanceMethod yX1_milesAt, Cond.selects RX1 yX1_milesAt yX1_milesAt, Cond.code yX1_milesAt cX1_milesAt 2 (some .int), Cond.fieldLink RX1 25 "MapCarrier$Land" "lengths" "[I"]
def wsX4_isSame_r7 : List Cond := [Cond.methodLink RX4 151 yX3_isOpen, Cond.instanceMethod yX3_isOpen, Cond.selects RX3 yX3_isOpen yX3_isOpen, Cond.code yX3_isOpen cX3_isOpen 3 (some .boolean), Cond.methodLink RX3 129 yX1_opensAt, Cond.methodLink RX4 155 yX3_isTried, Cond.instanceMethod yX3_isTried, Cond.selects RX3 yX3_isTried yX3_isTried, Cond.code yX3_isTried cX3_isTried 4 (some .boolean), Cond.methodLink RX3 96 yX0_isUnderway, Cond.instanceMethod yX0_isUnderway, Cond.selects RX0 yX0_isUnderway yX0_isUnderway, Cond.code yX0_isUnderway cX0_isUnderway 1 (some .boolean), Cond.fieldLink RX0 18 "MapCarrier$Carrier" "goal" "I", Cond.methodLink RX3 135 yX0_hasTried, Cond.instanceMethod yX0_hasTried, Cond.selects RX0 yX0_hasTried yX0_hasTried, Cond.code yX0_hasTried cX0_hasTried 2 (some .boolean), Cond.fieldLink RX0 26 "MapCarrier$Carrier" "tried" "[Z", Cond.methodLink RX4 92 yX4_far, Cond.instanceMethod yX4_far, Cond.selects RX4 yX4_far yX4_far, Cond.code yX4_far cX4_far 9 (some .int), Cond.arrayClass .int]
def wsX4_isSame_r8 : List Cond := [Cond.methodLink RX4 76 Lib.Math.min.name, Cond.static Lib.Math.min.name, Cond.initialized "java/lang/Math", Cond.code Lib.Math.min.name Lib.Math.min.code 2 (some .int), Cond.methodLink RX4 158 yX3_remembered, Cond.instanceMethod yX3_remembered, Cond.selects RX3 yX3_remembered yX3_remembered, Cond.code yX3_remembered cX3_remembered 3 (some .int), Cond.methodLink RX3 138 yX2_exitFor, Cond.methodLink RX4 161 yX3_strength, Cond.instanceMethod yX3_strength, Cond.selects RX3 yX3_strength yX3_strength, Cond.code yX3_strength cX3_strength 3 (some .int), Cond.methodLink RX3 141 yX2_strengthFor, Cond.instanceMethod yX2_strengthFor, Cond.selects RX2 yX2_strengthFor yX2_strengthFor, Cond.code yX2_strengthFor cX2_strengthFor 4 (some .int), Cond.methodLink RX4 164 yX3_distance, Cond.instanceMethod yX3_distance, Cond.selects RX3 yX3_distance yX3_distance, Cond.code yX3_distance cX3_distance 3 (some .int), Cond.methodLink RX3 87 yX1_shortest, Cond.instanceMethod yX1_shortest, Cond.selects RX1 yX1_shortest yX1_shortest]
def wsX4_isSame_r9 : List Cond := [Cond.code yX1_shortest cX1_shortest 3 (some .int), Cond.fieldLink RX1 31 "MapCarrier$Land" "far" "[I", Cond.constant RX1 63 (1000000), Cond.methodLink RX1 59 yX1_measure, Cond.instanceMethod yX1_measure, Cond.selects RX1 yX1_measure yX1_measure, Cond.code yX1_measure cX1_measure 6 none, Cond.methodLink RX1 67 yJ7_fill_53178, Cond.static yJ7_fill_53178, Cond.initialized RJ7, Cond.code yJ7_fill_53178 cJ7_fill_53178 4 none, Cond.methodLink RX1 64 yX1_milesBy, Cond.instanceMethod yX1_milesBy, Cond.selects RX1 yX1_milesBy yX1_milesBy, Cond.code yX1_milesBy cX1_milesBy 3 (some .int), Cond.static yX3_placeOfEnd, Cond.code yX3_placeOfEnd cX3_placeOfEnd 1 (some .int), Cond.methodLink RX4 167 yX3_meanMiles, Cond.instanceMethod yX3_meanMiles, Cond.selects RX3 yX3_meanMiles yX3_meanMiles, Cond.code yX3_meanMiles cX3_meanMiles 2 (some .double)]
def wsX4_isSame : List Cond := .code yX4_isSame cX4_isSame 7 (some .boolean) :: ((wsX4_isSame_r1 ++ (wsX4_isSame_r2 ++ (wsX4_isSame_r3 ++ (wsX4_isSame_r4 ++ (wsX4_isSame_r5 ++ (wsX4_isSame_r6 ++ (wsX4_isSame_r7 ++ (wsX4_isSame_r8 ++ wsX4_isSame_r9)))))))) ++ wsX40 ++ wsX30 ++ wsX10 ++ wsX00 ++ wsX20 ++ (vx_atS RX3 212 "java/lang/IndexOutOfBoundsException" ["java/lang/RuntimeException", "java/lang/Exception"]).filter goodWord)
def wsJ9_max_7cf53 : List Cond := .code yJ9_max_7cf53 cJ9_max_7cf53 2 (some .int) :: ([])
def wsJ9_min_7cf53 : List Cond := .code yJ9_min_7cf53 cJ9_min_7cf53 2 (some .int) :: ([])
def wsL_below : List Cond := .code yL_below cL_below 2 (some .int) :: ([.constant RL 7 (2147483647)])
def wsL_cell : List Cond := .code yL_cell cL_cell 2 (some .int) :: ([.constant RL 8 (790386105)])
def wsL_act_r1 : List Cond := [Cond.classLink RL 30 "java/lang/IllegalStateException", Cond.fieldLink RL 9 "MapCarrierLaw$Sim" "exits" "[[I", Cond.fieldLink RL 39 "MapCarrierLaw$Sim" "roads" "[[I", Cond.fieldLink RL 46 "MapCarrierLaw$Sim" "shepherd" "[Z", Cond.fieldLink RL 54 "MapCarrierLaw$Sim" "coins" "I", Cond.methodLink RL 58 Lib.Math.min.name, Cond.static Lib.Math.min.name, Cond.initialized "java/lang/Math", Cond.code Lib.Math.min.name Lib.Math.min.code 2 (some .int), Cond.fieldLink RL 73 "MapCarrierLaw$Sim" "goal" "I", Cond.fieldLink RL 76 "MapCarrierLaw$Sim" "way" "[[I", Cond.fieldLink RL 85 "MapCarrierLaw$Sim" "where" "I", Cond.methodLink RL 15 yL_below, Cond.static yL_below, Cond.initialized RL, Cond.code yL_below cL_below 2 (some .int), Cond.constant RL 7 (2147483647), Cond.methodLink RL 21 yX4_place, Cond.instanceMethod yX4_place, Cond.selects RX4 yX4_place yX4_place, Cond.initialized RX4, Cond.code yX4_place cX4_place 1 none, Cond.fieldLink RX4 15 "MapCarrierLaw$Sim" "exits" "[[I", Cond.arrayClass .int]
def wsL_act_r2 : List Cond := [Cond.fieldLink RX4 25 "MapCarrierLaw$Sim" "where" "I", Cond.methodLink RX4 69 yX4_more, Cond.static yX4_more, Cond.code yX4_more cX4_more 4 (some (.array (.array .int))), Cond.classLink RX4 7 "[I", Cond.methodLink RL 24 yX3_addPlace, Cond.instanceMethod yX3_addPlace, Cond.selects RX3 yX3_addPlace yX3_addPlace, Cond.initialized RX3, Cond.code yX3_addPlace cX3_addPlace 1 (some .int), Cond.classLink RX3 32 "java/lang/IllegalStateException", Cond.initialized "java/lang/IllegalStateException", Cond.fieldLink RX3 12 "MapCarrier" "land" "LMapCarrier$Land;", Cond.methodLink RL 32 yX4_road, Cond.instanceMethod yX4_road, Cond.selects RX4 yX4_road yX4_road, Cond.code yX4_road cX4_road 4 (some .int), Cond.fieldLink RX4 9 "MapCarrierLaw$Sim" "roads" "[[I", Cond.methodLink RX4 73 yX4_more_, Cond.static yX4_more_, Cond.code yX4_more_ cX4_more_ 4 (some (.array .int)), Cond.methodLink RL 36 yX3_addRoad, Cond.instanceMethod yX3_addRoad, Cond.selects RX3 yX3_addRoad yX3_addRoad]
def wsL_act_r3 : List Cond := [Cond.code yX3_addRoad cX3_addRoad 4 (some .int), Cond.classLink RX3 43 "java/lang/IllegalArgumentException", Cond.initialized "java/lang/IllegalArgumentException", Cond.methodLink RX3 39 yX3_checkPlace, Cond.instanceMethod yX3_checkPlace, Cond.selects RX3 yX3_checkPlace yX3_checkPlace, Cond.code yX3_checkPlace cX3_checkPlace 2 none, Cond.classLink RX3 208 "java/lang/IndexOutOfBoundsException", Cond.initialized "java/lang/IndexOutOfBoundsException", Cond.methodLink RX3 205 yX1_isPlace, Cond.instanceMethod yX1_isPlace, Cond.selects RX1 yX1_isPlace yX1_isPlace, Cond.initialized RX1, Cond.code yX1_isPlace cX1_isPlace 2 (some .boolean), Cond.fieldLink RX1 34 "MapCarrier$Land" "places" "I", Cond.methodLink RX3 48 yX3_checkRange, Cond.instanceMethod yX3_checkRange, Cond.selects RX3 yX3_checkRange yX3_checkRange, Cond.code yX3_checkRange cX3_checkRange 3 none, Cond.methodLink RX3 52 yX1_hasRoom, Cond.instanceMethod yX1_hasRoom, Cond.selects RX1 yX1_hasRoom yX1_hasRoom, Cond.code yX1_hasRoom cX1_hasRoom 2 (some .boolean), Cond.fieldLink RX1 9 "MapCarrier$Land" "exits" "[I"]
def wsL_act_r4 : List Cond := [Cond.methodLink RX1 38 yX1_isPlace, Cond.methodLink RX3 58 yX1_join, Cond.instanceMethod yX1_join, Cond.selects RX1 yX1_join yX1_join, Cond.code yX1_join cX1_join 7 (some .int), Cond.methodLink RX1 42 yX1_hasRoom, Cond.methodLink RX1 45 yX1_layEnd, Cond.instanceMethod yX1_layEnd, Cond.selects RX1 yX1_layEnd yX1_layEnd, Cond.code yX1_layEnd cX1_layEnd 4 none, Cond.fieldLink RX1 19 "MapCarrier$Land" "leads" "[I", Cond.fieldLink RX1 22 "MapCarrier$Land" "twins" "[I", Cond.fieldLink RX1 25 "MapCarrier$Land" "lengths" "[I", Cond.fieldLink RX1 28 "MapCarrier$Land" "open" "[Z", Cond.static yX3_placeOfEnd, Cond.code yX3_placeOfEnd cX3_placeOfEnd 1 (some .int), Cond.methodLink RL 42 yX3_turnRoad, Cond.instanceMethod yX3_turnRoad, Cond.selects RX3 yX3_turnRoad yX3_turnRoad, Cond.code yX3_turnRoad cX3_turnRoad 3 (some .boolean), Cond.methodLink RX3 62 yX3_checkedEnd, Cond.instanceMethod yX3_checkedEnd, Cond.selects RX3 yX3_checkedEnd yX3_checkedEnd, Cond.code yX3_checkedEnd cX3_checkedEnd 4 (some .int)]
def wsL_act_r5 : List Cond := [Cond.methodLink RX3 213 yX1_endAt, Cond.instanceMethod yX1_endAt, Cond.selects RX1 yX1_endAt yX1_endAt, Cond.code yX1_endAt cX1_endAt 4 (some .int), Cond.methodLink RX3 66 yX1_turnEnd, Cond.instanceMethod yX1_turnEnd, Cond.selects RX1 yX1_turnEnd yX1_turnEnd, Cond.code yX1_turnEnd cX1_turnEnd 4 (some .boolean), Cond.methodLink RX1 53 yX1_twinOf, Cond.instanceMethod yX1_twinOf, Cond.selects RX1 yX1_twinOf yX1_twinOf, Cond.code yX1_twinOf cX1_twinOf 2 (some .int), Cond.static yX3_isEnd, Cond.code yX3_isEnd cX3_isEnd 1 (some .boolean), Cond.methodLink RL 50 yX3_turnShepherd, Cond.instanceMethod yX3_turnShepherd, Cond.selects RX3 yX3_turnShepherd yX3_turnShepherd, Cond.code yX3_turnShepherd cX3_turnShepherd 2 (some .boolean), Cond.methodLink RL 63 yX3_pay, Cond.instanceMethod yX3_pay, Cond.selects RX3 yX3_pay yX3_pay, Cond.code yX3_pay cX3_pay 2 (some .int), Cond.fieldLink RX3 21 "MapCarrier" "carrier" "LMapCarrier$Carrier;", Cond.methodLink RX3 76 Lib.Math.min.name]
def wsL_act_r6 : List Cond := [Cond.methodLink RL 67 yX4_night, Cond.instanceMethod yX4_night, Cond.selects RX4 yX4_night yX4_night, Cond.code yX4_night cX4_night 8 (some .int), Cond.fieldLink RX4 37 "MapCarrierLaw$Sim" "memory" "[[[I", Cond.methodLink RL 70 yX3_sleep, Cond.instanceMethod yX3_sleep, Cond.selects RX3 yX3_sleep yX3_sleep, Cond.code yX3_sleep cX3_sleep 2 (some .int), Cond.methodLink RX3 113 yX2_fade, Cond.instanceMethod yX2_fade, Cond.selects RX2 yX2_fade yX2_fade, Cond.initialized RX2, Cond.code yX2_fade cX2_fade 5 (some .int), Cond.fieldLink RX2 15 "MapCarrier$Memory" "strengths" "[I", Cond.methodLink RX2 31 Lib.Math.max.name, Cond.static Lib.Math.max.name, Cond.code Lib.Math.max.name Lib.Math.max.code 2 (some .int), Cond.methodLink RL 79 yX4_over, Cond.instanceMethod yX4_over, Cond.selects RX4 yX4_over yX4_over, Cond.code yX4_over cX4_over 5 none, Cond.fieldLink RX4 29 "MapCarrierLaw$Sim" "goal" "I", Cond.fieldLink RX4 32 "MapCarrierLaw$Sim" "way" "[[I"]
def wsL_act_r7 : List Cond := [Cond.arrayClass .boolean, Cond.fieldLink RX4 22 "MapCarrierLaw$Sim" "isAsked" "[Z", Cond.methodLink RL 82 yX3_giveUp, Cond.instanceMethod yX3_giveUp, Cond.selects RX3 yX3_giveUp yX3_giveUp, Cond.code yX3_giveUp cX3_giveUp 2 (some .int), Cond.methodLink RX3 93 yX3_checkUnderway, Cond.instanceMethod yX3_checkUnderway, Cond.selects RX3 yX3_checkUnderway yX3_checkUnderway, Cond.code yX3_checkUnderway cX3_checkUnderway 1 none, Cond.methodLink RX3 96 yX0_isUnderway, Cond.instanceMethod yX0_isUnderway, Cond.selects RX0 yX0_isUnderway yX0_isUnderway, Cond.initialized RX0, Cond.code yX0_isUnderway cX0_isUnderway 1 (some .boolean), Cond.fieldLink RX0 18 "MapCarrier$Carrier" "goal" "I", Cond.methodLink RX3 106 yX0_endErrand, Cond.instanceMethod yX0_endErrand, Cond.selects RX0 yX0_endErrand yX0_endErrand, Cond.code yX0_endErrand cX0_endErrand 1 none, Cond.fieldLink RX0 64 "MapCarrier$Carrier" "wayLength" "I", Cond.methodLink RL 88 yX4_far, Cond.instanceMethod yX4_far, Cond.selects RX4 yX4_far yX4_far]
def wsL_act_r8 : List Cond := [Cond.code yX4_far cX4_far 9 (some .int), Cond.methodLink RX4 76 Lib.Math.min.name, Cond.methodLink RL 91 yX4_begin, Cond.instanceMethod yX4_begin, Cond.selects RX4 yX4_begin yX4_begin, Cond.code yX4_begin cX4_begin 2 (some .boolean), Cond.fieldLink RX4 59 "MapCarrierLaw$Sim" "done" "I", Cond.methodLink RX4 82 yX4_over, Cond.methodLink RL 94 yX3_beginErrand, Cond.instanceMethod yX3_beginErrand, Cond.selects RX3 yX3_beginErrand yX3_beginErrand, Cond.code yX3_beginErrand cX3_beginErrand 3 (some .int), Cond.methodLink RX3 81 yX3_checkIdle, Cond.instanceMethod yX3_checkIdle, Cond.selects RX3 yX3_checkIdle yX3_checkIdle, Cond.code yX3_checkIdle cX3_checkIdle 1 none, Cond.methodLink RX3 87 yX1_shortest, Cond.instanceMethod yX1_shortest, Cond.selects RX1 yX1_shortest yX1_shortest, Cond.code yX1_shortest cX1_shortest 3 (some .int), Cond.fieldLink RX1 31 "MapCarrier$Land" "far" "[I", Cond.constant RX1 63 (1000000), Cond.methodLink RX1 59 yX1_measure, Cond.instanceMethod yX1_measure]
def wsL_act_r9 : List Cond := [Cond.selects RX1 yX1_measure yX1_measure, Cond.code yX1_measure cX1_measure 6 none, Cond.methodLink RX1 67 yJ7_fill_53178, Cond.static yJ7_fill_53178, Cond.initialized RJ7, Cond.code yJ7_fill_53178 cJ7_fill_53178 4 none, Cond.methodLink RX1 64 yX1_milesBy, Cond.instanceMethod yX1_milesBy, Cond.selects RX1 yX1_milesBy yX1_milesBy, Cond.code yX1_milesBy cX1_milesBy 3 (some .int), Cond.methodLink RX3 90 yX0_begin, Cond.instanceMethod yX0_begin, Cond.selects RX0 yX0_begin yX0_begin, Cond.code yX0_begin cX0_begin 2 none, Cond.fieldLink RX0 26 "MapCarrier$Carrier" "tried" "[Z", Cond.fieldLink RX0 30 "MapCarrier$Carrier" "askedAt" "[Z", Cond.fieldLink RX0 40 "MapCarrier$Carrier" "at" "I", Cond.fieldLink RX0 67 "MapCarrier$Carrier" "done" "I", Cond.methodLink RX0 60 yX0_forget, Cond.static yX0_forget, Cond.code yX0_forget cX0_forget 2 none, Cond.methodLink RX0 70 yX0_endErrand, Cond.methodLink RL 97 yX4_go, Cond.instanceMethod yX4_go]
def wsL_act_r10 : List Cond := [Cond.selects RX4 yX4_go yX4_go, Cond.code yX4_go cX4_go 3 (some .int), Cond.methodLink RX4 99 yX4_step, Cond.instanceMethod yX4_step, Cond.selects RX4 yX4_step yX4_step, Cond.code yX4_step cX4_step 7 (some .boolean), Cond.fieldLink RX4 53 "MapCarrierLaw$Sim" "walked" "I", Cond.fieldLink RX4 62 "MapCarrierLaw$Sim" "vain" "I", Cond.fieldLink RX4 56 "MapCarrierLaw$Sim" "doubled" "I", Cond.methodLink RX4 95 yX4_chosen, Cond.instanceMethod yX4_chosen, Cond.selects RX4 yX4_chosen yX4_chosen, Cond.code yX4_chosen cX4_chosen 7 (some .int), Cond.fieldLink RX4 18 "MapCarrierLaw$Sim" "shepherd" "[Z", Cond.fieldLink RX4 50 "MapCarrierLaw$Sim" "coins" "I", Cond.fieldLink RX4 65 "MapCarrierLaw$Sim" "asked" "I", Cond.methodLink RX4 85 yX4_isFree, Cond.instanceMethod yX4_isFree, Cond.selects RX4 yX4_isFree yX4_isFree, Cond.code yX4_isFree cX4_isFree 2 (some .boolean), Cond.methodLink RX4 89 yX4_to, Cond.instanceMethod yX4_to, Cond.selects RX4 yX4_to yX4_to, Cond.code yX4_to cX4_to 4 (some .int)]
def wsL_act_r11 : List Cond := [Cond.methodLink RX4 92 yX4_far, Cond.methodLink RL 100 yX3_goOn, Cond.instanceMethod yX3_goOn, Cond.selects RX3 yX3_goOn yX3_goOn, Cond.code yX3_goOn cX3_goOn 3 (some .int), Cond.methodLink RX3 100 yX0_step, Cond.instanceMethod yX0_step, Cond.selects RX0 yX0_step yX0_step, Cond.code yX0_step cX0_step 2 (some .boolean), Cond.fieldLink RX0 53 "MapCarrier$Carrier" "inVain" "I", Cond.methodLink RX0 73 yX0_rememberedEnd, Cond.instanceMethod yX0_rememberedEnd, Cond.selects RX0 yX0_rememberedEnd yX0_rememberedEnd, Cond.code yX0_rememberedEnd cX0_rememberedEnd 2 (some .int), Cond.fieldLink RX0 36 "MapCarrier$Carrier" "land" "LMapCarrier$Land;", Cond.fieldLink RX0 12 "MapCarrier$Carrier" "memory" "LMapCarrier$Memory;", Cond.methodLink RX0 98 yX2_exitFor, Cond.instanceMethod yX2_exitFor, Cond.selects RX2 yX2_exitFor yX2_exitFor, Cond.code yX2_exitFor cX2_exitFor 4 (some .int), Cond.fieldLink RX2 9 "MapCarrier$Memory" "exits" "[I", Cond.methodLink RX2 18 yX2_spotOf, Cond.static yX2_spotOf, Cond.code yX2_spotOf cX2_spotOf 3 (some .int)]
def wsL_act_r12 : List Cond := [Cond.methodLink RX0 102 yX1_endAt, Cond.methodLink RX0 105 yX0_canTake, Cond.instanceMethod yX0_canTake, Cond.selects RX0 yX0_canTake yX0_canTake, Cond.code yX0_canTake cX0_canTake 2 (some .boolean), Cond.methodLink RX0 77 yX0_askedEnd, Cond.instanceMethod yX0_askedEnd, Cond.selects RX0 yX0_askedEnd yX0_askedEnd, Cond.code yX0_askedEnd cX0_askedEnd 3 (some .int), Cond.fieldLink RX0 33 "MapCarrier$Carrier" "guest" "I", Cond.fieldLink RX0 43 "MapCarrier$Carrier" "coins" "I", Cond.fieldLink RX0 114 "MapCarrier$Carrier" "questions" "I", Cond.methodLink RX0 108 yX1_isPlace, Cond.methodLink RX0 117 yX1_endTowards, Cond.instanceMethod yX1_endTowards, Cond.selects RX1 yX1_endTowards yX1_endTowards, Cond.code yX1_endTowards cX1_endTowards 5 (some .int), Cond.static yX3_exitOfEnd, Cond.code yX3_exitOfEnd cX3_exitOfEnd 1 (some .int), Cond.methodLink RX0 124 yX2_learn, Cond.instanceMethod yX2_learn, Cond.selects RX2 yX2_learn yX2_learn, Cond.code yX2_learn cX2_learn 5 none, Cond.methodLink RX0 80 yX0_firstUntried]
def wsL_act_r13 : List Cond := [Cond.instanceMethod yX0_firstUntried, Cond.selects RX0 yX0_firstUntried yX0_firstUntried, Cond.code yX0_firstUntried cX0_firstUntried 3 (some .int), Cond.methodLink RX0 83 yX0_take, Cond.instanceMethod yX0_take, Cond.selects RX0 yX0_take yX0_take, Cond.code yX0_take cX0_take 3 none, Cond.fieldLink RX0 22 "MapCarrier$Carrier" "way" "[I", Cond.fieldLink RX0 50 "MapCarrier$Carrier" "walked" "I", Cond.methodLink RX0 128 yX1_twinOf, Cond.methodLink RX0 131 yX1_milesAt, Cond.instanceMethod yX1_milesAt, Cond.selects RX1 yX1_milesAt yX1_milesAt, Cond.code yX1_milesAt cX1_milesAt 2 (some .int), Cond.methodLink RX0 87 yX0_doubleBack, Cond.instanceMethod yX0_doubleBack, Cond.selects RX0 yX0_doubleBack yX0_doubleBack, Cond.code yX0_doubleBack cX0_doubleBack 4 none, Cond.fieldLink RX0 137 "MapCarrier$Carrier" "doubled" "I", Cond.methodLink RX0 90 yX0_rememberWay, Cond.instanceMethod yX0_rememberWay, Cond.selects RX0 yX0_rememberWay yX0_rememberWay, Cond.code yX0_rememberWay cX0_rememberWay 2 none, Cond.methodLink RX0 140 yX2_confirm]
def wsL_act_r14 : List Cond := [Cond.instanceMethod yX2_confirm, Cond.selects RX2 yX2_confirm yX2_confirm, Cond.code yX2_confirm cX2_confirm 5 none, Cond.methodLink RX2 22 Lib.Math.min.name, Cond.methodLink RX2 27 yX2_learn]
def wsL_act : List Cond := .codeWith yL_act cL_act 10 (some .boolean) [(116, 122, 125, 30), (212, 224, 227, 30), (544, 550, 553, 30), (614, 622, 625, 30), (687, 695, 698, 30)] :: ((wsL_act_r1 ++ (wsL_act_r2 ++ (wsL_act_r3 ++ (wsL_act_r4 ++ (wsL_act_r5 ++ (wsL_act_r6 ++ (wsL_act_r7 ++ (wsL_act_r8 ++ (wsL_act_r9 ++ (wsL_act_r10 ++ (wsL_act_r11 ++ (wsL_act_r12 ++ (wsL_act_r13 ++ wsL_act_r14))))))))))))) ++ wsX40 ++ wsX30 ++ wsX10 ++ wsX00 ++ wsX20 ++ (vx_atS RX3 36 "java/lang/IllegalStateException" ["java/lang/RuntimeException", "java/lang/Exception"]).filter goodWord ++ (vx_atS RX3 47 "java/lang/IllegalArgumentException" ["java/lang/RuntimeException", "java/lang/Exception"]).filter goodWord ++ (vx_atS RX3 212 "java/lang/IndexOutOfBoundsException" ["java/lang/RuntimeException", "java/lang/Exception"]).filter goodWord)
def wsL_build_r1 : List Cond := [Cond.classLink RL 10 RX4, Cond.instantiable RX4 14, Cond.initialized RX4, Cond.fieldLink RL 9 "MapCarrierLaw$Sim" "exits" "[[I", Cond.fieldLink RL 46 "MapCarrierLaw$Sim" "shepherd" "[Z", Cond.instanceMethod yX4_init, Cond.code yX4_init cX4_init 1 none, Cond.methodLink RX4 1 objectInit, Cond.instanceMethod objectInit, Cond.code objectInit ⟨#[0xb1]⟩ 1 none, Cond.classLink RX4 7 "[I", Cond.fieldLink RX4 9 "MapCarrierLaw$Sim" "roads" "[[I", Cond.fieldLink RX4 15 "MapCarrierLaw$Sim" "exits" "[[I", Cond.arrayClass .boolean, Cond.fieldLink RX4 18 "MapCarrierLaw$Sim" "shepherd" "[Z", Cond.fieldLink RX4 22 "MapCarrierLaw$Sim" "isAsked" "[Z", Cond.fieldLink RX4 25 "MapCarrierLaw$Sim" "where" "I", Cond.fieldLink RX4 29 "MapCarrierLaw$Sim" "goal" "I", Cond.fieldLink RX4 32 "MapCarrierLaw$Sim" "way" "[[I", Cond.fieldLink RX4 37 "MapCarrierLaw$Sim" "memory" "[[[I", Cond.methodLink RL 104 yL_cell, Cond.static yL_cell, Cond.initialized RL, Cond.code yL_cell cL_cell 2 (some .int)]
def wsL_build_r2 : List Cond := [Cond.constant RL 8 (790386105), Cond.methodLink RL 15 yL_below, Cond.static yL_below, Cond.code yL_below cL_below 2 (some .int), Cond.constant RL 7 (2147483647), Cond.methodLink RL 21 yX4_place, Cond.instanceMethod yX4_place, Cond.selects RX4 yX4_place yX4_place, Cond.code yX4_place cX4_place 1 none, Cond.arrayClass .int, Cond.methodLink RX4 69 yX4_more, Cond.static yX4_more, Cond.code yX4_more cX4_more 4 (some (.array (.array .int))), Cond.methodLink RL 24 yX3_addPlace, Cond.instanceMethod yX3_addPlace, Cond.selects RX3 yX3_addPlace yX3_addPlace, Cond.initialized RX3, Cond.code yX3_addPlace cX3_addPlace 1 (some .int), Cond.classLink RX3 32 "java/lang/IllegalStateException", Cond.initialized "java/lang/IllegalStateException", Cond.fieldLink RX3 12 "MapCarrier" "land" "LMapCarrier$Land;", Cond.methodLink RL 36 yX3_addRoad, Cond.instanceMethod yX3_addRoad, Cond.selects RX3 yX3_addRoad yX3_addRoad]
def wsL_build_r3 : List Cond := [Cond.code yX3_addRoad cX3_addRoad 4 (some .int), Cond.classLink RX3 43 "java/lang/IllegalArgumentException", Cond.initialized "java/lang/IllegalArgumentException", Cond.methodLink RX3 39 yX3_checkPlace, Cond.instanceMethod yX3_checkPlace, Cond.selects RX3 yX3_checkPlace yX3_checkPlace, Cond.code yX3_checkPlace cX3_checkPlace 2 none, Cond.classLink RX3 208 "java/lang/IndexOutOfBoundsException", Cond.initialized "java/lang/IndexOutOfBoundsException", Cond.methodLink RX3 205 yX1_isPlace, Cond.instanceMethod yX1_isPlace, Cond.selects RX1 yX1_isPlace yX1_isPlace, Cond.initialized RX1, Cond.code yX1_isPlace cX1_isPlace 2 (some .boolean), Cond.fieldLink RX1 34 "MapCarrier$Land" "places" "I", Cond.methodLink RX3 48 yX3_checkRange, Cond.instanceMethod yX3_checkRange, Cond.selects RX3 yX3_checkRange yX3_checkRange, Cond.code yX3_checkRange cX3_checkRange 3 none, Cond.methodLink RX3 52 yX1_hasRoom, Cond.instanceMethod yX1_hasRoom, Cond.selects RX1 yX1_hasRoom yX1_hasRoom, Cond.code yX1_hasRoom cX1_hasRoom 2 (some .boolean), Cond.fieldLink RX1 9 "MapCarrier$Land" "exits" "[I"]
def wsL_build_r4 : List Cond := [Cond.methodLink RX1 38 yX1_isPlace, Cond.methodLink RX3 58 yX1_join, Cond.instanceMethod yX1_join, Cond.selects RX1 yX1_join yX1_join, Cond.code yX1_join cX1_join 7 (some .int), Cond.methodLink RX1 42 yX1_hasRoom, Cond.methodLink RX1 45 yX1_layEnd, Cond.instanceMethod yX1_layEnd, Cond.selects RX1 yX1_layEnd yX1_layEnd, Cond.code yX1_layEnd cX1_layEnd 4 none, Cond.fieldLink RX1 19 "MapCarrier$Land" "leads" "[I", Cond.fieldLink RX1 22 "MapCarrier$Land" "twins" "[I", Cond.fieldLink RX1 25 "MapCarrier$Land" "lengths" "[I", Cond.fieldLink RX1 28 "MapCarrier$Land" "open" "[Z", Cond.static yX3_placeOfEnd, Cond.code yX3_placeOfEnd cX3_placeOfEnd 1 (some .int), Cond.methodLink RL 32 yX4_road, Cond.instanceMethod yX4_road, Cond.selects RX4 yX4_road yX4_road, Cond.code yX4_road cX4_road 4 (some .int), Cond.methodLink RX4 73 yX4_more_, Cond.static yX4_more_, Cond.code yX4_more_ cX4_more_ 4 (some (.array .int)), Cond.methodLink RL 50 yX3_turnShepherd]
def wsL_build_r5 : List Cond := [Cond.instanceMethod yX3_turnShepherd, Cond.selects RX3 yX3_turnShepherd yX3_turnShepherd, Cond.code yX3_turnShepherd cX3_turnShepherd 2 (some .boolean)]
def wsL_build : List Cond := .code yL_build cL_build 9 (some (.object "MapCarrierLaw$Sim")) :: ((wsL_build_r1 ++ (wsL_build_r2 ++ (wsL_build_r3 ++ (wsL_build_r4 ++ wsL_build_r5)))) ++ wsX40 ++ wsX30 ++ wsX10 ++ (vx_atS RX3 36 "java/lang/IllegalStateException" ["java/lang/RuntimeException", "java/lang/Exception"]).filter goodWord ++ (vx_atS RX3 47 "java/lang/IllegalArgumentException" ["java/lang/RuntimeException", "java/lang/Exception"]).filter goodWord ++ (vx_atS RX3 212 "java/lang/IndexOutOfBoundsException" ["java/lang/RuntimeException", "java/lang/Exception"]).filter goodWord)
def wsL_known_r1 : List Cond := [Cond.methodLink RL 161 yX3_remembered, Cond.instanceMethod yX3_remembered, Cond.selects RX3 yX3_remembered yX3_remembered, Cond.initialized RX3, Cond.code yX3_remembered cX3_remembered 3 (some .int), Cond.fieldLink RX3 21 "MapCarrier" "carrier" "LMapCarrier$Carrier;", Cond.methodLink RX3 39 yX3_checkPlace, Cond.instanceMethod yX3_checkPlace, Cond.selects RX3 yX3_checkPlace yX3_checkPlace, Cond.code yX3_checkPlace cX3_checkPlace 2 none, Cond.classLink RX3 208 "java/lang/IndexOutOfBoundsException", Cond.initialized "java/lang/IndexOutOfBoundsException", Cond.fieldLink RX3 12 "MapCarrier" "land" "LMapCarrier$Land;", Cond.methodLink RX3 205 yX1_isPlace, Cond.instanceMethod yX1_isPlace, Cond.selects RX1 yX1_isPlace yX1_isPlace, Cond.initialized RX1, Cond.code yX1_isPlace cX1_isPlace 2 (some .boolean), Cond.fieldLink RX1 34 "MapCarrier$Land" "places" "I", Cond.methodLink RX3 138 yX2_exitFor, Cond.instanceMethod yX2_exitFor, Cond.selects RX2 yX2_exitFor yX2_exitFor, Cond.initialized RX2, Cond.code yX2_exitFor cX2_exitFor 4 (some .int)]
def wsL_known_r2 : List Cond := [Cond.fieldLink RX2 15 "MapCarrier$Memory" "strengths" "[I", Cond.fieldLink RX2 9 "MapCarrier$Memory" "exits" "[I", Cond.methodLink RX2 18 yX2_spotOf, Cond.static yX2_spotOf, Cond.code yX2_spotOf cX2_spotOf 3 (some .int), Cond.methodLink RL 152 yX3_isOpen, Cond.instanceMethod yX3_isOpen, Cond.selects RX3 yX3_isOpen yX3_isOpen, Cond.code yX3_isOpen cX3_isOpen 3 (some .boolean), Cond.methodLink RX3 62 yX3_checkedEnd, Cond.instanceMethod yX3_checkedEnd, Cond.selects RX3 yX3_checkedEnd yX3_checkedEnd, Cond.code yX3_checkedEnd cX3_checkedEnd 4 (some .int), Cond.methodLink RX3 213 yX1_endAt, Cond.instanceMethod yX1_endAt, Cond.selects RX1 yX1_endAt yX1_endAt, Cond.code yX1_endAt cX1_endAt 4 (some .int), Cond.fieldLink RX1 9 "MapCarrier$Land" "exits" "[I", Cond.methodLink RX1 38 yX1_isPlace, Cond.methodLink RX3 129 yX1_opensAt, Cond.instanceMethod yX1_opensAt, Cond.selects RX1 yX1_opensAt yX1_opensAt, Cond.code yX1_opensAt cX1_opensAt 2 (some .boolean), Cond.fieldLink RX1 28 "MapCarrier$Land" "open" "[Z"]
def wsL_known_r3 : List Cond := [Cond.static yX3_isEnd, Cond.code yX3_isEnd cX3_isEnd 1 (some .boolean), Cond.methodLink RL 149 yX3_milesOf, Cond.instanceMethod yX3_milesOf, Cond.selects RX3 yX3_milesOf yX3_milesOf, Cond.code yX3_milesOf cX3_milesOf 3 (some .int), Cond.methodLink RX3 126 yX1_milesAt, Cond.instanceMethod yX1_milesAt, Cond.selects RX1 yX1_milesAt yX1_milesAt, Cond.code yX1_milesAt cX1_milesAt 2 (some .int), Cond.fieldLink RX1 25 "MapCarrier$Land" "lengths" "[I", Cond.methodLink RL 146 yX3_leadsTo, Cond.instanceMethod yX3_leadsTo, Cond.selects RX3 yX3_leadsTo yX3_leadsTo, Cond.code yX3_leadsTo cX3_leadsTo 3 (some .int), Cond.methodLink RX3 123 yX1_beyond, Cond.instanceMethod yX1_beyond, Cond.selects RX1 yX1_beyond yX1_beyond, Cond.code yX1_beyond cX1_beyond 2 (some .int), Cond.fieldLink RX1 19 "MapCarrier$Land" "leads" "[I"]
def wsL_known : List Cond := .code yL_known cL_known 7 (some .int) :: ((wsL_known_r1 ++ (wsL_known_r2 ++ wsL_known_r3)) ++ wsX30 ++ wsX00 ++ wsX10 ++ wsX20 ++ (vx_atS RX3 212 "java/lang/IndexOutOfBoundsException" ["java/lang/RuntimeException", "java/lang/Exception"]).filter goodWord)
def wsL_law0_r1 : List Cond := [Cond.classLink RL 25 RX3, Cond.instantiable RX3 3, Cond.initialized RX3, Cond.methodLink RL 108 yX3_init, Cond.instanceMethod yX3_init, Cond.code yX3_init cX3_init 1 none, Cond.methodLink RX3 3 objectInit, Cond.instanceMethod objectInit, Cond.code objectInit ⟨#[0xb1]⟩ 1 none, Cond.classLink RX3 9 RX1, Cond.instantiable RX1 8, Cond.initialized RX1, Cond.fieldLink RX3 12 "MapCarrier" "land" "LMapCarrier$Land;", Cond.classLink RX3 16 RX0, Cond.instantiable RX0 15, Cond.initialized RX0, Cond.fieldLink RX3 21 "MapCarrier" "carrier" "LMapCarrier$Carrier;", Cond.fieldLink RX3 25 "MapCarrier" "trial" "LMapCarrier$Carrier;", Cond.instanceMethod yX1_init, Cond.code yX1_init cX1_init 1 none, Cond.methodLink RX1 3 objectInit, Cond.arrayClass .int, Cond.fieldLink RX1 9 "MapCarrier$Land" "exits" "[I", Cond.arrayClass .boolean]
def wsL_law0_r2 : List Cond := [Cond.fieldLink RX1 15 "MapCarrier$Land" "shepherds" "[Z", Cond.fieldLink RX1 19 "MapCarrier$Land" "leads" "[I", Cond.fieldLink RX1 22 "MapCarrier$Land" "twins" "[I", Cond.fieldLink RX1 25 "MapCarrier$Land" "lengths" "[I", Cond.fieldLink RX1 28 "MapCarrier$Land" "open" "[Z", Cond.fieldLink RX1 31 "MapCarrier$Land" "far" "[I", Cond.methodLink RX3 18 yX0_init, Cond.instanceMethod yX0_init, Cond.code yX0_init cX0_init 2 none, Cond.methodLink RX0 3 objectInit, Cond.classLink RX0 9 RX2, Cond.instantiable RX2 2, Cond.initialized RX2, Cond.fieldLink RX0 12 "MapCarrier$Carrier" "memory" "LMapCarrier$Memory;", Cond.fieldLink RX0 18 "MapCarrier$Carrier" "goal" "I", Cond.fieldLink RX0 22 "MapCarrier$Carrier" "way" "[I", Cond.fieldLink RX0 26 "MapCarrier$Carrier" "tried" "[Z", Cond.fieldLink RX0 30 "MapCarrier$Carrier" "askedAt" "[Z", Cond.fieldLink RX0 33 "MapCarrier$Carrier" "guest" "I", Cond.fieldLink RX0 36 "MapCarrier$Carrier" "land" "LMapCarrier$Land;", Cond.instanceMethod yX2_init, Cond.code yX2_init cX2_init 1 none, Cond.methodLink RX2 3 objectInit, Cond.fieldLink RX2 9 "MapCarrier$Memory" "exits" "[I"]
def wsL_law0_r3 : List Cond := [Cond.fieldLink RX2 15 "MapCarrier$Memory" "strengths" "[I", Cond.methodLink RL 109 yL_build, Cond.static yL_build, Cond.initialized RL, Cond.code yL_build cL_build 9 (some (.object "MapCarrierLaw$Sim")), Cond.classLink RL 10 RX4, Cond.instantiable RX4 14, Cond.initialized RX4, Cond.fieldLink RL 9 "MapCarrierLaw$Sim" "exits" "[[I", Cond.fieldLink RL 46 "MapCarrierLaw$Sim" "shepherd" "[Z", Cond.instanceMethod yX4_init, Cond.code yX4_init cX4_init 1 none, Cond.methodLink RX4 1 objectInit, Cond.classLink RX4 7 "[I", Cond.fieldLink RX4 9 "MapCarrierLaw$Sim" "roads" "[[I", Cond.fieldLink RX4 15 "MapCarrierLaw$Sim" "exits" "[[I", Cond.fieldLink RX4 18 "MapCarrierLaw$Sim" "shepherd" "[Z", Cond.fieldLink RX4 22 "MapCarrierLaw$Sim" "isAsked" "[Z", Cond.fieldLink RX4 25 "MapCarrierLaw$Sim" "where" "I", Cond.fieldLink RX4 29 "MapCarrierLaw$Sim" "goal" "I", Cond.fieldLink RX4 32 "MapCarrierLaw$Sim" "way" "[[I", Cond.fieldLink RX4 37 "MapCarrierLaw$Sim" "memory" "[[[I", Cond.methodLink RL 104 yL_cell, Cond.static yL_cell]
def wsL_law0_r4 : List Cond := [Cond.code yL_cell cL_cell 2 (some .int), Cond.constant RL 8 (790386105), Cond.methodLink RL 15 yL_below, Cond.static yL_below, Cond.code yL_below cL_below 2 (some .int), Cond.constant RL 7 (2147483647), Cond.methodLink RL 21 yX4_place, Cond.instanceMethod yX4_place, Cond.selects RX4 yX4_place yX4_place, Cond.code yX4_place cX4_place 1 none, Cond.methodLink RX4 69 yX4_more, Cond.static yX4_more, Cond.code yX4_more cX4_more 4 (some (.array (.array .int))), Cond.methodLink RL 24 yX3_addPlace, Cond.instanceMethod yX3_addPlace, Cond.selects RX3 yX3_addPlace yX3_addPlace, Cond.code yX3_addPlace cX3_addPlace 1 (some .int), Cond.classLink RX3 32 "java/lang/IllegalStateException", Cond.initialized "java/lang/IllegalStateException", Cond.methodLink RL 36 yX3_addRoad, Cond.instanceMethod yX3_addRoad, Cond.selects RX3 yX3_addRoad yX3_addRoad, Cond.code yX3_addRoad cX3_addRoad 4 (some .int), Cond.classLink RX3 43 "java/lang/IllegalArgumentException"]
def wsL_law0_r5 : List Cond := [Cond.initialized "java/lang/IllegalArgumentException", Cond.methodLink RX3 39 yX3_checkPlace, Cond.instanceMethod yX3_checkPlace, Cond.selects RX3 yX3_checkPlace yX3_checkPlace, Cond.code yX3_checkPlace cX3_checkPlace 2 none, Cond.classLink RX3 208 "java/lang/IndexOutOfBoundsException", Cond.initialized "java/lang/IndexOutOfBoundsException", Cond.methodLink RX3 205 yX1_isPlace, Cond.instanceMethod yX1_isPlace, Cond.selects RX1 yX1_isPlace yX1_isPlace, Cond.code yX1_isPlace cX1_isPlace 2 (some .boolean), Cond.fieldLink RX1 34 "MapCarrier$Land" "places" "I", Cond.methodLink RX3 48 yX3_checkRange, Cond.instanceMethod yX3_checkRange, Cond.selects RX3 yX3_checkRange yX3_checkRange, Cond.code yX3_checkRange cX3_checkRange 3 none, Cond.methodLink RX3 52 yX1_hasRoom, Cond.instanceMethod yX1_hasRoom, Cond.selects RX1 yX1_hasRoom yX1_hasRoom, Cond.code yX1_hasRoom cX1_hasRoom 2 (some .boolean), Cond.methodLink RX1 38 yX1_isPlace, Cond.methodLink RX3 58 yX1_join, Cond.instanceMethod yX1_join, Cond.selects RX1 yX1_join yX1_join]
def wsL_law0_r6 : List Cond := [Cond.code yX1_join cX1_join 7 (some .int), Cond.methodLink RX1 42 yX1_hasRoom, Cond.methodLink RX1 45 yX1_layEnd, Cond.instanceMethod yX1_layEnd, Cond.selects RX1 yX1_layEnd yX1_layEnd, Cond.code yX1_layEnd cX1_layEnd 4 none, Cond.static yX3_placeOfEnd, Cond.code yX3_placeOfEnd cX3_placeOfEnd 1 (some .int), Cond.methodLink RL 32 yX4_road, Cond.instanceMethod yX4_road, Cond.selects RX4 yX4_road yX4_road, Cond.code yX4_road cX4_road 4 (some .int), Cond.methodLink RX4 73 yX4_more_, Cond.static yX4_more_, Cond.code yX4_more_ cX4_more_ 4 (some (.array .int)), Cond.methodLink RL 50 yX3_turnShepherd, Cond.instanceMethod yX3_turnShepherd, Cond.selects RX3 yX3_turnShepherd yX3_turnShepherd, Cond.code yX3_turnShepherd cX3_turnShepherd 2 (some .boolean), Cond.methodLink RL 113 yL_act, Cond.static yL_act, Cond.codeWith yL_act cL_act 10 (some .boolean) [(116, 122, 125, 30), (212, 224, 227, 30), (544, 550, 553, 30), (614, 622, 625, 30), (687, 695, 698, 30)], Cond.classLink RL 30 "java/lang/IllegalStateException", Cond.fieldLink RL 39 "MapCarrierLaw$Sim" "roads" "[[I"]
def wsL_law0_r7 : List Cond := [Cond.fieldLink RL 54 "MapCarrierLaw$Sim" "coins" "I", Cond.methodLink RL 58 Lib.Math.min.name, Cond.static Lib.Math.min.name, Cond.initialized "java/lang/Math", Cond.code Lib.Math.min.name Lib.Math.min.code 2 (some .int), Cond.fieldLink RL 73 "MapCarrierLaw$Sim" "goal" "I", Cond.fieldLink RL 76 "MapCarrierLaw$Sim" "way" "[[I", Cond.fieldLink RL 85 "MapCarrierLaw$Sim" "where" "I", Cond.methodLink RL 42 yX3_turnRoad, Cond.instanceMethod yX3_turnRoad, Cond.selects RX3 yX3_turnRoad yX3_turnRoad, Cond.code yX3_turnRoad cX3_turnRoad 3 (some .boolean), Cond.methodLink RX3 62 yX3_checkedEnd, Cond.instanceMethod yX3_checkedEnd, Cond.selects RX3 yX3_checkedEnd yX3_checkedEnd, Cond.code yX3_checkedEnd cX3_checkedEnd 4 (some .int), Cond.methodLink RX3 213 yX1_endAt, Cond.instanceMethod yX1_endAt, Cond.selects RX1 yX1_endAt yX1_endAt, Cond.code yX1_endAt cX1_endAt 4 (some .int), Cond.methodLink RX3 66 yX1_turnEnd, Cond.instanceMethod yX1_turnEnd, Cond.selects RX1 yX1_turnEnd yX1_turnEnd, Cond.code yX1_turnEnd cX1_turnEnd 4 (some .boolean)]
def wsL_law0_r8 : List Cond := [Cond.methodLink RX1 53 yX1_twinOf, Cond.instanceMethod yX1_twinOf, Cond.selects RX1 yX1_twinOf yX1_twinOf, Cond.code yX1_twinOf cX1_twinOf 2 (some .int), Cond.static yX3_isEnd, Cond.code yX3_isEnd cX3_isEnd 1 (some .boolean), Cond.methodLink RL 63 yX3_pay, Cond.instanceMethod yX3_pay, Cond.selects RX3 yX3_pay yX3_pay, Cond.code yX3_pay cX3_pay 2 (some .int), Cond.methodLink RX3 76 Lib.Math.min.name, Cond.methodLink RL 67 yX4_night, Cond.instanceMethod yX4_night, Cond.selects RX4 yX4_night yX4_night, Cond.code yX4_night cX4_night 8 (some .int), Cond.methodLink RL 70 yX3_sleep, Cond.instanceMethod yX3_sleep, Cond.selects RX3 yX3_sleep yX3_sleep, Cond.code yX3_sleep cX3_sleep 2 (some .int), Cond.methodLink RX3 113 yX2_fade, Cond.instanceMethod yX2_fade, Cond.selects RX2 yX2_fade yX2_fade, Cond.code yX2_fade cX2_fade 5 (some .int), Cond.methodLink RX2 31 Lib.Math.max.name]
def wsL_law0_r9 : List Cond := [Cond.static Lib.Math.max.name, Cond.code Lib.Math.max.name Lib.Math.max.code 2 (some .int), Cond.methodLink RL 79 yX4_over, Cond.instanceMethod yX4_over, Cond.selects RX4 yX4_over yX4_over, Cond.code yX4_over cX4_over 5 none, Cond.methodLink RL 82 yX3_giveUp, Cond.instanceMethod yX3_giveUp, Cond.selects RX3 yX3_giveUp yX3_giveUp, Cond.code yX3_giveUp cX3_giveUp 2 (some .int), Cond.methodLink RX3 93 yX3_checkUnderway, Cond.instanceMethod yX3_checkUnderway, Cond.selects RX3 yX3_checkUnderway yX3_checkUnderway, Cond.code yX3_checkUnderway cX3_checkUnderway 1 none, Cond.methodLink RX3 96 yX0_isUnderway, Cond.instanceMethod yX0_isUnderway, Cond.selects RX0 yX0_isUnderway yX0_isUnderway, Cond.code yX0_isUnderway cX0_isUnderway 1 (some .boolean), Cond.methodLink RX3 106 yX0_endErrand, Cond.instanceMethod yX0_endErrand, Cond.selects RX0 yX0_endErrand yX0_endErrand, Cond.code yX0_endErrand cX0_endErrand 1 none, Cond.fieldLink RX0 64 "MapCarrier$Carrier" "wayLength" "I", Cond.methodLink RL 88 yX4_far]
def wsL_law0_r10 : List Cond := [Cond.instanceMethod yX4_far, Cond.selects RX4 yX4_far yX4_far, Cond.code yX4_far cX4_far 9 (some .int), Cond.methodLink RX4 76 Lib.Math.min.name, Cond.methodLink RL 91 yX4_begin, Cond.instanceMethod yX4_begin, Cond.selects RX4 yX4_begin yX4_begin, Cond.code yX4_begin cX4_begin 2 (some .boolean), Cond.fieldLink RX4 59 "MapCarrierLaw$Sim" "done" "I", Cond.methodLink RX4 82 yX4_over, Cond.methodLink RL 94 yX3_beginErrand, Cond.instanceMethod yX3_beginErrand, Cond.selects RX3 yX3_beginErrand yX3_beginErrand, Cond.code yX3_beginErrand cX3_beginErrand 3 (some .int), Cond.methodLink RX3 81 yX3_checkIdle, Cond.instanceMethod yX3_checkIdle, Cond.selects RX3 yX3_checkIdle yX3_checkIdle, Cond.code yX3_checkIdle cX3_checkIdle 1 none, Cond.methodLink RX3 87 yX1_shortest, Cond.instanceMethod yX1_shortest, Cond.selects RX1 yX1_shortest yX1_shortest, Cond.code yX1_shortest cX1_shortest 3 (some .int), Cond.constant RX1 63 (1000000), Cond.methodLink RX1 59 yX1_measure]
def wsL_law0_r11 : List Cond := [Cond.instanceMethod yX1_measure, Cond.selects RX1 yX1_measure yX1_measure, Cond.code yX1_measure cX1_measure 6 none, Cond.methodLink RX1 67 yJ7_fill_53178, Cond.static yJ7_fill_53178, Cond.initialized RJ7, Cond.code yJ7_fill_53178 cJ7_fill_53178 4 none, Cond.methodLink RX1 64 yX1_milesBy, Cond.instanceMethod yX1_milesBy, Cond.selects RX1 yX1_milesBy yX1_milesBy, Cond.code yX1_milesBy cX1_milesBy 3 (some .int), Cond.methodLink RX3 90 yX0_begin, Cond.instanceMethod yX0_begin, Cond.selects RX0 yX0_begin yX0_begin, Cond.code yX0_begin cX0_begin 2 none, Cond.fieldLink RX0 40 "MapCarrier$Carrier" "at" "I", Cond.fieldLink RX0 67 "MapCarrier$Carrier" "done" "I", Cond.methodLink RX0 60 yX0_forget, Cond.static yX0_forget, Cond.code yX0_forget cX0_forget 2 none, Cond.methodLink RX0 70 yX0_endErrand, Cond.methodLink RL 97 yX4_go, Cond.instanceMethod yX4_go, Cond.selects RX4 yX4_go yX4_go]
def wsL_law0_r12 : List Cond := [Cond.code yX4_go cX4_go 3 (some .int), Cond.methodLink RX4 99 yX4_step, Cond.instanceMethod yX4_step, Cond.selects RX4 yX4_step yX4_step, Cond.code yX4_step cX4_step 7 (some .boolean), Cond.fieldLink RX4 53 "MapCarrierLaw$Sim" "walked" "I", Cond.fieldLink RX4 62 "MapCarrierLaw$Sim" "vain" "I", Cond.fieldLink RX4 56 "MapCarrierLaw$Sim" "doubled" "I", Cond.methodLink RX4 95 yX4_chosen, Cond.instanceMethod yX4_chosen, Cond.selects RX4 yX4_chosen yX4_chosen, Cond.code yX4_chosen cX4_chosen 7 (some .int), Cond.fieldLink RX4 50 "MapCarrierLaw$Sim" "coins" "I", Cond.fieldLink RX4 65 "MapCarrierLaw$Sim" "asked" "I", Cond.methodLink RX4 85 yX4_isFree, Cond.instanceMethod yX4_isFree, Cond.selects RX4 yX4_isFree yX4_isFree, Cond.code yX4_isFree cX4_isFree 2 (some .boolean), Cond.methodLink RX4 89 yX4_to, Cond.instanceMethod yX4_to, Cond.selects RX4 yX4_to yX4_to, Cond.code yX4_to cX4_to 4 (some .int), Cond.methodLink RX4 92 yX4_far, Cond.methodLink RL 100 yX3_goOn]
def wsL_law0_r13 : List Cond := [Cond.instanceMethod yX3_goOn, Cond.selects RX3 yX3_goOn yX3_goOn, Cond.code yX3_goOn cX3_goOn 3 (some .int), Cond.methodLink RX3 100 yX0_step, Cond.instanceMethod yX0_step, Cond.selects RX0 yX0_step yX0_step, Cond.code yX0_step cX0_step 2 (some .boolean), Cond.fieldLink RX0 53 "MapCarrier$Carrier" "inVain" "I", Cond.methodLink RX0 73 yX0_rememberedEnd, Cond.instanceMethod yX0_rememberedEnd, Cond.selects RX0 yX0_rememberedEnd yX0_rememberedEnd, Cond.code yX0_rememberedEnd cX0_rememberedEnd 2 (some .int), Cond.methodLink RX0 98 yX2_exitFor, Cond.instanceMethod yX2_exitFor, Cond.selects RX2 yX2_exitFor yX2_exitFor, Cond.code yX2_exitFor cX2_exitFor 4 (some .int), Cond.methodLink RX2 18 yX2_spotOf, Cond.static yX2_spotOf, Cond.code yX2_spotOf cX2_spotOf 3 (some .int), Cond.methodLink RX0 102 yX1_endAt, Cond.methodLink RX0 105 yX0_canTake, Cond.instanceMethod yX0_canTake, Cond.selects RX0 yX0_canTake yX0_canTake, Cond.code yX0_canTake cX0_canTake 2 (some .boolean)]
def wsL_law0_r14 : List Cond := [Cond.methodLink RX0 77 yX0_askedEnd, Cond.instanceMethod yX0_askedEnd, Cond.selects RX0 yX0_askedEnd yX0_askedEnd, Cond.code yX0_askedEnd cX0_askedEnd 3 (some .int), Cond.fieldLink RX0 43 "MapCarrier$Carrier" "coins" "I", Cond.fieldLink RX0 114 "MapCarrier$Carrier" "questions" "I", Cond.methodLink RX0 108 yX1_isPlace, Cond.methodLink RX0 117 yX1_endTowards, Cond.instanceMethod yX1_endTowards, Cond.selects RX1 yX1_endTowards yX1_endTowards, Cond.code yX1_endTowards cX1_endTowards 5 (some .int), Cond.static yX3_exitOfEnd, Cond.code yX3_exitOfEnd cX3_exitOfEnd 1 (some .int), Cond.methodLink RX0 124 yX2_learn, Cond.instanceMethod yX2_learn, Cond.selects RX2 yX2_learn yX2_learn, Cond.code yX2_learn cX2_learn 5 none, Cond.methodLink RX0 80 yX0_firstUntried, Cond.instanceMethod yX0_firstUntried, Cond.selects RX0 yX0_firstUntried yX0_firstUntried, Cond.code yX0_firstUntried cX0_firstUntried 3 (some .int), Cond.methodLink RX0 83 yX0_take, Cond.instanceMethod yX0_take, Cond.selects RX0 yX0_take yX0_take]
def wsL_law0_r15 : List Cond := [Cond.code yX0_take cX0_take 3 none, Cond.fieldLink RX0 50 "MapCarrier$Carrier" "walked" "I", Cond.methodLink RX0 128 yX1_twinOf, Cond.methodLink RX0 131 yX1_milesAt, Cond.instanceMethod yX1_milesAt, Cond.selects RX1 yX1_milesAt yX1_milesAt, Cond.code yX1_milesAt cX1_milesAt 2 (some .int), Cond.methodLink RX0 87 yX0_doubleBack, Cond.instanceMethod yX0_doubleBack, Cond.selects RX0 yX0_doubleBack yX0_doubleBack, Cond.code yX0_doubleBack cX0_doubleBack 4 none, Cond.fieldLink RX0 137 "MapCarrier$Carrier" "doubled" "I", Cond.methodLink RX0 90 yX0_rememberWay, Cond.instanceMethod yX0_rememberWay, Cond.selects RX0 yX0_rememberWay yX0_rememberWay, Cond.code yX0_rememberWay cX0_rememberWay 2 none, Cond.methodLink RX0 140 yX2_confirm, Cond.instanceMethod yX2_confirm, Cond.selects RX2 yX2_confirm yX2_confirm, Cond.code yX2_confirm cX2_confirm 5 none, Cond.methodLink RX2 22 Lib.Math.min.name, Cond.methodLink RX2 27 yX2_learn, Cond.methodLink RL 117 yX3_digest, Cond.instanceMethod yX3_digest]
def wsL_law0_r16 : List Cond := [Cond.selects RX3 yX3_digest yX3_digest, Cond.code yX3_digest cX3_digest 3 (some .long), Cond.constantLong RX3 165 (1873), Cond.methodLink RX3 167 yX3_places, Cond.instanceMethod yX3_places, Cond.selects RX3 yX3_places yX3_places, Cond.code yX3_places cX3_places 1 (some .int), Cond.methodLink RX3 170 yX3_mix, Cond.static yX3_mix, Cond.code yX3_mix cX3_mix 4 (some .long), Cond.constantLong RX3 228 (31), Cond.methodLink RX3 174 yX3_whereIs, Cond.instanceMethod yX3_whereIs, Cond.selects RX3 yX3_whereIs yX3_whereIs, Cond.code yX3_whereIs cX3_whereIs 1 (some .int), Cond.methodLink RX3 177 yX3_coins, Cond.instanceMethod yX3_coins, Cond.selects RX3 yX3_coins yX3_coins, Cond.code yX3_coins cX3_coins 1 (some .int), Cond.methodLink RX3 179 yX3_goal, Cond.instanceMethod yX3_goal, Cond.selects RX3 yX3_goal yX3_goal, Cond.code yX3_goal cX3_goal 1 (some .int), Cond.methodLink RX3 181 yX3_wayLength]
def wsL_law0_r17 : List Cond := [Cond.instanceMethod yX3_wayLength, Cond.selects RX3 yX3_wayLength yX3_wayLength, Cond.code yX3_wayLength cX3_wayLength 1 (some .int), Cond.methodLink RX3 183 yX3_milesWalked, Cond.instanceMethod yX3_milesWalked, Cond.selects RX3 yX3_milesWalked yX3_milesWalked, Cond.code yX3_milesWalked cX3_milesWalked 1 (some .int), Cond.methodLink RX3 186 yX3_milesDoubled, Cond.instanceMethod yX3_milesDoubled, Cond.selects RX3 yX3_milesDoubled yX3_milesDoubled, Cond.code yX3_milesDoubled cX3_milesDoubled 1 (some .int), Cond.methodLink RX3 189 yX3_errandsDone, Cond.instanceMethod yX3_errandsDone, Cond.selects RX3 yX3_errandsDone yX3_errandsDone, Cond.code yX3_errandsDone cX3_errandsDone 1 (some .int), Cond.methodLink RX3 192 yX3_errandsInVain, Cond.instanceMethod yX3_errandsInVain, Cond.selects RX3 yX3_errandsInVain yX3_errandsInVain, Cond.code yX3_errandsInVain cX3_errandsInVain 1 (some .int), Cond.methodLink RX3 195 yX3_asked, Cond.instanceMethod yX3_asked, Cond.selects RX3 yX3_asked yX3_asked, Cond.code yX3_asked cX3_asked 1 (some .int), Cond.methodLink RX3 198 yX3_mixPlaces]
def wsL_law0_r18 : List Cond := [Cond.instanceMethod yX3_mixPlaces, Cond.selects RX3 yX3_mixPlaces yX3_mixPlaces, Cond.code yX3_mixPlaces cX3_mixPlaces 7 (some .long), Cond.methodLink RX3 230 yX3_hasShepherd, Cond.instanceMethod yX3_hasShepherd, Cond.selects RX3 yX3_hasShepherd yX3_hasShepherd, Cond.code yX3_hasShepherd cX3_hasShepherd 2 (some .boolean), Cond.methodLink RX3 233 yX3_mixFlag, Cond.static yX3_mixFlag, Cond.code yX3_mixFlag cX3_mixFlag 3 (some .long), Cond.methodLink RX3 237 yX3_exitsOf, Cond.instanceMethod yX3_exitsOf, Cond.selects RX3 yX3_exitsOf yX3_exitsOf, Cond.code yX3_exitsOf cX3_exitsOf 2 (some .int), Cond.methodLink RX3 240 yX3_leadsTo, Cond.instanceMethod yX3_leadsTo, Cond.selects RX3 yX3_leadsTo yX3_leadsTo, Cond.code yX3_leadsTo cX3_leadsTo 3 (some .int), Cond.methodLink RX3 123 yX1_beyond, Cond.instanceMethod yX1_beyond, Cond.selects RX1 yX1_beyond yX1_beyond, Cond.code yX1_beyond cX1_beyond 2 (some .int), Cond.methodLink RX3 243 yX3_milesOf, Cond.instanceMethod yX3_milesOf]
def wsL_law0_r19 : List Cond := [Cond.selects RX3 yX3_milesOf yX3_milesOf, Cond.code yX3_milesOf cX3_milesOf 3 (some .int), Cond.methodLink RX3 126 yX1_milesAt, Cond.methodLink RX3 246 yX3_isOpen, Cond.instanceMethod yX3_isOpen, Cond.selects RX3 yX3_isOpen yX3_isOpen, Cond.code yX3_isOpen cX3_isOpen 3 (some .boolean), Cond.methodLink RX3 129 yX1_opensAt, Cond.instanceMethod yX1_opensAt, Cond.selects RX1 yX1_opensAt yX1_opensAt, Cond.code yX1_opensAt cX1_opensAt 2 (some .boolean), Cond.methodLink RX3 250 yX3_isTried, Cond.instanceMethod yX3_isTried, Cond.selects RX3 yX3_isTried yX3_isTried, Cond.code yX3_isTried cX3_isTried 4 (some .boolean), Cond.methodLink RX3 135 yX0_hasTried, Cond.instanceMethod yX0_hasTried, Cond.selects RX0 yX0_hasTried yX0_hasTried, Cond.code yX0_hasTried cX0_hasTried 2 (some .boolean), Cond.methodLink RX3 202 yX3_mixMemory, Cond.instanceMethod yX3_mixMemory, Cond.selects RX3 yX3_mixMemory yX3_mixMemory, Cond.code yX3_mixMemory cX3_mixMemory 7 (some .long), Cond.methodLink RX3 253 yX3_remembered]
def wsL_law0_r20 : List Cond := [Cond.instanceMethod yX3_remembered, Cond.selects RX3 yX3_remembered yX3_remembered, Cond.code yX3_remembered cX3_remembered 3 (some .int), Cond.methodLink RX3 138 yX2_exitFor, Cond.methodLink RX3 256 yX3_strength, Cond.instanceMethod yX3_strength, Cond.selects RX3 yX3_strength yX3_strength, Cond.code yX3_strength cX3_strength 3 (some .int), Cond.methodLink RX3 141 yX2_strengthFor, Cond.instanceMethod yX2_strengthFor, Cond.selects RX2 yX2_strengthFor yX2_strengthFor, Cond.code yX2_strengthFor cX2_strengthFor 4 (some .int), Cond.methodLink RL 121 yX3_places, Cond.methodLink RL 124 yX3_goal, Cond.methodLink RL 126 yX3_milesDoubled, Cond.methodLink RL 129 yX3_milesWalked, Cond.methodLink RL 132 yX3_coins, Cond.methodLink RL 134 yX3_wayLength, Cond.methodLink RL 137 yX3_whereIs, Cond.methodLink RL 140 yX3_knowsWay, Cond.instanceMethod yX3_knowsWay, Cond.selects RX3 yX3_knowsWay yX3_knowsWay, Cond.code yX3_knowsWay cX3_knowsWay 2 (some .boolean), Cond.methodLink RX3 144 yX0_findsByMemory]
def wsL_law0_r21 : List Cond := [Cond.instanceMethod yX0_findsByMemory, Cond.selects RX0 yX0_findsByMemory yX0_findsByMemory, Cond.code yX0_findsByMemory cX0_findsByMemory 5 (some .boolean), Cond.methodLink RX0 143 yX1_opensAt, Cond.methodLink RX0 146 yX1_beyond, Cond.methodLink RL 143 yX3_exitsOf, Cond.methodLink RL 146 yX3_leadsTo, Cond.methodLink RL 149 yX3_milesOf, Cond.methodLink RL 152 yX3_isOpen, Cond.methodLink RL 155 yX3_isTried, Cond.methodLink RL 158 yX3_distance, Cond.instanceMethod yX3_distance, Cond.selects RX3 yX3_distance yX3_distance, Cond.code yX3_distance cX3_distance 3 (some .int), Cond.methodLink RL 161 yX3_remembered, Cond.methodLink RL 164 yX3_strength, Cond.methodLink RL 167 yX3_wouldWalk, Cond.instanceMethod yX3_wouldWalk, Cond.selects RX3 yX3_wouldWalk yX3_wouldWalk, Cond.code yX3_wouldWalk cX3_wouldWalk 2 (some .int), Cond.methodLink RX3 162 yX3_trialMiles, Cond.instanceMethod yX3_trialMiles, Cond.selects RX3 yX3_trialMiles yX3_trialMiles, Cond.code yX3_trialMiles cX3_trialMiles 4 (some .int)]
def wsL_law0_r22 : List Cond := [Cond.methodLink RX3 224 yX0_startLike, Cond.instanceMethod yX0_startLike, Cond.selects RX0 yX0_startLike yX0_startLike, Cond.code yX0_startLike cX0_startLike 3 none, Cond.methodLink RX0 46 yX2_copyFrom, Cond.instanceMethod yX2_copyFrom, Cond.selects RX2 yX2_copyFrom yX2_copyFrom, Cond.code yX2_copyFrom cX2_copyFrom 2 none, Cond.methodLink RX2 34 arraycopyName, Cond.native arraycopyName, Cond.static arraycopyName, Cond.initialized "java/lang/System", Cond.methodLink RL 170 yL_known, Cond.static yL_known, Cond.code yL_known cL_known 7 (some .int), Cond.methodLink RL 174 yX3_bestShepherd, Cond.instanceMethod yX3_bestShepherd, Cond.selects RX3 yX3_bestShepherd yX3_bestShepherd, Cond.code yX3_bestShepherd cX3_bestShepherd 6 (some .int), Cond.methodLink RL 177 yX3_hasShepherd, Cond.methodLink RL 180 yX3_errandsDone, Cond.methodLink RL 183 yX3_errandsInVain, Cond.methodLink RL 186 yX4_isSame, Cond.instanceMethod yX4_isSame]
def wsL_law0_r23 : List Cond := [Cond.selects RX4 yX4_isSame yX4_isSame, Cond.code yX4_isSame cX4_isSame 7 (some .boolean), Cond.methodLink RX4 103 yX3_places, Cond.methodLink RX4 108 yX3_whereIs, Cond.methodLink RX4 111 yX3_coins, Cond.methodLink RX4 113 yX3_goal, Cond.methodLink RX4 115 yX3_wayLength, Cond.methodLink RX4 118 yX3_milesWalked, Cond.methodLink RX4 121 yX3_milesDoubled, Cond.methodLink RX4 124 yX3_errandsDone, Cond.methodLink RX4 127 yX3_errandsInVain, Cond.methodLink RX4 130 yX3_asked, Cond.methodLink RX4 132 yX3_exitsOf, Cond.methodLink RX4 136 yX3_hasShepherd, Cond.methodLink RX4 139 yX3_knowsWay, Cond.methodLink RX4 142 yX4_knows, Cond.instanceMethod yX4_knows, Cond.selects RX4 yX4_knows yX4_knows, Cond.code yX4_knows cX4_knows 5 (some .boolean), Cond.methodLink RX4 145 yX3_leadsTo, Cond.methodLink RX4 148 yX3_milesOf, Cond.methodLink RX4 151 yX3_isOpen, Cond.methodLink RX4 155 yX3_isTried, Cond.methodLink RX4 158 yX3_remembered]
def wsL_law0_r24 : List Cond := [Cond.methodLink RX4 161 yX3_strength, Cond.methodLink RX4 164 yX3_distance, Cond.methodLink RX4 167 yX3_meanMiles, Cond.instanceMethod yX3_meanMiles, Cond.selects RX3 yX3_meanMiles yX3_meanMiles, Cond.code yX3_meanMiles cX3_meanMiles 2 (some .double)]
def wsL_law0 : List Cond := (wsL_law0_r1 ++ (wsL_law0_r2 ++ (wsL_law0_r3 ++ (wsL_law0_r4 ++ (wsL_law0_r5 ++ (wsL_law0_r6 ++ (wsL_law0_r7 ++ (wsL_law0_r8 ++ (wsL_law0_r9 ++ (wsL_law0_r10 ++ (wsL_law0_r11 ++ (wsL_law0_r12 ++ (wsL_law0_r13 ++ (wsL_law0_r14 ++ (wsL_law0_r15 ++ (wsL_law0_r16 ++ (wsL_law0_r17 ++ (wsL_law0_r18 ++ (wsL_law0_r19 ++ (wsL_law0_r20 ++ (wsL_law0_r21 ++ (wsL_law0_r22 ++ (wsL_law0_r23 ++ wsL_law0_r24))))))))))))))))))))))) ++ wsX30 ++ wsX10 ++ wsX00 ++ wsX20 ++ wsX40 ++ ([] : List Cond)
def wsL_law : List Cond := wsL_law0 ++ (vx_atS RX3 36 "java/lang/IllegalStateException" ["java/lang/RuntimeException", "java/lang/Exception"]).filter goodWord ++ (vx_atS RX3 47 "java/lang/IllegalArgumentException" ["java/lang/RuntimeException", "java/lang/Exception"]).filter goodWord ++ (vx_atS RX3 212 "java/lang/IndexOutOfBoundsException" ["java/lang/RuntimeException", "java/lang/Exception"]).filter goodWord
end
section
set_option maxRecDepth 20000 in
theorem wsL_in_r1 : ∀ w ∈ wsL_law0_r1, w ∈ lw_tbl := fun w h => (goodIn_p wsL_law0_r1 [40, 43, 48] (by decide +kernel) (by decide +kernel) w h).1
set_option maxRecDepth 20000 in
theorem wsL_in_r2 : ∀ w ∈ wsL_law0_r2, w ∈ lw_tbl := fun w h => (goodIn_p wsL_law0_r2 [86, 92] (by decide +kernel) (by decide +kernel) w h).1
set_option maxRecDepth 20000 in
theorem wsL_in_r3 : ∀ w ∈ wsL_law0_r3, w ∈ lw_tbl := fun w h => (goodIn_p wsL_law0_r3 [738, 742] (by decide +kernel) (by decide +kernel) w h).1
set_option maxRecDepth 20000 in
theorem wsL_in_r4 : ∀ w ∈ wsL_law0_r4, w ∈ lw_tbl := fun w h => (goodIn_p wsL_law0_r4 [658, 654, 667, 619, 671, 683] (by decide +kernel) (by decide +kernel) w h).1
set_option maxRecDepth 20000 in
theorem wsL_in_r5 : ∀ w ∈ wsL_law0_r5, w ∈ lw_tbl := fun w h => (goodIn_p wsL_law0_r5 [174, 178, 313, 688] (by decide +kernel) (by decide +kernel) w h).1
set_option maxRecDepth 20000 in
theorem wsL_cwAct : Cond.codeWith yL_act cL_act 10 (some .boolean) [(116, 122, 125, 30), (212, 224, 227, 30), (544, 550, 553, 30), (614, 622, 625, 30), (687, 695, 698, 30)] ∈ lw_tbl := List.mem_append_right _ (List.mem_append_right _ (List.mem_append_right _ (List.mem_append_left _ (List.mem_of_getElem? (l := tables_1_3) (i := 161) rfl))))
def wsL_r6a : List Cond := [Cond.code yX1_join cX1_join 7 (some .int), Cond.methodLink RX1 42 yX1_hasRoom, Cond.methodLink RX1 45 yX1_layEnd, Cond.instanceMethod yX1_layEnd, Cond.selects RX1 yX1_layEnd yX1_layEnd, Cond.code yX1_layEnd cX1_layEnd 4 none, Cond.static yX3_placeOfEnd, Cond.code yX3_placeOfEnd cX3_placeOfEnd 1 (some .int), Cond.methodLink RL 32 yX4_road, Cond.instanceMethod yX4_road, Cond.selects RX4 yX4_road yX4_road, Cond.code yX4_road cX4_road 4 (some .int), Cond.methodLink RX4 73 yX4_more_, Cond.static yX4_more_, Cond.code yX4_more_ cX4_more_ 4 (some (.array .int)), Cond.methodLink RL 50 yX3_turnShepherd, Cond.instanceMethod yX3_turnShepherd, Cond.selects RX3 yX3_turnShepherd yX3_turnShepherd, Cond.code yX3_turnShepherd cX3_turnShepherd 2 (some .boolean), Cond.methodLink RL 113 yL_act, Cond.static yL_act]
def wsL_r6b : List Cond := [Cond.classLink RL 30 "java/lang/IllegalStateException", Cond.fieldLink RL 39 "MapCarrierLaw$Sim" "roads" "[[I"]
set_option maxRecDepth 20000 in
theorem wsL_in_r6a : ∀ w ∈ wsL_r6a, w ∈ lw_tbl := fun w h => (goodIn_p wsL_r6a [693, 698, 294, 676, 679, 170] (by decide +kernel) (by decide +kernel) w h).1
set_option maxRecDepth 20000 in
theorem wsL_in_r6b : ∀ w ∈ wsL_r6b, w ∈ lw_tbl := fun w h => (goodIn_p wsL_r6b [] (by decide +kernel) (by decide +kernel) w h).1
theorem wsL_in_r6 : ∀ w ∈ wsL_law0_r6, w ∈ lw_tbl := fun w h => (List.mem_append.mp (show w ∈ wsL_r6a ++ (Cond.codeWith yL_act cL_act 10 (some .boolean) [(116, 122, 125, 30), (212, 224, 227, 30), (544, 550, 553, 30), (614, 622, 625, 30), (687, 695, 698, 30)] :: wsL_r6b) from h)).elim (fun h => wsL_in_r6a w h) (fun h => (List.mem_cons.mp h).elim (fun e => e ▸ wsL_cwAct) (fun h => wsL_in_r6b w h))
set_option maxRecDepth 20000 in
theorem wsL_in_r7 : ∀ w ∈ wsL_law0_r7, w ∈ lw_tbl := fun w h => (goodIn_p wsL_law0_r7 [409, 702, 426, 353, 706] (by decide +kernel) (by decide +kernel) w h).1
set_option maxRecDepth 20000 in
theorem wsL_in_r8 : ∀ w ∈ wsL_law0_r8, w ∈ lw_tbl := fun w h => (goodIn_p wsL_law0_r8 [388, 360, 712, 717, 721, 725] (by decide +kernel) (by decide +kernel) w h).1
set_option maxRecDepth 20000 in
theorem wsL_in_r9 : ∀ w ∈ wsL_law0_r9, w ∈ lw_tbl := fun w h => (goodIn_p wsL_law0_r9 [728, 588, 733, 333, 258, 305] (by decide +kernel) (by decide +kernel) w h).1
set_option maxRecDepth 20000 in
theorem wsL_in_r10 : ∀ w ∈ wsL_law0_r10, w ∈ lw_tbl := fun w h => (goodIn_p wsL_law0_r10 [615, 584, 250, 254, 278] (by decide +kernel) (by decide +kernel) w h).1
set_option maxRecDepth 20000 in
theorem wsL_in_r11 : ∀ w ∈ wsL_law0_r11, w ∈ lw_tbl := fun w h => (goodIn_p wsL_law0_r11 [282, 286, 291, 298, 301] (by decide +kernel) (by decide +kernel) w h).1
set_option maxRecDepth 20000 in
theorem wsL_in_r12 : ∀ w ∈ wsL_law0_r12, w ∈ lw_tbl := fun w h => (goodIn_p wsL_law0_r12 [594, 598, 603, 607, 611] (by decide +kernel) (by decide +kernel) w h).1
set_option maxRecDepth 20000 in
theorem wsL_in_r13 : ∀ w ∈ wsL_law0_r13, w ∈ lw_tbl := fun w h => (goodIn_p wsL_law0_r13 [309, 338, 342, 346, 349, 357] (by decide +kernel) (by decide +kernel) w h).1
set_option maxRecDepth 20000 in
theorem wsL_in_r14 : ∀ w ∈ wsL_law0_r14, w ∈ lw_tbl := fun w h => (goodIn_p wsL_law0_r14 [364, 369, 372, 376, 380] (by decide +kernel) (by decide +kernel) w h).1
set_option maxRecDepth 20000 in
theorem wsL_in_r15 : ∀ w ∈ wsL_law0_r15, w ∈ lw_tbl := fun w h => (goodIn_p wsL_law0_r15 [384, 393, 398, 402, 406] (by decide +kernel) (by decide +kernel) w h).1
set_option maxRecDepth 20000 in
theorem wsL_in_r16 : ∀ w ∈ wsL_law0_r16, w ∈ lw_tbl := fun w h => (goodIn_p wsL_law0_r16 [543, 414, 548, 457, 461, 465] (by decide +kernel) (by decide +kernel) w h).1
set_option maxRecDepth 20000 in
theorem wsL_in_r17 : ∀ w ∈ wsL_law0_r17, w ∈ lw_tbl := fun w h => (goodIn_p wsL_law0_r17 [469, 504, 508, 512, 516, 561] (by decide +kernel) (by decide +kernel) w h).1
set_option maxRecDepth 20000 in
theorem wsL_in_r18 : ∀ w ∈ wsL_law0_r18, w ∈ lw_tbl := fun w h => (goodIn_p wsL_law0_r18 [565, 449, 569, 418, 422, 432] (by decide +kernel) (by decide +kernel) w h).1
set_option maxRecDepth 20000 in
theorem wsL_in_r19 : ∀ w ∈ wsL_law0_r19, w ∈ lw_tbl := fun w h => (goodIn_p wsL_law0_r19 [436, 441, 445, 473, 477, 578] (by decide +kernel) (by decide +kernel) w h).1
set_option maxRecDepth 20000 in
theorem wsL_in_r20 : ∀ w ∈ wsL_law0_r20, w ∈ lw_tbl := fun w h => (goodIn_p wsL_law0_r20 [481, 486, 490, 494] (by decide +kernel) (by decide +kernel) w h).1
set_option maxRecDepth 20000 in
theorem wsL_in_r21 : ∀ w ∈ wsL_law0_r21, w ∈ lw_tbl := fun w h => (goodIn_p wsL_law0_r21 [498, 453, 520, 524] (by decide +kernel) (by decide +kernel) w h).1
set_option maxRecDepth 20000 in
theorem wsL_in_r22 : ∀ w ∈ wsL_law0_r22, w ∈ lw_tbl := fun w h => (goodIn_p wsL_law0_r22 [528, 532, 798, 539] (by decide +kernel) (by decide +kernel) w h).1
set_option maxRecDepth 20000 in
theorem wsL_in_r23 : ∀ w ∈ wsL_law0_r23, w ∈ lw_tbl := fun w h => (goodIn_p wsL_law0_r23 [623, 640] (by decide +kernel) (by decide +kernel) w h).1
set_option maxRecDepth 20000 in
theorem wsL_in_r24 : ∀ w ∈ wsL_law0_r24, w ∈ lw_tbl := fun w h => (goodIn_p wsL_law0_r24 [651] (by decide +kernel) (by decide +kernel) w h).1
set_option maxRecDepth 20000 in
theorem wsL_in_x3 : ∀ w ∈ wsX30, w ∈ lw_tbl := by decide +kernel
set_option maxRecDepth 20000 in
theorem wsL_in_x1 : ∀ w ∈ wsX10, w ∈ lw_tbl := by decide +kernel
set_option maxRecDepth 20000 in
theorem wsL_in_x0 : ∀ w ∈ wsX00, w ∈ lw_tbl := by decide +kernel
set_option maxRecDepth 20000 in
theorem wsL_in_x2 : ∀ w ∈ wsX20, w ∈ lw_tbl := by decide +kernel
set_option maxRecDepth 20000 in
theorem wsL_in_x4 : ∀ w ∈ wsX40, w ∈ lw_tbl := by decide +kernel
set_option maxRecDepth 20000 in
theorem wsL_law_in0 : ∀ w ∈ wsL_law0, w ∈ lw_tbl := fun w => (fun h => (List.mem_append.mp h).elim (fun h => (List.mem_append.mp h).elim (fun h => (List.mem_append.mp h).elim (fun h => (List.mem_append.mp h).elim (fun h => (List.mem_append.mp h).elim (fun h => (List.mem_append.mp h).elim (fun h => (List.mem_append.mp h).elim (fun h => wsL_in_r1 w h) (fun h => (List.mem_append.mp h).elim (fun h => wsL_in_r2 w h) (fun h => (List.mem_append.mp h).elim (fun h => wsL_in_r3 w h) (fun h => (List.mem_append.mp h).elim (fun h => wsL_in_r4 w h) (fun h => (List.mem_append.mp h).elim (fun h => wsL_in_r5 w h) (fun h => (List.mem_append.mp h).elim (fun h => wsL_in_r6 w h) (fun h => (List.mem_append.mp h).elim (fun h => wsL_in_r7 w h) (fun h => (List.mem_append.mp h).elim (fun h => wsL_in_r8 w h) (fun h => (List.mem_append.mp h).elim (fun h => wsL_in_r9 w h) (fun h => (List.mem_append.mp h).elim (fun h => wsL_in_r10 w h) (fun h => (List.mem_append.mp h).elim (fun h => wsL_in_r11 w h) (fun h => (List.mem_append.mp h).elim (fun h => wsL_in_r12 w h) (fun h => (List.mem_append.mp h).elim (fun h => wsL_in_r13 w h) (fun h => (List.mem_append.mp h).elim (fun h => wsL_in_r14 w h) (fun h => (List.mem_append.mp h).elim (fun h => wsL_in_r15 w h) (fun h => (List.mem_append.mp h).elim (fun h => wsL_in_r16 w h) (fun h => (List.mem_append.mp h).elim (fun h => wsL_in_r17 w h) (fun h => (List.mem_append.mp h).elim (fun h => wsL_in_r18 w h) (fun h => (List.mem_append.mp h).elim (fun h => wsL_in_r19 w h) (fun h => (List.mem_append.mp h).elim (fun h => wsL_in_r20 w h) (fun h => (List.mem_append.mp h).elim (fun h => wsL_in_r21 w h) (fun h => (List.mem_append.mp h).elim (fun h => wsL_in_r22 w h) (fun h => (List.mem_append.mp h).elim (fun h => wsL_in_r23 w h) (fun h => wsL_in_r24 w h)))))))))))))))))))))))) (fun h => wsL_in_x3 w h)) (fun h => wsL_in_x1 w h)) (fun h => wsL_in_x0 w h)) (fun h => wsL_in_x2 w h)) (fun h => wsL_in_x4 w h)) (fun h => nomatch h))
theorem wsL_law_x0 : ∀ w ∈ (vx_atS RX3 36 "java/lang/IllegalStateException" ["java/lang/RuntimeException", "java/lang/Exception"]).filter goodWord, w ∈ lw_tbl := by decide +kernel
theorem wsL_law_x1 : ∀ w ∈ (vx_atS RX3 47 "java/lang/IllegalArgumentException" ["java/lang/RuntimeException", "java/lang/Exception"]).filter goodWord, w ∈ lw_tbl := by decide +kernel
theorem wsL_law_x2 : ∀ w ∈ (vx_atS RX3 212 "java/lang/IndexOutOfBoundsException" ["java/lang/RuntimeException", "java/lang/Exception"]).filter goodWord, w ∈ lw_tbl := by decide +kernel
theorem wsL_law_in : ∀ w ∈ wsL_law, w ∈ lw_tbl := fun w h => (List.mem_append.mp h).elim (fun h => (List.mem_append.mp h).elim (fun h => (List.mem_append.mp h).elim (fun h => wsL_law_in0 w h) (fun h => wsL_law_x0 w h)) (fun h => wsL_law_x1 w h)) (fun h => wsL_law_x2 w h)
theorem inlX0 : ∀ w ∈ wsX00, w ∈ wsL_law := fun _ h => List.mem_append_left _ (List.mem_append_left _ (List.mem_append_left _ (List.mem_append_left _ (List.mem_append_left _ (List.mem_append_left _ (List.mem_append_right _ h))))))
theorem inX0 : ∀ w ∈ wsX00, w ∈ lw_tbl := fun w h => wsL_law_in w (inlX0 w h)
theorem inlX1 : ∀ w ∈ wsX10, w ∈ wsL_law := fun _ h => List.mem_append_left _ (List.mem_append_left _ (List.mem_append_left _ (List.mem_append_left _ (List.mem_append_left _ (List.mem_append_left _ (List.mem_append_left _ (List.mem_append_right _ h)))))))
theorem inX1 : ∀ w ∈ wsX10, w ∈ lw_tbl := fun w h => wsL_law_in w (inlX1 w h)
theorem inlX2 : ∀ w ∈ wsX20, w ∈ wsL_law := fun _ h => List.mem_append_left _ (List.mem_append_left _ (List.mem_append_left _ (List.mem_append_left _ (List.mem_append_left _ (List.mem_append_right _ h)))))
theorem inX2 : ∀ w ∈ wsX20, w ∈ lw_tbl := fun w h => wsL_law_in w (inlX2 w h)
theorem inlX3 : ∀ w ∈ wsX30, w ∈ wsL_law := fun _ h => List.mem_append_left _ (List.mem_append_left _ (List.mem_append_left _ (List.mem_append_left _ (List.mem_append_left _ (List.mem_append_left _ (List.mem_append_left _ (List.mem_append_left _ (List.mem_append_right _ h))))))))
theorem inX3 : ∀ w ∈ wsX30, w ∈ lw_tbl := fun w h => wsL_law_in w (inlX3 w h)
theorem inlX4 : ∀ w ∈ wsX40, w ∈ wsL_law := fun _ h => List.mem_append_left _ (List.mem_append_left _ (List.mem_append_left _ (List.mem_append_left _ (List.mem_append_right _ h))))
theorem inX4 : ∀ w ∈ wsX40, w ∈ lw_tbl := fun w h => wsL_law_in w (inlX4 w h)
theorem inX5 : ∀ w ∈ wsX50, w ∈ lw_tbl := by decide +kernel
theorem inX6 : ∀ w ∈ wsX60, w ∈ lw_tbl := by decide +kernel
theorem inJx145de : ∀ w ∈ wsJx145de0, w ∈ lw_tbl := by decide +kernel
theorem inJ9 : ∀ w ∈ wsJ90, w ∈ lw_tbl := by decide +kernel
theorem inJ0 : ∀ w ∈ wsJ00, w ∈ lw_tbl := by decide +kernel
theorem inJ10 : ∀ w ∈ wsJ100, w ∈ lw_tbl := by decide +kernel
theorem inJ7 : ∀ w ∈ wsJ70, w ∈ lw_tbl := by decide +kernel
abbrev vwCl : List vw_C := [(RX0, TX0, 15), (RX1, TX1, 8), (RX2, TX2, 2), (RX3, TX3, 3), (RX4, TX4, 14)]
end
section
set_option maxRecDepth 20000 in
theorem ggX0_init_X2_init : GoodIn wsX0_init wsX2_init := goodIn_r _ [17, 18, 2, 3, 9, 19, 20, 21, 22] (by decide +kernel) (by decide +kernel)
set_option maxRecDepth 20000 in
theorem gX0_init_X2_init_n11 : GoodIn wsX0_init (wsX2_init) := ggX0_init_X2_init
theorem dX0_init_0 : decode cX0_init 0 = .ok (.aload_n 0, 1) := by decide +kernel
theorem dX0_init_1 : decode cX0_init 1 = .ok (.invokespecial 3, 3) := by decide +kernel
theorem dX0_init_4 : decode cX0_init 4 = .ok (.aload_n 0, 1) := by decide +kernel
theorem dX0_init_5 : decode cX0_init 5 = .ok (.new 9, 3) := by decide +kernel
theorem dX0_init_8 : decode cX0_init 8 = .ok (.dup, 1) := by decide +kernel
theorem dX0_init_9 : decode cX0_init 9 = .ok (.invokespecial 11, 3) := by decide +kernel
theorem dX0_init_12 : decode cX0_init 12 = .ok (.putfield 12, 3) := by decide +kernel
theorem dX0_init_15 : decode cX0_init 15 = .ok (.aload_n 0, 1) := by decide +kernel
theorem dX0_init_16 : decode cX0_init 16 = .ok (.iconst (-1), 1) := by decide +kernel
theorem dX0_init_17 : decode cX0_init 17 = .ok (.putfield 18, 3) := by decide +kernel
theorem dX0_init_20 : decode cX0_init 20 = .ok (.aload_n 0, 1) := by decide +kernel
theorem dX0_init_21 : decode cX0_init 21 = .ok (.bipush 20, 2) := by decide +kernel
theorem dX0_init_23 : decode cX0_init 23 = .ok (.newarray .int, 2) := by decide +kernel
theorem dX0_init_25 : decode cX0_init 25 = .ok (.putfield 22, 3) := by decide +kernel
theorem dX0_init_28 : decode cX0_init 28 = .ok (.aload_n 0, 1) := by decide +kernel
theorem dX0_init_29 : decode cX0_init 29 = .ok (.bipush 40, 2) := by decide +kernel
theorem dX0_init_31 : decode cX0_init 31 = .ok (.newarray .boolean, 2) := by decide +kernel
theorem dX0_init_33 : decode cX0_init 33 = .ok (.putfield 26, 3) := by decide +kernel
theorem dX0_init_36 : decode cX0_init 36 = .ok (.aload_n 0, 1) := by decide +kernel
theorem dX0_init_37 : decode cX0_init 37 = .ok (.bipush 10, 2) := by decide +kernel
theorem dX0_init_39 : decode cX0_init 39 = .ok (.newarray .boolean, 2) := by decide +kernel
theorem dX0_init_41 : decode cX0_init 41 = .ok (.putfield 30, 3) := by decide +kernel
theorem dX0_init_44 : decode cX0_init 44 = .ok (.aload_n 0, 1) := by decide +kernel
theorem dX0_init_45 : decode cX0_init 45 = .ok (.iconst (-1), 1) := by decide +kernel
theorem dX0_init_46 : decode cX0_init 46 = .ok (.putfield 33, 3) := by decide +kernel
theorem dX0_init_49 : decode cX0_init 49 = .ok (.aload_n 0, 1) := by decide +kernel
theorem dX0_init_50 : decode cX0_init 50 = .ok (.aload_n 1, 1) := by decide +kernel
theorem dX0_init_51 : decode cX0_init 51 = .ok (.putfield 36, 3) := by decide +kernel
theorem dX0_init_54 : decode cX0_init 54 = .ok (.return_, 1) := by decide +kernel
set_option maxRecDepth 20000 in
theorem ggX0_startLike_X2_copyFrom : GoodIn wsX0_startLike wsX2_copyFrom := goodIn_r _ [11, 12, 13, 14, 15, 16, 17, 33, 34] (by decide +kernel) (by decide +kernel)
set_option maxRecDepth 20000 in
theorem gX0_startLike_X2_copyFrom : GoodIn wsX0_startLike (wsV RX0 46 RX2 yX2_copyFrom wsX2_copyFrom) := goodIn_app (goodIn_of _ (by decide +kernel)) ggX0_startLike_X2_copyFrom
theorem dX0_startLike_0 : decode cX0_startLike 0 = .ok (.aload_n 0, 1) := by decide +kernel
theorem dX0_startLike_1 : decode cX0_startLike 1 = .ok (.aload_n 1, 1) := by decide +kernel
theorem dX0_startLike_2 : decode cX0_startLike 2 = .ok (.getfield 40, 3) := by decide +kernel
theorem dX0_startLike_5 : decode cX0_startLike 5 = .ok (.putfield 40, 3) := by decide +kernel
theorem dX0_startLike_8 : decode cX0_startLike 8 = .ok (.aload_n 0, 1) := by decide +kernel
theorem dX0_startLike_9 : decode cX0_startLike 9 = .ok (.aload_n 1, 1) := by decide +kernel
theorem dX0_startLike_10 : decode cX0_startLike 10 = .ok (.getfield 43, 3) := by decide +kernel
theorem dX0_startLike_13 : decode cX0_startLike 13 = .ok (.putfield 43, 3) := by decide +kernel
theorem dX0_startLike_16 : decode cX0_startLike 16 = .ok (.aload_n 0, 1) := by decide +kernel
theorem dX0_startLike_17 : decode cX0_startLike 17 = .ok (.getfield 12, 3) := by decide +kernel
theorem dX0_startLike_20 : decode cX0_startLike 20 = .ok (.aload_n 1, 1) := by decide +kernel
theorem dX0_startLike_21 : decode cX0_startLike 21 = .ok (.getfield 12, 3) := by decide +kernel
theorem dX0_startLike_24 : decode cX0_startLike 24 = .ok (.invokevirtual 46, 3) := by decide +kernel
theorem dX0_startLike_27 : decode cX0_startLike 27 = .ok (.aload_n 0, 1) := by decide +kernel
theorem dX0_startLike_28 : decode cX0_startLike 28 = .ok (.iload_n 2, 1) := by decide +kernel
theorem dX0_startLike_29 : decode cX0_startLike 29 = .ok (.putfield 33, 3) := by decide +kernel
theorem dX0_startLike_32 : decode cX0_startLike 32 = .ok (.aload_n 0, 1) := by decide +kernel
theorem dX0_startLike_33 : decode cX0_startLike 33 = .ok (.iconst 0, 1) := by decide +kernel
theorem dX0_startLike_34 : decode cX0_startLike 34 = .ok (.putfield 50, 3) := by decide +kernel
theorem dX0_startLike_37 : decode cX0_startLike 37 = .ok (.aload_n 0, 1) := by decide +kernel
theorem dX0_startLike_38 : decode cX0_startLike 38 = .ok (.iconst 0, 1) := by decide +kernel
theorem dX0_startLike_39 : decode cX0_startLike 39 = .ok (.putfield 53, 3) := by decide +kernel
theorem dX0_startLike_42 : decode cX0_startLike 42 = .ok (.return_, 1) := by decide +kernel
theorem dX0_isUnderway_0 : decode cX0_isUnderway 0 = .ok (.aload_n 0, 1) := by decide +kernel
theorem dX0_isUnderway_1 : decode cX0_isUnderway 1 = .ok (.getfield 18, 3) := by decide +kernel
theorem dX0_isUnderway_4 : decode cX0_isUnderway 4 = .ok (.iconst (-1), 1) := by decide +kernel
theorem dX0_isUnderway_5 : decode cX0_isUnderway 5 = .ok (.if_icmp .eq 7, 3) := by decide +kernel
theorem dX0_isUnderway_8 : decode cX0_isUnderway 8 = .ok (.iconst 1, 1) := by decide +kernel
theorem dX0_isUnderway_9 : decode cX0_isUnderway 9 = .ok (.goto 4, 3) := by decide +kernel
theorem dX0_isUnderway_12 : decode cX0_isUnderway 12 = .ok (.iconst 0, 1) := by decide +kernel
theorem dX0_isUnderway_13 : decode cX0_isUnderway 13 = .ok (.ireturn, 1) := by decide +kernel
set_option maxRecDepth 20000 in
theorem ggX0_hasTried_X3_isEnd : GoodIn wsX0_hasTried wsX3_isEnd := goodIn_r _ [4] (by decide +kernel) (by decide +kernel)
set_option maxRecDepth 20000 in
theorem gX0_hasTried_X3_isEnd_n56 : GoodIn wsX0_hasTried (wsX3_isEnd) := ggX0_hasTried_X3_isEnd
theorem dX0_hasTried_0 : decode cX0_hasTried 0 = .ok (.iload_n 1, 1) := by decide +kernel
theorem dX0_hasTried_1 : decode cX0_hasTried 1 = .ok (.invokestatic 56, 3) := by decide +kernel
theorem dX0_hasTried_4 : decode cX0_hasTried 4 = .ok (.ifCond .eq 16, 3) := by decide +kernel
theorem dX0_hasTried_7 : decode cX0_hasTried 7 = .ok (.aload_n 0, 1) := by decide +kernel
theorem dX0_hasTried_8 : decode cX0_hasTried 8 = .ok (.getfield 26, 3) := by decide +kernel
theorem dX0_hasTried_11 : decode cX0_hasTried 11 = .ok (.iload_n 1, 1) := by decide +kernel
theorem dX0_hasTried_12 : decode cX0_hasTried 12 = .ok (.baload, 1) := by decide +kernel
theorem dX0_hasTried_13 : decode cX0_hasTried 13 = .ok (.ifCond .eq 7, 3) := by decide +kernel
theorem dX0_hasTried_16 : decode cX0_hasTried 16 = .ok (.iconst 1, 1) := by decide +kernel
theorem dX0_hasTried_17 : decode cX0_hasTried 17 = .ok (.goto 4, 3) := by decide +kernel
theorem dX0_hasTried_20 : decode cX0_hasTried 20 = .ok (.iconst 0, 1) := by decide +kernel
theorem dX0_hasTried_21 : decode cX0_hasTried 21 = .ok (.ireturn, 1) := by decide +kernel
set_option maxRecDepth 20000 in
theorem ggX0_begin_X0_forget : GoodIn wsX0_begin wsX0_forget := goodIn_r _ [10] (by decide +kernel) (by decide +kernel)
set_option maxRecDepth 20000 in
theorem gX0_begin_X0_forget : GoodIn wsX0_begin (va_wsS RX0 60 yX0_forget wsX0_forget) := goodIn_app (goodIn_of _ (by decide +kernel)) ggX0_begin_X0_forget
set_option maxRecDepth 20000 in
theorem ggX0_begin_X0_endErrand : GoodIn wsX0_begin wsX0_endErrand := goodIn_r _ [14, 4, 3, 15, 16, 17, 18, 19, 20, 21, 22, 23, 24, 25, 26, 27, 28, 29] (by decide +kernel) (by decide +kernel)
set_option maxRecDepth 20000 in
theorem gX0_begin_X0_endErrand : GoodIn wsX0_begin (wsV RX0 70 RX0 yX0_endErrand wsX0_endErrand) := goodIn_app (goodIn_of _ (by decide +kernel)) ggX0_begin_X0_endErrand
theorem dX0_begin_0 : decode cX0_begin 0 = .ok (.aload_n 0, 1) := by decide +kernel
theorem dX0_begin_1 : decode cX0_begin 1 = .ok (.getfield 26, 3) := by decide +kernel
theorem dX0_begin_4 : decode cX0_begin 4 = .ok (.invokestatic 60, 3) := by decide +kernel
theorem dX0_begin_7 : decode cX0_begin 7 = .ok (.aload_n 0, 1) := by decide +kernel
theorem dX0_begin_8 : decode cX0_begin 8 = .ok (.getfield 30, 3) := by decide +kernel
theorem dX0_begin_11 : decode cX0_begin 11 = .ok (.invokestatic 60, 3) := by decide +kernel
theorem dX0_begin_14 : decode cX0_begin 14 = .ok (.aload_n 0, 1) := by decide +kernel
theorem dX0_begin_15 : decode cX0_begin 15 = .ok (.iconst 0, 1) := by decide +kernel
theorem dX0_begin_16 : decode cX0_begin 16 = .ok (.putfield 64, 3) := by decide +kernel
theorem dX0_begin_19 : decode cX0_begin 19 = .ok (.aload_n 0, 1) := by decide +kernel
theorem dX0_begin_20 : decode cX0_begin 20 = .ok (.iload_n 1, 1) := by decide +kernel
theorem dX0_begin_21 : decode cX0_begin 21 = .ok (.putfield 18, 3) := by decide +kernel
theorem dX0_begin_24 : decode cX0_begin 24 = .ok (.aload_n 0, 1) := by decide +kernel
theorem dX0_begin_25 : decode cX0_begin 25 = .ok (.getfield 40, 3) := by decide +kernel
theorem dX0_begin_28 : decode cX0_begin 28 = .ok (.aload_n 0, 1) := by decide +kernel
theorem dX0_begin_29 : decode cX0_begin 29 = .ok (.getfield 18, 3) := by decide +kernel
theorem dX0_begin_32 : decode cX0_begin 32 = .ok (.if_icmp .ne 17, 3) := by decide +kernel
theorem dX0_begin_35 : decode cX0_begin 35 = .ok (.aload_n 0, 1) := by decide +kernel
theorem dX0_begin_36 : decode cX0_begin 36 = .ok (.dup, 1) := by decide +kernel
theorem dX0_begin_37 : decode cX0_begin 37 = .ok (.getfield 67, 3) := by decide +kernel
theorem dX0_begin_40 : decode cX0_begin 40 = .ok (.iconst 1, 1) := by decide +kernel
theorem dX0_begin_41 : decode cX0_begin 41 = .ok (.iadd, 1) := by decide +kernel
theorem dX0_begin_42 : decode cX0_begin 42 = .ok (.putfield 67, 3) := by decide +kernel
theorem dX0_begin_45 : decode cX0_begin 45 = .ok (.aload_n 0, 1) := by decide +kernel
theorem dX0_begin_46 : decode cX0_begin 46 = .ok (.invokevirtual 70, 3) := by decide +kernel
theorem dX0_begin_49 : decode cX0_begin 49 = .ok (.return_, 1) := by decide +kernel
theorem dX0_endErrand_0 : decode cX0_endErrand 0 = .ok (.aload_n 0, 1) := by decide +kernel
theorem dX0_endErrand_1 : decode cX0_endErrand 1 = .ok (.iconst (-1), 1) := by decide +kernel
theorem dX0_endErrand_2 : decode cX0_endErrand 2 = .ok (.putfield 18, 3) := by decide +kernel
theorem dX0_endErrand_5 : decode cX0_endErrand 5 = .ok (.aload_n 0, 1) := by decide +kernel
theorem dX0_endErrand_6 : decode cX0_endErrand 6 = .ok (.iconst 0, 1) := by decide +kernel
theorem dX0_endErrand_7 : decode cX0_endErrand 7 = .ok (.putfield 64, 3) := by decide +kernel
theorem dX0_endErrand_10 : decode cX0_endErrand 10 = .ok (.return_, 1) := by decide +kernel
set_option maxRecDepth 20000 in
theorem ggX0_step_X0_rememberedEnd : GoodIn wsX0_step wsX0_rememberedEnd := goodIn_r _ [10, 11, 3, 12, 4, 13, 14, 15, 16, 17, 18, 19, 20, 21, 22, 23, 24, 25, 26, 27, 28, 29, 30, 31, 32, 33, 34, 35, 36, 9, 37, 38, 39, 40, 41, 121, 122, 123, 124, 125, 126, 127, 128, 129, 130, 131, 132, 133, 134, 135, 136, 137, 138, 139, 140, 141, 142, 143, 144, 145] (by decide +kernel) (by decide +kernel)
set_option maxRecDepth 20000 in
theorem gX0_step_X0_rememberedEnd : GoodIn wsX0_step (wsV RX0 73 RX0 yX0_rememberedEnd wsX0_rememberedEnd) := goodIn_app (goodIn_of _ (by decide +kernel)) ggX0_step_X0_rememberedEnd
set_option maxRecDepth 20000 in
theorem ggX0_step_X0_askedEnd : GoodIn wsX0_step wsX0_askedEnd := goodIn_r _ [45, 11, 3, 46, 47, 48, 49, 4, 12, 50, 30, 31, 26, 32, 33, 51, 52, 53, 54, 55, 56, 28, 57, 58, 59, 60, 61, 62, 63, 64, 29, 65, 66, 67, 68, 69, 70, 71, 72, 40, 73, 74, 75, 76, 77, 78, 16, 79, 19, 18, 20, 21, 22, 34, 35, 36, 9, 37, 38, 39, 41, 121, 122, 123, 124, 125, 126, 127, 128, 129, 130, 131, 132, 133, 134, 135, 138, 139, 140, 141, 142, 143, 144, 145, 136, 137] (by decide +kernel) (by decide +kernel)
set_option maxRecDepth 20000 in
theorem gX0_step_X0_askedEnd : GoodIn wsX0_step (wsV RX0 77 RX0 yX0_askedEnd wsX0_askedEnd) := goodIn_app (goodIn_of _ (by decide +kernel)) ggX0_step_X0_askedEnd
set_option maxRecDepth 20000 in
theorem ggX0_step_X0_firstUntried : GoodIn wsX0_step wsX0_firstUntried := goodIn_r _ [83, 3, 34, 35, 36, 9, 37, 11, 38, 39, 40, 41, 121, 122, 123, 124, 125, 126, 127, 128, 129, 130, 131, 132, 133, 134, 135, 138, 139, 140, 141, 142, 143, 144, 145] (by decide +kernel) (by decide +kernel)
set_option maxRecDepth 20000 in
theorem gX0_step_X0_firstUntried : GoodIn wsX0_step (wsV RX0 80 RX0 yX0_firstUntried wsX0_firstUntried) := goodIn_app (goodIn_of _ (by decide +kernel)) ggX0_step_X0_firstUntried
set_option maxRecDepth 20000 in
theorem ggX0_step_X0_take : GoodIn wsX0_step wsX0_take := goodIn_r _ [87, 11, 1, 38, 88, 89, 3, 90, 91, 92, 26, 93, 94, 39, 40, 41, 95, 96, 97, 98, 71, 72, 73, 121, 122, 123, 124, 125, 126, 127, 128, 129, 130, 131, 132, 133, 134, 135, 138, 139, 140, 141, 142, 143, 144, 145] (by decide +kernel) (by decide +kernel)
set_option maxRecDepth 20000 in
theorem gX0_step_X0_take : GoodIn wsX0_step (wsV RX0 83 RX0 yX0_take wsX0_take) := goodIn_app (goodIn_of _ (by decide +kernel)) ggX0_step_X0_take
set_option maxRecDepth 20000 in
theorem ggX0_step_X0_doubleBack : GoodIn wsX0_step wsX0_doubleBack := goodIn_r _ [102, 1, 88, 11, 89, 103, 3, 95, 96, 97, 26, 98, 71, 39, 40, 41, 72, 73, 121, 122, 123, 124, 125, 126, 127, 128, 129, 130, 131, 132, 133, 134, 135, 138, 139, 140, 141, 142, 143, 144, 145] (by decide +kernel) (by decide +kernel)
set_option maxRecDepth 20000 in
theorem gX0_step_X0_doubleBack : GoodIn wsX0_step (wsV RX0 87 RX0 yX0_doubleBack wsX0_doubleBack) := goodIn_app (goodIn_of _ (by decide +kernel)) ggX0_step_X0_doubleBack
set_option maxRecDepth 20000 in
theorem ggX0_step_X0_endErrand : GoodIn wsX0_step wsX0_endErrand := goodIn_r _ [107, 4, 1, 121, 122, 123, 124, 125, 126, 127, 128, 129, 130, 131, 132, 133, 134, 135] (by decide +kernel) (by decide +kernel)
set_option maxRecDepth 20000 in
theorem gX0_step_X0_endErrand : GoodIn wsX0_step (wsV RX0 70 RX0 yX0_endErrand wsX0_endErrand) := goodIn_app (goodIn_of _ (by decide +kernel)) ggX0_step_X0_endErrand
set_option maxRecDepth 20000 in
theorem ggX0_step_X0_rememberWay : GoodIn wsX0_step wsX0_rememberWay := goodIn_r _ [111, 1, 12, 4, 88, 72, 40, 73, 74, 75, 112, 113, 114, 16, 115, 18, 19, 116, 117, 118, 119, 20, 21, 22, 120, 77, 78, 79, 121, 122, 123, 124, 125, 126, 127, 128, 129, 130, 131, 132, 133, 134, 135, 136, 137] (by decide +kernel) (by decide +kernel)
set_option maxRecDepth 20000 in
theorem gX0_step_X0_rememberWay : GoodIn wsX0_step (wsV RX0 90 RX0 yX0_rememberWay wsX0_rememberWay) := goodIn_app (goodIn_of _ (by decide +kernel)) ggX0_step_X0_rememberWay
theorem dX0_step_0 : decode cX0_step 0 = .ok (.aload_n 0, 1) := by decide +kernel
theorem dX0_step_1 : decode cX0_step 1 = .ok (.invokevirtual 73, 3) := by decide +kernel
theorem dX0_step_4 : decode cX0_step 4 = .ok (.istore_n 1, 1) := by decide +kernel
theorem dX0_step_5 : decode cX0_step 5 = .ok (.iload_n 1, 1) := by decide +kernel
theorem dX0_step_6 : decode cX0_step 6 = .ok (.iconst (-1), 1) := by decide +kernel
theorem dX0_step_7 : decode cX0_step 7 = .ok (.if_icmp .ne 8, 3) := by decide +kernel
theorem dX0_step_10 : decode cX0_step 10 = .ok (.aload_n 0, 1) := by decide +kernel
theorem dX0_step_11 : decode cX0_step 11 = .ok (.invokevirtual 77, 3) := by decide +kernel
theorem dX0_step_14 : decode cX0_step 14 = .ok (.istore_n 1, 1) := by decide +kernel
theorem dX0_step_15 : decode cX0_step 15 = .ok (.iload_n 1, 1) := by decide +kernel
theorem dX0_step_16 : decode cX0_step 16 = .ok (.iconst (-1), 1) := by decide +kernel
theorem dX0_step_17 : decode cX0_step 17 = .ok (.if_icmp .ne 8, 3) := by decide +kernel
theorem dX0_step_20 : decode cX0_step 20 = .ok (.aload_n 0, 1) := by decide +kernel
theorem dX0_step_21 : decode cX0_step 21 = .ok (.invokevirtual 80, 3) := by decide +kernel
theorem dX0_step_24 : decode cX0_step 24 = .ok (.istore_n 1, 1) := by decide +kernel
theorem dX0_step_25 : decode cX0_step 25 = .ok (.iload_n 1, 1) := by decide +kernel
theorem dX0_step_26 : decode cX0_step 26 = .ok (.iconst (-1), 1) := by decide +kernel
theorem dX0_step_27 : decode cX0_step 27 = .ok (.if_icmp .eq 11, 3) := by decide +kernel
theorem dX0_step_30 : decode cX0_step 30 = .ok (.aload_n 0, 1) := by decide +kernel
theorem dX0_step_31 : decode cX0_step 31 = .ok (.iload_n 1, 1) := by decide +kernel
theorem dX0_step_32 : decode cX0_step 32 = .ok (.invokevirtual 83, 3) := by decide +kernel
theorem dX0_step_35 : decode cX0_step 35 = .ok (.goto 33, 3) := by decide +kernel
theorem dX0_step_38 : decode cX0_step 38 = .ok (.aload_n 0, 1) := by decide +kernel
theorem dX0_step_39 : decode cX0_step 39 = .ok (.getfield 64, 3) := by decide +kernel
theorem dX0_step_42 : decode cX0_step 42 = .ok (.ifCond .le 10, 3) := by decide +kernel
theorem dX0_step_45 : decode cX0_step 45 = .ok (.aload_n 0, 1) := by decide +kernel
theorem dX0_step_46 : decode cX0_step 46 = .ok (.invokevirtual 87, 3) := by decide +kernel
theorem dX0_step_49 : decode cX0_step 49 = .ok (.goto 19, 3) := by decide +kernel
theorem dX0_step_52 : decode cX0_step 52 = .ok (.aload_n 0, 1) := by decide +kernel
theorem dX0_step_53 : decode cX0_step 53 = .ok (.dup, 1) := by decide +kernel
theorem dX0_step_54 : decode cX0_step 54 = .ok (.getfield 53, 3) := by decide +kernel
theorem dX0_step_57 : decode cX0_step 57 = .ok (.iconst 1, 1) := by decide +kernel
theorem dX0_step_58 : decode cX0_step 58 = .ok (.iadd, 1) := by decide +kernel
theorem dX0_step_59 : decode cX0_step 59 = .ok (.putfield 53, 3) := by decide +kernel
theorem dX0_step_62 : decode cX0_step 62 = .ok (.aload_n 0, 1) := by decide +kernel
theorem dX0_step_63 : decode cX0_step 63 = .ok (.invokevirtual 70, 3) := by decide +kernel
theorem dX0_step_66 : decode cX0_step 66 = .ok (.iconst 0, 1) := by decide +kernel
theorem dX0_step_67 : decode cX0_step 67 = .ok (.ireturn, 1) := by decide +kernel
theorem dX0_step_68 : decode cX0_step 68 = .ok (.aload_n 0, 1) := by decide +kernel
theorem dX0_step_69 : decode cX0_step 69 = .ok (.getfield 40, 3) := by decide +kernel
theorem dX0_step_72 : decode cX0_step 72 = .ok (.aload_n 0, 1) := by decide +kernel
theorem dX0_step_73 : decode cX0_step 73 = .ok (.getfield 18, 3) := by decide +kernel
theorem dX0_step_76 : decode cX0_step 76 = .ok (.if_icmp .ne 21, 3) := by decide +kernel
theorem dX0_step_79 : decode cX0_step 79 = .ok (.aload_n 0, 1) := by decide +kernel
theorem dX0_step_80 : decode cX0_step 80 = .ok (.invokevirtual 90, 3) := by decide +kernel
theorem dX0_step_83 : decode cX0_step 83 = .ok (.aload_n 0, 1) := by decide +kernel
theorem dX0_step_84 : decode cX0_step 84 = .ok (.dup, 1) := by decide +kernel
theorem dX0_step_85 : decode cX0_step 85 = .ok (.getfield 67, 3) := by decide +kernel
theorem dX0_step_88 : decode cX0_step 88 = .ok (.iconst 1, 1) := by decide +kernel
theorem dX0_step_89 : decode cX0_step 89 = .ok (.iadd, 1) := by decide +kernel
theorem dX0_step_90 : decode cX0_step 90 = .ok (.putfield 67, 3) := by decide +kernel
theorem dX0_step_93 : decode cX0_step 93 = .ok (.aload_n 0, 1) := by decide +kernel
theorem dX0_step_94 : decode cX0_step 94 = .ok (.invokevirtual 70, 3) := by decide +kernel
theorem dX0_step_97 : decode cX0_step 97 = .ok (.iconst 1, 1) := by decide +kernel
theorem dX0_step_98 : decode cX0_step 98 = .ok (.ireturn, 1) := by decide +kernel
set_option maxRecDepth 20000 in
theorem ggX0_canTake_X3_isEnd : GoodIn wsX0_canTake wsX3_isEnd := goodIn_r _ [5] (by decide +kernel) (by decide +kernel)
set_option maxRecDepth 20000 in
theorem gX0_canTake_X3_isEnd_n56 : GoodIn wsX0_canTake (wsX3_isEnd) := ggX0_canTake_X3_isEnd
theorem dX0_canTake_0 : decode cX0_canTake 0 = .ok (.iload_n 1, 1) := by decide +kernel
theorem dX0_canTake_1 : decode cX0_canTake 1 = .ok (.invokestatic 56, 3) := by decide +kernel
theorem dX0_canTake_4 : decode cX0_canTake 4 = .ok (.ifCond .eq 28, 3) := by decide +kernel
theorem dX0_canTake_7 : decode cX0_canTake 7 = .ok (.aload_n 0, 1) := by decide +kernel
theorem dX0_canTake_8 : decode cX0_canTake 8 = .ok (.getfield 36, 3) := by decide +kernel
theorem dX0_canTake_11 : decode cX0_canTake 11 = .ok (.getfield 93, 3) := by decide +kernel
theorem dX0_canTake_14 : decode cX0_canTake 14 = .ok (.iload_n 1, 1) := by decide +kernel
theorem dX0_canTake_15 : decode cX0_canTake 15 = .ok (.baload, 1) := by decide +kernel
theorem dX0_canTake_16 : decode cX0_canTake 16 = .ok (.ifCond .eq 16, 3) := by decide +kernel
theorem dX0_canTake_19 : decode cX0_canTake 19 = .ok (.aload_n 0, 1) := by decide +kernel
theorem dX0_canTake_20 : decode cX0_canTake 20 = .ok (.getfield 26, 3) := by decide +kernel
theorem dX0_canTake_23 : decode cX0_canTake 23 = .ok (.iload_n 1, 1) := by decide +kernel
theorem dX0_canTake_24 : decode cX0_canTake 24 = .ok (.baload, 1) := by decide +kernel
theorem dX0_canTake_25 : decode cX0_canTake 25 = .ok (.ifCond .ne 7, 3) := by decide +kernel
theorem dX0_canTake_28 : decode cX0_canTake 28 = .ok (.iconst 1, 1) := by decide +kernel
theorem dX0_canTake_29 : decode cX0_canTake 29 = .ok (.goto 4, 3) := by decide +kernel
theorem dX0_canTake_32 : decode cX0_canTake 32 = .ok (.iconst 0, 1) := by decide +kernel
theorem dX0_canTake_33 : decode cX0_canTake 33 = .ok (.ireturn, 1) := by decide +kernel
set_option maxRecDepth 20000 in
theorem ggX0_rememberedEnd_X2_exitFor : GoodIn wsX0_rememberedEnd wsX2_exitFor := goodIn_r _ [9, 10, 11, 12, 13, 8, 14, 50, 51] (by decide +kernel) (by decide +kernel)
set_option maxRecDepth 20000 in
theorem gX0_rememberedEnd_X2_exitFor : GoodIn wsX0_rememberedEnd (wsV RX0 98 RX2 yX2_exitFor wsX2_exitFor) := goodIn_app (goodIn_of _ (by decide +kernel)) ggX0_rememberedEnd_X2_exitFor
set_option maxRecDepth 20000 in
theorem ggX0_rememberedEnd_X1_endAt : GoodIn wsX0_rememberedEnd wsX1_endAt := goodIn_r _ [19, 20, 21, 22, 23, 18, 24, 25, 52, 53, 54, 55, 56, 57, 58, 59] (by decide +kernel) (by decide +kernel)
set_option maxRecDepth 20000 in
theorem gX0_rememberedEnd_X1_endAt : GoodIn wsX0_rememberedEnd (wsV RX0 102 RX1 yX1_endAt wsX1_endAt) := goodIn_app (goodIn_of _ (by decide +kernel)) ggX0_rememberedEnd_X1_endAt
set_option maxRecDepth 20000 in
theorem ggX0_rememberedEnd_X0_canTake : GoodIn wsX0_rememberedEnd wsX0_canTake := goodIn_r _ [30, 1, 31, 32, 33, 34, 35, 36, 37, 38, 39, 40, 41, 42, 43, 44, 45, 46, 47, 48, 49, 52, 53, 54, 55, 56, 57, 58, 59] (by decide +kernel) (by decide +kernel)
set_option maxRecDepth 20000 in
theorem gX0_rememberedEnd_X0_canTake : GoodIn wsX0_rememberedEnd (wsV RX0 105 RX0 yX0_canTake wsX0_canTake) := goodIn_app (goodIn_of _ (by decide +kernel)) ggX0_rememberedEnd_X0_canTake
theorem dX0_rememberedEnd_0 : decode cX0_rememberedEnd 0 = .ok (.aload_n 0, 1) := by decide +kernel
theorem dX0_rememberedEnd_1 : decode cX0_rememberedEnd 1 = .ok (.getfield 36, 3) := by decide +kernel
theorem dX0_rememberedEnd_4 : decode cX0_rememberedEnd 4 = .ok (.aload_n 0, 1) := by decide +kernel
theorem dX0_rememberedEnd_5 : decode cX0_rememberedEnd 5 = .ok (.getfield 40, 3) := by decide +kernel
theorem dX0_rememberedEnd_8 : decode cX0_rememberedEnd 8 = .ok (.aload_n 0, 1) := by decide +kernel
theorem dX0_rememberedEnd_9 : decode cX0_rememberedEnd 9 = .ok (.getfield 12, 3) := by decide +kernel
theorem dX0_rememberedEnd_12 : decode cX0_rememberedEnd 12 = .ok (.aload_n 0, 1) := by decide +kernel
theorem dX0_rememberedEnd_13 : decode cX0_rememberedEnd 13 = .ok (.getfield 18, 3) := by decide +kernel
theorem dX0_rememberedEnd_16 : decode cX0_rememberedEnd 16 = .ok (.aload_n 0, 1) := by decide +kernel
theorem dX0_rememberedEnd_17 : decode cX0_rememberedEnd 17 = .ok (.getfield 40, 3) := by decide +kernel
theorem dX0_rememberedEnd_20 : decode cX0_rememberedEnd 20 = .ok (.invokevirtual 98, 3) := by decide +kernel
theorem dX0_rememberedEnd_23 : decode cX0_rememberedEnd 23 = .ok (.invokevirtual 102, 3) := by decide +kernel
theorem dX0_rememberedEnd_26 : decode cX0_rememberedEnd 26 = .ok (.istore_n 1, 1) := by decide +kernel
theorem dX0_rememberedEnd_27 : decode cX0_rememberedEnd 27 = .ok (.aload_n 0, 1) := by decide +kernel
theorem dX0_rememberedEnd_28 : decode cX0_rememberedEnd 28 = .ok (.iload_n 1, 1) := by decide +kernel
theorem dX0_rememberedEnd_29 : decode cX0_rememberedEnd 29 = .ok (.invokevirtual 105, 3) := by decide +kernel
theorem dX0_rememberedEnd_32 : decode cX0_rememberedEnd 32 = .ok (.ifCond .eq 7, 3) := by decide +kernel
theorem dX0_rememberedEnd_35 : decode cX0_rememberedEnd 35 = .ok (.iload_n 1, 1) := by decide +kernel
theorem dX0_rememberedEnd_36 : decode cX0_rememberedEnd 36 = .ok (.goto 4, 3) := by decide +kernel
theorem dX0_rememberedEnd_39 : decode cX0_rememberedEnd 39 = .ok (.iconst (-1), 1) := by decide +kernel
theorem dX0_rememberedEnd_40 : decode cX0_rememberedEnd 40 = .ok (.ireturn, 1) := by decide +kernel
set_option maxRecDepth 20000 in
theorem ggX0_askedEnd_X1_isPlace : GoodIn wsX0_askedEnd wsX1_isPlace := goodIn_r _ [13, 14, 76, 77, 78, 79, 80, 81, 82, 83] (by decide +kernel) (by decide +kernel)
set_option maxRecDepth 20000 in
theorem gX0_askedEnd_X1_isPlace : GoodIn wsX0_askedEnd (wsV RX0 108 RX1 yX1_isPlace wsX1_isPlace) := goodIn_app (goodIn_of _ (by decide +kernel)) ggX0_askedEnd_X1_isPlace
set_option maxRecDepth 20000 in
theorem ggX0_askedEnd_X1_endTowards : GoodIn wsX0_askedEnd wsX1_endTowards := goodIn_r _ [18, 19, 20, 21, 22, 23, 24, 12, 25, 26, 27, 28, 29, 30, 10, 11, 13, 14, 31, 32, 33, 34, 35, 36, 37, 38, 39, 40, 76, 77, 78, 79, 80, 81, 82, 83] (by decide +kernel) (by decide +kernel)
set_option maxRecDepth 20000 in
theorem gX0_askedEnd_X1_endTowards : GoodIn wsX0_askedEnd (wsV RX0 117 RX1 yX1_endTowards wsX1_endTowards) := goodIn_app (goodIn_of _ (by decide +kernel)) ggX0_askedEnd_X1_endTowards
set_option maxRecDepth 20000 in
theorem ggX0_askedEnd_X3_exitOfEnd : GoodIn wsX0_askedEnd wsX3_exitOfEnd := goodIn_r _ [42] (by decide +kernel) (by decide +kernel)
set_option maxRecDepth 20000 in
theorem gX0_askedEnd_X3_exitOfEnd_n120 : GoodIn wsX0_askedEnd (wsX3_exitOfEnd) := ggX0_askedEnd_X3_exitOfEnd
set_option maxRecDepth 20000 in
theorem ggX0_askedEnd_X2_learn : GoodIn wsX0_askedEnd wsX2_learn := goodIn_r _ [47, 48, 49, 50, 51, 46, 52, 84, 85] (by decide +kernel) (by decide +kernel)
set_option maxRecDepth 20000 in
theorem gX0_askedEnd_X2_learn : GoodIn wsX0_askedEnd (wsV RX0 124 RX2 yX2_learn wsX2_learn) := goodIn_app (goodIn_of _ (by decide +kernel)) ggX0_askedEnd_X2_learn
set_option maxRecDepth 20000 in
theorem ggX0_askedEnd_X0_canTake : GoodIn wsX0_askedEnd wsX0_canTake := goodIn_r _ [57, 1, 58, 59, 39, 60, 61, 62, 63, 64, 65, 66, 67, 68, 69, 70, 71, 72, 73, 74, 75, 76, 77, 78, 79, 80, 81, 82, 83] (by decide +kernel) (by decide +kernel)
set_option maxRecDepth 20000 in
theorem gX0_askedEnd_X0_canTake : GoodIn wsX0_askedEnd (wsV RX0 105 RX0 yX0_canTake wsX0_canTake) := goodIn_app (goodIn_of _ (by decide +kernel)) ggX0_askedEnd_X0_canTake
theorem dX0_askedEnd_0 : decode cX0_askedEnd 0 = .ok (.aload_n 0, 1) := by decide +kernel
theorem dX0_askedEnd_1 : decode cX0_askedEnd 1 = .ok (.getfield 36, 3) := by decide +kernel
theorem dX0_askedEnd_4 : decode cX0_askedEnd 4 = .ok (.aload_n 0, 1) := by decide +kernel
theorem dX0_askedEnd_5 : decode cX0_askedEnd 5 = .ok (.getfield 40, 3) := by decide +kernel
theorem dX0_askedEnd_8 : decode cX0_askedEnd 8 = .ok (.invokevirtual 108, 3) := by decide +kernel
theorem dX0_askedEnd_11 : decode cX0_askedEnd 11 = .ok (.ifCond .eq 33, 3) := by decide +kernel
theorem dX0_askedEnd_14 : decode cX0_askedEnd 14 = .ok (.aload_n 0, 1) := by decide +kernel
theorem dX0_askedEnd_15 : decode cX0_askedEnd 15 = .ok (.getfield 36, 3) := by decide +kernel
theorem dX0_askedEnd_18 : decode cX0_askedEnd 18 = .ok (.getfield 111, 3) := by decide +kernel
theorem dX0_askedEnd_21 : decode cX0_askedEnd 21 = .ok (.aload_n 0, 1) := by decide +kernel
theorem dX0_askedEnd_22 : decode cX0_askedEnd 22 = .ok (.getfield 40, 3) := by decide +kernel
theorem dX0_askedEnd_25 : decode cX0_askedEnd 25 = .ok (.baload, 1) := by decide +kernel
theorem dX0_askedEnd_26 : decode cX0_askedEnd 26 = .ok (.ifCond .ne 14, 3) := by decide +kernel
theorem dX0_askedEnd_29 : decode cX0_askedEnd 29 = .ok (.aload_n 0, 1) := by decide +kernel
theorem dX0_askedEnd_30 : decode cX0_askedEnd 30 = .ok (.getfield 40, 3) := by decide +kernel
theorem dX0_askedEnd_33 : decode cX0_askedEnd 33 = .ok (.aload_n 0, 1) := by decide +kernel
theorem dX0_askedEnd_34 : decode cX0_askedEnd 34 = .ok (.getfield 33, 3) := by decide +kernel
theorem dX0_askedEnd_37 : decode cX0_askedEnd 37 = .ok (.if_icmp .ne 7, 3) := by decide +kernel
theorem dX0_askedEnd_40 : decode cX0_askedEnd 40 = .ok (.iconst 1, 1) := by decide +kernel
theorem dX0_askedEnd_41 : decode cX0_askedEnd 41 = .ok (.goto 4, 3) := by decide +kernel
theorem dX0_askedEnd_44 : decode cX0_askedEnd 44 = .ok (.iconst 0, 1) := by decide +kernel
theorem dX0_askedEnd_45 : decode cX0_askedEnd 45 = .ok (.istore_n 1, 1) := by decide +kernel
theorem dX0_askedEnd_46 : decode cX0_askedEnd 46 = .ok (.iload_n 1, 1) := by decide +kernel
theorem dX0_askedEnd_47 : decode cX0_askedEnd 47 = .ok (.ifCond .eq 22, 3) := by decide +kernel
theorem dX0_askedEnd_50 : decode cX0_askedEnd 50 = .ok (.aload_n 0, 1) := by decide +kernel
theorem dX0_askedEnd_51 : decode cX0_askedEnd 51 = .ok (.getfield 30, 3) := by decide +kernel
theorem dX0_askedEnd_54 : decode cX0_askedEnd 54 = .ok (.aload_n 0, 1) := by decide +kernel
theorem dX0_askedEnd_55 : decode cX0_askedEnd 55 = .ok (.getfield 40, 3) := by decide +kernel
theorem dX0_askedEnd_58 : decode cX0_askedEnd 58 = .ok (.baload, 1) := by decide +kernel
theorem dX0_askedEnd_59 : decode cX0_askedEnd 59 = .ok (.ifCond .ne 10, 3) := by decide +kernel
theorem dX0_askedEnd_62 : decode cX0_askedEnd 62 = .ok (.aload_n 0, 1) := by decide +kernel
theorem dX0_askedEnd_63 : decode cX0_askedEnd 63 = .ok (.getfield 43, 3) := by decide +kernel
theorem dX0_askedEnd_66 : decode cX0_askedEnd 66 = .ok (.ifCond .ne 5, 3) := by decide +kernel
theorem dX0_askedEnd_69 : decode cX0_askedEnd 69 = .ok (.iconst (-1), 1) := by decide +kernel
theorem dX0_askedEnd_70 : decode cX0_askedEnd 70 = .ok (.ireturn, 1) := by decide +kernel
theorem dX0_askedEnd_71 : decode cX0_askedEnd 71 = .ok (.aload_n 0, 1) := by decide +kernel
theorem dX0_askedEnd_72 : decode cX0_askedEnd 72 = .ok (.dup, 1) := by decide +kernel
theorem dX0_askedEnd_73 : decode cX0_askedEnd 73 = .ok (.getfield 43, 3) := by decide +kernel
theorem dX0_askedEnd_76 : decode cX0_askedEnd 76 = .ok (.iconst 1, 1) := by decide +kernel
theorem dX0_askedEnd_77 : decode cX0_askedEnd 77 = .ok (.isub, 1) := by decide +kernel
theorem dX0_askedEnd_78 : decode cX0_askedEnd 78 = .ok (.putfield 43, 3) := by decide +kernel
theorem dX0_askedEnd_81 : decode cX0_askedEnd 81 = .ok (.aload_n 0, 1) := by decide +kernel
theorem dX0_askedEnd_82 : decode cX0_askedEnd 82 = .ok (.dup, 1) := by decide +kernel
theorem dX0_askedEnd_83 : decode cX0_askedEnd 83 = .ok (.getfield 114, 3) := by decide +kernel
theorem dX0_askedEnd_86 : decode cX0_askedEnd 86 = .ok (.iconst 1, 1) := by decide +kernel
theorem dX0_askedEnd_87 : decode cX0_askedEnd 87 = .ok (.iadd, 1) := by decide +kernel
theorem dX0_askedEnd_88 : decode cX0_askedEnd 88 = .ok (.putfield 114, 3) := by decide +kernel
theorem dX0_askedEnd_91 : decode cX0_askedEnd 91 = .ok (.aload_n 0, 1) := by decide +kernel
theorem dX0_askedEnd_92 : decode cX0_askedEnd 92 = .ok (.getfield 30, 3) := by decide +kernel
theorem dX0_askedEnd_95 : decode cX0_askedEnd 95 = .ok (.aload_n 0, 1) := by decide +kernel
theorem dX0_askedEnd_96 : decode cX0_askedEnd 96 = .ok (.getfield 40, 3) := by decide +kernel
theorem dX0_askedEnd_99 : decode cX0_askedEnd 99 = .ok (.iconst 1, 1) := by decide +kernel
theorem dX0_askedEnd_100 : decode cX0_askedEnd 100 = .ok (.bastore, 1) := by decide +kernel
theorem dX0_askedEnd_101 : decode cX0_askedEnd 101 = .ok (.aload_n 0, 1) := by decide +kernel
theorem dX0_askedEnd_102 : decode cX0_askedEnd 102 = .ok (.getfield 36, 3) := by decide +kernel
theorem dX0_askedEnd_105 : decode cX0_askedEnd 105 = .ok (.aload_n 0, 1) := by decide +kernel
theorem dX0_askedEnd_106 : decode cX0_askedEnd 106 = .ok (.getfield 40, 3) := by decide +kernel
theorem dX0_askedEnd_109 : decode cX0_askedEnd 109 = .ok (.aload_n 0, 1) := by decide +kernel
theorem dX0_askedEnd_110 : decode cX0_askedEnd 110 = .ok (.getfield 18, 3) := by decide +kernel
theorem dX0_askedEnd_113 : decode cX0_askedEnd 113 = .ok (.invokevirtual 117, 3) := by decide +kernel
theorem dX0_askedEnd_116 : decode cX0_askedEnd 116 = .ok (.istore_n 2, 1) := by decide +kernel
theorem dX0_askedEnd_117 : decode cX0_askedEnd 117 = .ok (.iload_n 2, 1) := by decide +kernel
theorem dX0_askedEnd_118 : decode cX0_askedEnd 118 = .ok (.iconst (-1), 1) := by decide +kernel
theorem dX0_askedEnd_119 : decode cX0_askedEnd 119 = .ok (.if_icmp .eq 22, 3) := by decide +kernel
theorem dX0_askedEnd_122 : decode cX0_askedEnd 122 = .ok (.aload_n 0, 1) := by decide +kernel
theorem dX0_askedEnd_123 : decode cX0_askedEnd 123 = .ok (.getfield 12, 3) := by decide +kernel
theorem dX0_askedEnd_126 : decode cX0_askedEnd 126 = .ok (.aload_n 0, 1) := by decide +kernel
theorem dX0_askedEnd_127 : decode cX0_askedEnd 127 = .ok (.getfield 18, 3) := by decide +kernel
theorem dX0_askedEnd_130 : decode cX0_askedEnd 130 = .ok (.aload_n 0, 1) := by decide +kernel
theorem dX0_askedEnd_131 : decode cX0_askedEnd 131 = .ok (.getfield 40, 3) := by decide +kernel
theorem dX0_askedEnd_134 : decode cX0_askedEnd 134 = .ok (.iload_n 2, 1) := by decide +kernel
theorem dX0_askedEnd_135 : decode cX0_askedEnd 135 = .ok (.invokestatic 120, 3) := by decide +kernel
theorem dX0_askedEnd_138 : decode cX0_askedEnd 138 = .ok (.invokevirtual 124, 3) := by decide +kernel
theorem dX0_askedEnd_141 : decode cX0_askedEnd 141 = .ok (.aload_n 0, 1) := by decide +kernel
theorem dX0_askedEnd_142 : decode cX0_askedEnd 142 = .ok (.iload_n 2, 1) := by decide +kernel
theorem dX0_askedEnd_143 : decode cX0_askedEnd 143 = .ok (.invokevirtual 105, 3) := by decide +kernel
theorem dX0_askedEnd_146 : decode cX0_askedEnd 146 = .ok (.ifCond .eq 7, 3) := by decide +kernel
theorem dX0_askedEnd_149 : decode cX0_askedEnd 149 = .ok (.iload_n 2, 1) := by decide +kernel
theorem dX0_askedEnd_150 : decode cX0_askedEnd 150 = .ok (.goto 4, 3) := by decide +kernel
theorem dX0_askedEnd_153 : decode cX0_askedEnd 153 = .ok (.iconst (-1), 1) := by decide +kernel
theorem dX0_askedEnd_154 : decode cX0_askedEnd 154 = .ok (.ireturn, 1) := by decide +kernel
set_option maxRecDepth 20000 in
theorem ggX0_firstUntried_X0_canTake : GoodIn wsX0_firstUntried wsX0_canTake := goodIn_r _ [6, 7, 8, 9, 10, 11, 12, 13, 14, 15, 16, 17, 18, 19, 20, 21, 22, 23, 24, 25, 26, 27, 28, 29, 30, 31, 32, 33, 34] (by decide +kernel) (by decide +kernel)
set_option maxRecDepth 20000 in
theorem gX0_firstUntried_X0_canTake : GoodIn wsX0_firstUntried (wsV RX0 105 RX0 yX0_canTake wsX0_canTake) := goodIn_app (goodIn_of _ (by decide +kernel)) ggX0_firstUntried_X0_canTake
theorem dX0_firstUntried_0 : decode cX0_firstUntried 0 = .ok (.iconst 0, 1) := by decide +kernel
theorem dX0_firstUntried_1 : decode cX0_firstUntried 1 = .ok (.istore_n 1, 1) := by decide +kernel
theorem dX0_firstUntried_2 : decode cX0_firstUntried 2 = .ok (.iload_n 1, 1) := by decide +kernel
theorem dX0_firstUntried_3 : decode cX0_firstUntried 3 = .ok (.iconst 4, 1) := by decide +kernel
theorem dX0_firstUntried_4 : decode cX0_firstUntried 4 = .ok (.if_icmp .ge 28, 3) := by decide +kernel
theorem dX0_firstUntried_7 : decode cX0_firstUntried 7 = .ok (.aload_n 0, 1) := by decide +kernel
theorem dX0_firstUntried_8 : decode cX0_firstUntried 8 = .ok (.getfield 40, 3) := by decide +kernel
theorem dX0_firstUntried_11 : decode cX0_firstUntried 11 = .ok (.iconst 4, 1) := by decide +kernel
theorem dX0_firstUntried_12 : decode cX0_firstUntried 12 = .ok (.imul, 1) := by decide +kernel
theorem dX0_firstUntried_13 : decode cX0_firstUntried 13 = .ok (.iload_n 1, 1) := by decide +kernel
theorem dX0_firstUntried_14 : decode cX0_firstUntried 14 = .ok (.iadd, 1) := by decide +kernel
theorem dX0_firstUntried_15 : decode cX0_firstUntried 15 = .ok (.istore_n 2, 1) := by decide +kernel
theorem dX0_firstUntried_16 : decode cX0_firstUntried 16 = .ok (.aload_n 0, 1) := by decide +kernel
theorem dX0_firstUntried_17 : decode cX0_firstUntried 17 = .ok (.iload_n 2, 1) := by decide +kernel
theorem dX0_firstUntried_18 : decode cX0_firstUntried 18 = .ok (.invokevirtual 105, 3) := by decide +kernel
theorem dX0_firstUntried_21 : decode cX0_firstUntried 21 = .ok (.ifCond .eq 5, 3) := by decide +kernel
theorem dX0_firstUntried_24 : decode cX0_firstUntried 24 = .ok (.iload_n 2, 1) := by decide +kernel
theorem dX0_firstUntried_25 : decode cX0_firstUntried 25 = .ok (.ireturn, 1) := by decide +kernel
theorem dX0_firstUntried_26 : decode cX0_firstUntried 26 = .ok (.iinc 1 1, 3) := by decide +kernel
theorem dX0_firstUntried_29 : decode cX0_firstUntried 29 = .ok (.goto (-27), 3) := by decide +kernel
theorem dX0_firstUntried_32 : decode cX0_firstUntried 32 = .ok (.iconst (-1), 1) := by decide +kernel
theorem dX0_firstUntried_33 : decode cX0_firstUntried 33 = .ok (.ireturn, 1) := by decide +kernel
set_option maxRecDepth 20000 in
theorem ggX0_take_X1_twinOf : GoodIn wsX0_take wsX1_twinOf := goodIn_r _ [11, 12, 13, 14, 15, 38, 39, 40, 41, 42, 43, 44, 45] (by decide +kernel) (by decide +kernel)
set_option maxRecDepth 20000 in
theorem gX0_take_X1_twinOf : GoodIn wsX0_take (wsV RX0 128 RX1 yX1_twinOf wsX1_twinOf) := goodIn_app (goodIn_of _ (by decide +kernel)) ggX0_take_X1_twinOf
set_option maxRecDepth 20000 in
theorem ggX0_take_X3_isEnd : GoodIn wsX0_take wsX3_isEnd := goodIn_r _ [15] (by decide +kernel) (by decide +kernel)
set_option maxRecDepth 20000 in
theorem gX0_take_X3_isEnd_n56 : GoodIn wsX0_take (wsX3_isEnd) := ggX0_take_X3_isEnd
set_option maxRecDepth 20000 in
theorem ggX0_take_X1_milesAt : GoodIn wsX0_take wsX1_milesAt := goodIn_r _ [19, 20, 13, 14, 15, 38, 39, 40, 41, 42, 43, 44, 45] (by decide +kernel) (by decide +kernel)
set_option maxRecDepth 20000 in
theorem gX0_take_X1_milesAt : GoodIn wsX0_take (wsV RX0 131 RX1 yX1_milesAt wsX1_milesAt) := goodIn_app (goodIn_of _ (by decide +kernel)) ggX0_take_X1_milesAt
set_option maxRecDepth 20000 in
theorem ggX0_take_X3_placeOfEnd : GoodIn wsX0_take wsX3_placeOfEnd := goodIn_r _ [22] (by decide +kernel) (by decide +kernel)
set_option maxRecDepth 20000 in
theorem gX0_take_X3_placeOfEnd_n134 : GoodIn wsX0_take (wsX3_placeOfEnd) := ggX0_take_X3_placeOfEnd
theorem dX0_take_0 : decode cX0_take 0 = .ok (.aload_n 0, 1) := by decide +kernel
theorem dX0_take_1 : decode cX0_take 1 = .ok (.getfield 36, 3) := by decide +kernel
theorem dX0_take_4 : decode cX0_take 4 = .ok (.iload_n 1, 1) := by decide +kernel
theorem dX0_take_5 : decode cX0_take 5 = .ok (.invokevirtual 128, 3) := by decide +kernel
theorem dX0_take_8 : decode cX0_take 8 = .ok (.istore_n 2, 1) := by decide +kernel
theorem dX0_take_9 : decode cX0_take 9 = .ok (.iload_n 1, 1) := by decide +kernel
theorem dX0_take_10 : decode cX0_take 10 = .ok (.invokestatic 56, 3) := by decide +kernel
theorem dX0_take_13 : decode cX0_take 13 = .ok (.ifCond .eq 19, 3) := by decide +kernel
theorem dX0_take_16 : decode cX0_take 16 = .ok (.iload_n 2, 1) := by decide +kernel
theorem dX0_take_17 : decode cX0_take 17 = .ok (.invokestatic 56, 3) := by decide +kernel
theorem dX0_take_20 : decode cX0_take 20 = .ok (.ifCond .eq 12, 3) := by decide +kernel
theorem dX0_take_23 : decode cX0_take 23 = .ok (.aload_n 0, 1) := by decide +kernel
theorem dX0_take_24 : decode cX0_take 24 = .ok (.getfield 64, 3) := by decide +kernel
theorem dX0_take_27 : decode cX0_take 27 = .ok (.bipush 20, 2) := by decide +kernel
theorem dX0_take_29 : decode cX0_take 29 = .ok (.if_icmp .lt 4, 3) := by decide +kernel
theorem dX0_take_32 : decode cX0_take 32 = .ok (.return_, 1) := by decide +kernel
theorem dX0_take_33 : decode cX0_take 33 = .ok (.aload_n 0, 1) := by decide +kernel
theorem dX0_take_34 : decode cX0_take 34 = .ok (.getfield 26, 3) := by decide +kernel
theorem dX0_take_37 : decode cX0_take 37 = .ok (.iload_n 1, 1) := by decide +kernel
theorem dX0_take_38 : decode cX0_take 38 = .ok (.iconst 1, 1) := by decide +kernel
theorem dX0_take_39 : decode cX0_take 39 = .ok (.bastore, 1) := by decide +kernel
theorem dX0_take_40 : decode cX0_take 40 = .ok (.aload_n 0, 1) := by decide +kernel
theorem dX0_take_41 : decode cX0_take 41 = .ok (.getfield 26, 3) := by decide +kernel
theorem dX0_take_44 : decode cX0_take 44 = .ok (.iload_n 2, 1) := by decide +kernel
theorem dX0_take_45 : decode cX0_take 45 = .ok (.iconst 1, 1) := by decide +kernel
theorem dX0_take_46 : decode cX0_take 46 = .ok (.bastore, 1) := by decide +kernel
theorem dX0_take_47 : decode cX0_take 47 = .ok (.aload_n 0, 1) := by decide +kernel
theorem dX0_take_48 : decode cX0_take 48 = .ok (.getfield 22, 3) := by decide +kernel
theorem dX0_take_51 : decode cX0_take 51 = .ok (.aload_n 0, 1) := by decide +kernel
theorem dX0_take_52 : decode cX0_take 52 = .ok (.getfield 64, 3) := by decide +kernel
theorem dX0_take_55 : decode cX0_take 55 = .ok (.iload_n 1, 1) := by decide +kernel
theorem dX0_take_56 : decode cX0_take 56 = .ok (.iastore, 1) := by decide +kernel
theorem dX0_take_57 : decode cX0_take 57 = .ok (.aload_n 0, 1) := by decide +kernel
theorem dX0_take_58 : decode cX0_take 58 = .ok (.dup, 1) := by decide +kernel
theorem dX0_take_59 : decode cX0_take 59 = .ok (.getfield 64, 3) := by decide +kernel
theorem dX0_take_62 : decode cX0_take 62 = .ok (.iconst 1, 1) := by decide +kernel
theorem dX0_take_63 : decode cX0_take 63 = .ok (.iadd, 1) := by decide +kernel
theorem dX0_take_64 : decode cX0_take 64 = .ok (.putfield 64, 3) := by decide +kernel
theorem dX0_take_67 : decode cX0_take 67 = .ok (.aload_n 0, 1) := by decide +kernel
theorem dX0_take_68 : decode cX0_take 68 = .ok (.dup, 1) := by decide +kernel
theorem dX0_take_69 : decode cX0_take 69 = .ok (.getfield 50, 3) := by decide +kernel
theorem dX0_take_72 : decode cX0_take 72 = .ok (.aload_n 0, 1) := by decide +kernel
theorem dX0_take_73 : decode cX0_take 73 = .ok (.getfield 36, 3) := by decide +kernel
theorem dX0_take_76 : decode cX0_take 76 = .ok (.iload_n 1, 1) := by decide +kernel
theorem dX0_take_77 : decode cX0_take 77 = .ok (.invokevirtual 131, 3) := by decide +kernel
theorem dX0_take_80 : decode cX0_take 80 = .ok (.iadd, 1) := by decide +kernel
theorem dX0_take_81 : decode cX0_take 81 = .ok (.putfield 50, 3) := by decide +kernel
theorem dX0_take_84 : decode cX0_take 84 = .ok (.aload_n 0, 1) := by decide +kernel
theorem dX0_take_85 : decode cX0_take 85 = .ok (.iload_n 2, 1) := by decide +kernel
theorem dX0_take_86 : decode cX0_take 86 = .ok (.invokestatic 134, 3) := by decide +kernel
theorem dX0_take_89 : decode cX0_take 89 = .ok (.putfield 40, 3) := by decide +kernel
theorem dX0_take_92 : decode cX0_take 92 = .ok (.return_, 1) := by decide +kernel
set_option maxRecDepth 20000 in
theorem ggX0_doubleBack_X1_milesAt : GoodIn wsX0_doubleBack wsX1_milesAt := goodIn_r _ [11, 12, 13, 14, 15, 33, 34, 35, 36, 37, 38, 39, 40] (by decide +kernel) (by decide +kernel)
set_option maxRecDepth 20000 in
theorem gX0_doubleBack_X1_milesAt : GoodIn wsX0_doubleBack (wsV RX0 131 RX1 yX1_milesAt wsX1_milesAt) := goodIn_app (goodIn_of _ (by decide +kernel)) ggX0_doubleBack_X1_milesAt
set_option maxRecDepth 20000 in
theorem ggX0_doubleBack_X3_placeOfEnd : GoodIn wsX0_doubleBack wsX3_placeOfEnd := goodIn_r _ [17] (by decide +kernel) (by decide +kernel)
set_option maxRecDepth 20000 in
theorem gX0_doubleBack_X3_placeOfEnd_n134 : GoodIn wsX0_doubleBack (wsX3_placeOfEnd) := ggX0_doubleBack_X3_placeOfEnd
theorem dX0_doubleBack_0 : decode cX0_doubleBack 0 = .ok (.aload_n 0, 1) := by decide +kernel
theorem dX0_doubleBack_1 : decode cX0_doubleBack 1 = .ok (.getfield 64, 3) := by decide +kernel
theorem dX0_doubleBack_4 : decode cX0_doubleBack 4 = .ok (.iconst 1, 1) := by decide +kernel
theorem dX0_doubleBack_5 : decode cX0_doubleBack 5 = .ok (.isub, 1) := by decide +kernel
theorem dX0_doubleBack_6 : decode cX0_doubleBack 6 = .ok (.istore_n 1, 1) := by decide +kernel
theorem dX0_doubleBack_7 : decode cX0_doubleBack 7 = .ok (.iload_n 1, 1) := by decide +kernel
theorem dX0_doubleBack_8 : decode cX0_doubleBack 8 = .ok (.ifCond .lt 9, 3) := by decide +kernel
theorem dX0_doubleBack_11 : decode cX0_doubleBack 11 = .ok (.iload_n 1, 1) := by decide +kernel
theorem dX0_doubleBack_12 : decode cX0_doubleBack 12 = .ok (.bipush 20, 2) := by decide +kernel
theorem dX0_doubleBack_14 : decode cX0_doubleBack 14 = .ok (.if_icmp .lt 4, 3) := by decide +kernel
theorem dX0_doubleBack_17 : decode cX0_doubleBack 17 = .ok (.return_, 1) := by decide +kernel
theorem dX0_doubleBack_18 : decode cX0_doubleBack 18 = .ok (.aload_n 0, 1) := by decide +kernel
theorem dX0_doubleBack_19 : decode cX0_doubleBack 19 = .ok (.iload_n 1, 1) := by decide +kernel
theorem dX0_doubleBack_20 : decode cX0_doubleBack 20 = .ok (.putfield 64, 3) := by decide +kernel
theorem dX0_doubleBack_23 : decode cX0_doubleBack 23 = .ok (.aload_n 0, 1) := by decide +kernel
theorem dX0_doubleBack_24 : decode cX0_doubleBack 24 = .ok (.getfield 22, 3) := by decide +kernel
theorem dX0_doubleBack_27 : decode cX0_doubleBack 27 = .ok (.iload_n 1, 1) := by decide +kernel
theorem dX0_doubleBack_28 : decode cX0_doubleBack 28 = .ok (.iaload, 1) := by decide +kernel
theorem dX0_doubleBack_29 : decode cX0_doubleBack 29 = .ok (.istore_n 2, 1) := by decide +kernel
theorem dX0_doubleBack_30 : decode cX0_doubleBack 30 = .ok (.aload_n 0, 1) := by decide +kernel
theorem dX0_doubleBack_31 : decode cX0_doubleBack 31 = .ok (.getfield 36, 3) := by decide +kernel
theorem dX0_doubleBack_34 : decode cX0_doubleBack 34 = .ok (.iload_n 2, 1) := by decide +kernel
theorem dX0_doubleBack_35 : decode cX0_doubleBack 35 = .ok (.invokevirtual 131, 3) := by decide +kernel
theorem dX0_doubleBack_38 : decode cX0_doubleBack 38 = .ok (.istore_n 3, 1) := by decide +kernel
theorem dX0_doubleBack_39 : decode cX0_doubleBack 39 = .ok (.aload_n 0, 1) := by decide +kernel
theorem dX0_doubleBack_40 : decode cX0_doubleBack 40 = .ok (.dup, 1) := by decide +kernel
theorem dX0_doubleBack_41 : decode cX0_doubleBack 41 = .ok (.getfield 50, 3) := by decide +kernel
theorem dX0_doubleBack_44 : decode cX0_doubleBack 44 = .ok (.iload_n 3, 1) := by decide +kernel
theorem dX0_doubleBack_45 : decode cX0_doubleBack 45 = .ok (.iadd, 1) := by decide +kernel
theorem dX0_doubleBack_46 : decode cX0_doubleBack 46 = .ok (.putfield 50, 3) := by decide +kernel
theorem dX0_doubleBack_49 : decode cX0_doubleBack 49 = .ok (.aload_n 0, 1) := by decide +kernel
theorem dX0_doubleBack_50 : decode cX0_doubleBack 50 = .ok (.dup, 1) := by decide +kernel
theorem dX0_doubleBack_51 : decode cX0_doubleBack 51 = .ok (.getfield 137, 3) := by decide +kernel
theorem dX0_doubleBack_54 : decode cX0_doubleBack 54 = .ok (.iload_n 3, 1) := by decide +kernel
theorem dX0_doubleBack_55 : decode cX0_doubleBack 55 = .ok (.iadd, 1) := by decide +kernel
theorem dX0_doubleBack_56 : decode cX0_doubleBack 56 = .ok (.putfield 137, 3) := by decide +kernel
theorem dX0_doubleBack_59 : decode cX0_doubleBack 59 = .ok (.aload_n 0, 1) := by decide +kernel
theorem dX0_doubleBack_60 : decode cX0_doubleBack 60 = .ok (.iload_n 2, 1) := by decide +kernel
theorem dX0_doubleBack_61 : decode cX0_doubleBack 61 = .ok (.invokestatic 134, 3) := by decide +kernel
theorem dX0_doubleBack_64 : decode cX0_doubleBack 64 = .ok (.putfield 40, 3) := by decide +kernel
theorem dX0_doubleBack_67 : decode cX0_doubleBack 67 = .ok (.return_, 1) := by decide +kernel
set_option maxRecDepth 20000 in
theorem ggX0_rememberWay_X3_placeOfEnd : GoodIn wsX0_rememberWay wsX3_placeOfEnd := goodIn_r _ [7] (by decide +kernel) (by decide +kernel)
set_option maxRecDepth 20000 in
theorem gX0_rememberWay_X3_placeOfEnd_n134 : GoodIn wsX0_rememberWay (wsX3_placeOfEnd) := ggX0_rememberWay_X3_placeOfEnd
set_option maxRecDepth 20000 in
theorem ggX0_rememberWay_X3_exitOfEnd : GoodIn wsX0_rememberWay wsX3_exitOfEnd := goodIn_r _ [9] (by decide +kernel) (by decide +kernel)
set_option maxRecDepth 20000 in
theorem gX0_rememberWay_X3_exitOfEnd_n120 : GoodIn wsX0_rememberWay (wsX3_exitOfEnd) := ggX0_rememberWay_X3_exitOfEnd
set_option maxRecDepth 20000 in
theorem ggX0_rememberWay_X2_confirm : GoodIn wsX0_rememberWay wsX2_confirm := goodIn_r _ [14, 15, 16, 17, 18, 19, 20, 21, 22, 13, 23, 24, 25, 26, 27, 43, 44] (by decide +kernel) (by decide +kernel)
set_option maxRecDepth 20000 in
theorem gX0_rememberWay_X2_confirm : GoodIn wsX0_rememberWay (wsV RX0 140 RX2 yX2_confirm wsX2_confirm) := goodIn_app (goodIn_of _ (by decide +kernel)) ggX0_rememberWay_X2_confirm
theorem dX0_rememberWay_0 : decode cX0_rememberWay 0 = .ok (.iconst 0, 1) := by decide +kernel
theorem dX0_rememberWay_1 : decode cX0_rememberWay 1 = .ok (.istore_n 1, 1) := by decide +kernel
theorem dX0_rememberWay_2 : decode cX0_rememberWay 2 = .ok (.iload_n 1, 1) := by decide +kernel
theorem dX0_rememberWay_3 : decode cX0_rememberWay 3 = .ok (.aload_n 0, 1) := by decide +kernel
theorem dX0_rememberWay_4 : decode cX0_rememberWay 4 = .ok (.getfield 64, 3) := by decide +kernel
theorem dX0_rememberWay_7 : decode cX0_rememberWay 7 = .ok (.if_icmp .ge 44, 3) := by decide +kernel
theorem dX0_rememberWay_10 : decode cX0_rememberWay 10 = .ok (.iload_n 1, 1) := by decide +kernel
theorem dX0_rememberWay_11 : decode cX0_rememberWay 11 = .ok (.bipush 20, 2) := by decide +kernel
theorem dX0_rememberWay_13 : decode cX0_rememberWay 13 = .ok (.if_icmp .ge 38, 3) := by decide +kernel
theorem dX0_rememberWay_16 : decode cX0_rememberWay 16 = .ok (.aload_n 0, 1) := by decide +kernel
theorem dX0_rememberWay_17 : decode cX0_rememberWay 17 = .ok (.getfield 12, 3) := by decide +kernel
theorem dX0_rememberWay_20 : decode cX0_rememberWay 20 = .ok (.aload_n 0, 1) := by decide +kernel
theorem dX0_rememberWay_21 : decode cX0_rememberWay 21 = .ok (.getfield 18, 3) := by decide +kernel
theorem dX0_rememberWay_24 : decode cX0_rememberWay 24 = .ok (.aload_n 0, 1) := by decide +kernel
theorem dX0_rememberWay_25 : decode cX0_rememberWay 25 = .ok (.getfield 22, 3) := by decide +kernel
theorem dX0_rememberWay_28 : decode cX0_rememberWay 28 = .ok (.iload_n 1, 1) := by decide +kernel
theorem dX0_rememberWay_29 : decode cX0_rememberWay 29 = .ok (.iaload, 1) := by decide +kernel
theorem dX0_rememberWay_30 : decode cX0_rememberWay 30 = .ok (.invokestatic 134, 3) := by decide +kernel
theorem dX0_rememberWay_33 : decode cX0_rememberWay 33 = .ok (.aload_n 0, 1) := by decide +kernel
theorem dX0_rememberWay_34 : decode cX0_rememberWay 34 = .ok (.getfield 22, 3) := by decide +kernel
theorem dX0_rememberWay_37 : decode cX0_rememberWay 37 = .ok (.iload_n 1, 1) := by decide +kernel
theorem dX0_rememberWay_38 : decode cX0_rememberWay 38 = .ok (.iaload, 1) := by decide +kernel
theorem dX0_rememberWay_39 : decode cX0_rememberWay 39 = .ok (.invokestatic 120, 3) := by decide +kernel
theorem dX0_rememberWay_42 : decode cX0_rememberWay 42 = .ok (.invokevirtual 140, 3) := by decide +kernel
theorem dX0_rememberWay_45 : decode cX0_rememberWay 45 = .ok (.iinc 1 1, 3) := by decide +kernel
theorem dX0_rememberWay_48 : decode cX0_rememberWay 48 = .ok (.goto (-46), 3) := by decide +kernel
theorem dX0_rememberWay_51 : decode cX0_rememberWay 51 = .ok (.return_, 1) := by decide +kernel
set_option maxRecDepth 20000 in
theorem ggX0_findsByMemory_X2_exitFor : GoodIn wsX0_findsByMemory wsX2_exitFor := goodIn_r _ [8, 9, 10, 11, 12, 7, 13, 53, 54] (by decide +kernel) (by decide +kernel)
set_option maxRecDepth 20000 in
theorem gX0_findsByMemory_X2_exitFor : GoodIn wsX0_findsByMemory (wsV RX0 98 RX2 yX2_exitFor wsX2_exitFor) := goodIn_app (goodIn_of _ (by decide +kernel)) ggX0_findsByMemory_X2_exitFor
set_option maxRecDepth 20000 in
theorem ggX0_findsByMemory_X1_endAt : GoodIn wsX0_findsByMemory wsX1_endAt := goodIn_r _ [18, 19, 20, 21, 22, 17, 23, 24, 55, 56, 57, 58, 59, 60, 61, 62] (by decide +kernel) (by decide +kernel)
set_option maxRecDepth 20000 in
theorem gX0_findsByMemory_X1_endAt : GoodIn wsX0_findsByMemory (wsV RX0 102 RX1 yX1_endAt wsX1_endAt) := goodIn_app (goodIn_of _ (by decide +kernel)) ggX0_findsByMemory_X1_endAt
set_option maxRecDepth 20000 in
theorem ggX0_findsByMemory_X1_opensAt : GoodIn wsX0_findsByMemory wsX1_opensAt := goodIn_r _ [28, 29, 30, 31, 32, 55, 56, 57, 58, 59, 60, 61, 62] (by decide +kernel) (by decide +kernel)
set_option maxRecDepth 20000 in
theorem gX0_findsByMemory_X1_opensAt : GoodIn wsX0_findsByMemory (wsV RX0 143 RX1 yX1_opensAt wsX1_opensAt) := goodIn_app (goodIn_of _ (by decide +kernel)) ggX0_findsByMemory_X1_opensAt
set_option maxRecDepth 20000 in
theorem ggX0_findsByMemory_X1_beyond : GoodIn wsX0_findsByMemory wsX1_beyond := goodIn_r _ [36, 37, 30, 31, 32, 55, 56, 57, 58, 59, 60, 61, 62] (by decide +kernel) (by decide +kernel)
set_option maxRecDepth 20000 in
theorem gX0_findsByMemory_X1_beyond : GoodIn wsX0_findsByMemory (wsV RX0 146 RX1 yX1_beyond wsX1_beyond) := goodIn_app (goodIn_of _ (by decide +kernel)) ggX0_findsByMemory_X1_beyond
theorem dX0_findsByMemory_0 : decode cX0_findsByMemory 0 = .ok (.aload_n 0, 1) := by decide +kernel
theorem dX0_findsByMemory_1 : decode cX0_findsByMemory 1 = .ok (.getfield 40, 3) := by decide +kernel
theorem dX0_findsByMemory_4 : decode cX0_findsByMemory 4 = .ok (.istore_n 2, 1) := by decide +kernel
theorem dX0_findsByMemory_5 : decode cX0_findsByMemory 5 = .ok (.iconst 0, 1) := by decide +kernel
theorem dX0_findsByMemory_6 : decode cX0_findsByMemory 6 = .ok (.istore_n 3, 1) := by decide +kernel
theorem dX0_findsByMemory_7 : decode cX0_findsByMemory 7 = .ok (.iload_n 3, 1) := by decide +kernel
theorem dX0_findsByMemory_8 : decode cX0_findsByMemory 8 = .ok (.bipush 10, 2) := by decide +kernel
theorem dX0_findsByMemory_10 : decode cX0_findsByMemory 10 = .ok (.if_icmp .ge 57, 3) := by decide +kernel
theorem dX0_findsByMemory_13 : decode cX0_findsByMemory 13 = .ok (.iload_n 2, 1) := by decide +kernel
theorem dX0_findsByMemory_14 : decode cX0_findsByMemory 14 = .ok (.iload_n 1, 1) := by decide +kernel
theorem dX0_findsByMemory_15 : decode cX0_findsByMemory 15 = .ok (.if_icmp .eq 52, 3) := by decide +kernel
theorem dX0_findsByMemory_18 : decode cX0_findsByMemory 18 = .ok (.aload_n 0, 1) := by decide +kernel
theorem dX0_findsByMemory_19 : decode cX0_findsByMemory 19 = .ok (.getfield 36, 3) := by decide +kernel
theorem dX0_findsByMemory_22 : decode cX0_findsByMemory 22 = .ok (.iload_n 2, 1) := by decide +kernel
theorem dX0_findsByMemory_23 : decode cX0_findsByMemory 23 = .ok (.aload_n 0, 1) := by decide +kernel
theorem dX0_findsByMemory_24 : decode cX0_findsByMemory 24 = .ok (.getfield 12, 3) := by decide +kernel
theorem dX0_findsByMemory_27 : decode cX0_findsByMemory 27 = .ok (.iload_n 1, 1) := by decide +kernel
theorem dX0_findsByMemory_28 : decode cX0_findsByMemory 28 = .ok (.iload_n 2, 1) := by decide +kernel
theorem dX0_findsByMemory_29 : decode cX0_findsByMemory 29 = .ok (.invokevirtual 98, 3) := by decide +kernel
theorem dX0_findsByMemory_32 : decode cX0_findsByMemory 32 = .ok (.invokevirtual 102, 3) := by decide +kernel
theorem dX0_findsByMemory_35 : decode cX0_findsByMemory 35 = .ok (.istore 4, 2) := by decide +kernel
theorem dX0_findsByMemory_37 : decode cX0_findsByMemory 37 = .ok (.aload_n 0, 1) := by decide +kernel
theorem dX0_findsByMemory_38 : decode cX0_findsByMemory 38 = .ok (.getfield 36, 3) := by decide +kernel
theorem dX0_findsByMemory_41 : decode cX0_findsByMemory 41 = .ok (.iload 4, 2) := by decide +kernel
theorem dX0_findsByMemory_43 : decode cX0_findsByMemory 43 = .ok (.invokevirtual 143, 3) := by decide +kernel
theorem dX0_findsByMemory_46 : decode cX0_findsByMemory 46 = .ok (.ifCond .ne 5, 3) := by decide +kernel
theorem dX0_findsByMemory_49 : decode cX0_findsByMemory 49 = .ok (.iconst 0, 1) := by decide +kernel
theorem dX0_findsByMemory_50 : decode cX0_findsByMemory 50 = .ok (.ireturn, 1) := by decide +kernel
theorem dX0_findsByMemory_51 : decode cX0_findsByMemory 51 = .ok (.aload_n 0, 1) := by decide +kernel
theorem dX0_findsByMemory_52 : decode cX0_findsByMemory 52 = .ok (.getfield 36, 3) := by decide +kernel
theorem dX0_findsByMemory_55 : decode cX0_findsByMemory 55 = .ok (.iload 4, 2) := by decide +kernel
theorem dX0_findsByMemory_57 : decode cX0_findsByMemory 57 = .ok (.invokevirtual 146, 3) := by decide +kernel
theorem dX0_findsByMemory_60 : decode cX0_findsByMemory 60 = .ok (.istore_n 2, 1) := by decide +kernel
theorem dX0_findsByMemory_61 : decode cX0_findsByMemory 61 = .ok (.iinc 3 1, 3) := by decide +kernel
theorem dX0_findsByMemory_64 : decode cX0_findsByMemory 64 = .ok (.goto (-57), 3) := by decide +kernel
theorem dX0_findsByMemory_67 : decode cX0_findsByMemory 67 = .ok (.iload_n 2, 1) := by decide +kernel
theorem dX0_findsByMemory_68 : decode cX0_findsByMemory 68 = .ok (.iload_n 1, 1) := by decide +kernel
theorem dX0_findsByMemory_69 : decode cX0_findsByMemory 69 = .ok (.if_icmp .ne 7, 3) := by decide +kernel
theorem dX0_findsByMemory_72 : decode cX0_findsByMemory 72 = .ok (.iconst 1, 1) := by decide +kernel
theorem dX0_findsByMemory_73 : decode cX0_findsByMemory 73 = .ok (.goto 4, 3) := by decide +kernel
theorem dX0_findsByMemory_76 : decode cX0_findsByMemory 76 = .ok (.iconst 0, 1) := by decide +kernel
theorem dX0_findsByMemory_77 : decode cX0_findsByMemory 77 = .ok (.ireturn, 1) := by decide +kernel
theorem dX0_forget_0 : decode cX0_forget 0 = .ok (.iconst 0, 1) := by decide +kernel
theorem dX0_forget_1 : decode cX0_forget 1 = .ok (.istore_n 1, 1) := by decide +kernel
theorem dX0_forget_2 : decode cX0_forget 2 = .ok (.iload_n 1, 1) := by decide +kernel
theorem dX0_forget_3 : decode cX0_forget 3 = .ok (.aload_n 0, 1) := by decide +kernel
theorem dX0_forget_4 : decode cX0_forget 4 = .ok (.arraylength, 1) := by decide +kernel
theorem dX0_forget_5 : decode cX0_forget 5 = .ok (.if_icmp .ge 13, 3) := by decide +kernel
theorem dX0_forget_8 : decode cX0_forget 8 = .ok (.aload_n 0, 1) := by decide +kernel
theorem dX0_forget_9 : decode cX0_forget 9 = .ok (.iload_n 1, 1) := by decide +kernel
theorem dX0_forget_10 : decode cX0_forget 10 = .ok (.iconst 0, 1) := by decide +kernel
theorem dX0_forget_11 : decode cX0_forget 11 = .ok (.bastore, 1) := by decide +kernel
theorem dX0_forget_12 : decode cX0_forget 12 = .ok (.iinc 1 1, 3) := by decide +kernel
theorem dX0_forget_15 : decode cX0_forget 15 = .ok (.goto (-13), 3) := by decide +kernel
theorem dX0_forget_18 : decode cX0_forget 18 = .ok (.return_, 1) := by decide +kernel
theorem dX1_init_0 : decode cX1_init 0 = .ok (.aload_n 0, 1) := by decide +kernel
theorem dX1_init_1 : decode cX1_init 1 = .ok (.invokespecial 3, 3) := by decide +kernel
theorem dX1_init_4 : decode cX1_init 4 = .ok (.aload_n 0, 1) := by decide +kernel
theorem dX1_init_5 : decode cX1_init 5 = .ok (.bipush 10, 2) := by decide +kernel
theorem dX1_init_7 : decode cX1_init 7 = .ok (.newarray .int, 2) := by decide +kernel
theorem dX1_init_9 : decode cX1_init 9 = .ok (.putfield 9, 3) := by decide +kernel
theorem dX1_init_12 : decode cX1_init 12 = .ok (.aload_n 0, 1) := by decide +kernel
theorem dX1_init_13 : decode cX1_init 13 = .ok (.bipush 10, 2) := by decide +kernel
theorem dX1_init_15 : decode cX1_init 15 = .ok (.newarray .boolean, 2) := by decide +kernel
theorem dX1_init_17 : decode cX1_init 17 = .ok (.putfield 15, 3) := by decide +kernel
theorem dX1_init_20 : decode cX1_init 20 = .ok (.aload_n 0, 1) := by decide +kernel
theorem dX1_init_21 : decode cX1_init 21 = .ok (.bipush 40, 2) := by decide +kernel
theorem dX1_init_23 : decode cX1_init 23 = .ok (.newarray .int, 2) := by decide +kernel
theorem dX1_init_25 : decode cX1_init 25 = .ok (.putfield 19, 3) := by decide +kernel
theorem dX1_init_28 : decode cX1_init 28 = .ok (.aload_n 0, 1) := by decide +kernel
theorem dX1_init_29 : decode cX1_init 29 = .ok (.bipush 40, 2) := by decide +kernel
theorem dX1_init_31 : decode cX1_init 31 = .ok (.newarray .int, 2) := by decide +kernel
theorem dX1_init_33 : decode cX1_init 33 = .ok (.putfield 22, 3) := by decide +kernel
theorem dX1_init_36 : decode cX1_init 36 = .ok (.aload_n 0, 1) := by decide +kernel
theorem dX1_init_37 : decode cX1_init 37 = .ok (.bipush 40, 2) := by decide +kernel
theorem dX1_init_39 : decode cX1_init 39 = .ok (.newarray .int, 2) := by decide +kernel
theorem dX1_init_41 : decode cX1_init 41 = .ok (.putfield 25, 3) := by decide +kernel
theorem dX1_init_44 : decode cX1_init 44 = .ok (.aload_n 0, 1) := by decide +kernel
theorem dX1_init_45 : decode cX1_init 45 = .ok (.bipush 40, 2) := by decide +kernel
theorem dX1_init_47 : decode cX1_init 47 = .ok (.newarray .boolean, 2) := by decide +kernel
theorem dX1_init_49 : decode cX1_init 49 = .ok (.putfield 28, 3) := by decide +kernel
theorem dX1_init_52 : decode cX1_init 52 = .ok (.aload_n 0, 1) := by decide +kernel
theorem dX1_init_53 : decode cX1_init 53 = .ok (.bipush 10, 2) := by decide +kernel
theorem dX1_init_55 : decode cX1_init 55 = .ok (.newarray .int, 2) := by decide +kernel
theorem dX1_init_57 : decode cX1_init 57 = .ok (.putfield 31, 3) := by decide +kernel
theorem dX1_init_60 : decode cX1_init 60 = .ok (.return_, 1) := by decide +kernel
theorem dX1_isPlace_0 : decode cX1_isPlace 0 = .ok (.iload_n 1, 1) := by decide +kernel
theorem dX1_isPlace_1 : decode cX1_isPlace 1 = .ok (.ifCond .lt 15, 3) := by decide +kernel
theorem dX1_isPlace_4 : decode cX1_isPlace 4 = .ok (.iload_n 1, 1) := by decide +kernel
theorem dX1_isPlace_5 : decode cX1_isPlace 5 = .ok (.aload_n 0, 1) := by decide +kernel
theorem dX1_isPlace_6 : decode cX1_isPlace 6 = .ok (.getfield 34, 3) := by decide +kernel
theorem dX1_isPlace_9 : decode cX1_isPlace 9 = .ok (.if_icmp .ge 7, 3) := by decide +kernel
theorem dX1_isPlace_12 : decode cX1_isPlace 12 = .ok (.iconst 1, 1) := by decide +kernel
theorem dX1_isPlace_13 : decode cX1_isPlace 13 = .ok (.goto 4, 3) := by decide +kernel
theorem dX1_isPlace_16 : decode cX1_isPlace 16 = .ok (.iconst 0, 1) := by decide +kernel
theorem dX1_isPlace_17 : decode cX1_isPlace 17 = .ok (.ireturn, 1) := by decide +kernel
set_option maxRecDepth 20000 in
theorem ggX1_hasRoom_X1_isPlace : GoodIn wsX1_hasRoom wsX1_isPlace := goodIn_r _ [6, 7, 8, 9, 10, 11, 12, 13, 14, 15] (by decide +kernel) (by decide +kernel)
set_option maxRecDepth 20000 in
theorem gX1_hasRoom_X1_isPlace : GoodIn wsX1_hasRoom (wsV RX1 38 RX1 yX1_isPlace wsX1_isPlace) := goodIn_app (goodIn_of _ (by decide +kernel)) ggX1_hasRoom_X1_isPlace
theorem dX1_hasRoom_0 : decode cX1_hasRoom 0 = .ok (.aload_n 0, 1) := by decide +kernel
theorem dX1_hasRoom_1 : decode cX1_hasRoom 1 = .ok (.iload_n 1, 1) := by decide +kernel
theorem dX1_hasRoom_2 : decode cX1_hasRoom 2 = .ok (.invokevirtual 38, 3) := by decide +kernel
theorem dX1_hasRoom_5 : decode cX1_hasRoom 5 = .ok (.ifCond .eq 17, 3) := by decide +kernel
theorem dX1_hasRoom_8 : decode cX1_hasRoom 8 = .ok (.aload_n 0, 1) := by decide +kernel
theorem dX1_hasRoom_9 : decode cX1_hasRoom 9 = .ok (.getfield 9, 3) := by decide +kernel
theorem dX1_hasRoom_12 : decode cX1_hasRoom 12 = .ok (.iload_n 1, 1) := by decide +kernel
theorem dX1_hasRoom_13 : decode cX1_hasRoom 13 = .ok (.iaload, 1) := by decide +kernel
theorem dX1_hasRoom_14 : decode cX1_hasRoom 14 = .ok (.iconst 4, 1) := by decide +kernel
theorem dX1_hasRoom_15 : decode cX1_hasRoom 15 = .ok (.if_icmp .ge 7, 3) := by decide +kernel
theorem dX1_hasRoom_18 : decode cX1_hasRoom 18 = .ok (.iconst 1, 1) := by decide +kernel
theorem dX1_hasRoom_19 : decode cX1_hasRoom 19 = .ok (.goto 4, 3) := by decide +kernel
theorem dX1_hasRoom_22 : decode cX1_hasRoom 22 = .ok (.iconst 0, 1) := by decide +kernel
theorem dX1_hasRoom_23 : decode cX1_hasRoom 23 = .ok (.ireturn, 1) := by decide +kernel
set_option maxRecDepth 20000 in
theorem ggX1_endAt_X1_isPlace : GoodIn wsX1_endAt wsX1_isPlace := goodIn_r _ [6, 7, 8, 9, 10, 11, 12, 13, 14, 15] (by decide +kernel) (by decide +kernel)
set_option maxRecDepth 20000 in
theorem gX1_endAt_X1_isPlace : GoodIn wsX1_endAt (wsV RX1 38 RX1 yX1_isPlace wsX1_isPlace) := goodIn_app (goodIn_of _ (by decide +kernel)) ggX1_endAt_X1_isPlace
theorem dX1_endAt_0 : decode cX1_endAt 0 = .ok (.aload_n 0, 1) := by decide +kernel
theorem dX1_endAt_1 : decode cX1_endAt 1 = .ok (.iload_n 1, 1) := by decide +kernel
theorem dX1_endAt_2 : decode cX1_endAt 2 = .ok (.invokevirtual 38, 3) := by decide +kernel
theorem dX1_endAt_5 : decode cX1_endAt 5 = .ok (.ifCond .eq 21, 3) := by decide +kernel
theorem dX1_endAt_8 : decode cX1_endAt 8 = .ok (.iload_n 2, 1) := by decide +kernel
theorem dX1_endAt_9 : decode cX1_endAt 9 = .ok (.ifCond .lt 17, 3) := by decide +kernel
theorem dX1_endAt_12 : decode cX1_endAt 12 = .ok (.iload_n 2, 1) := by decide +kernel
theorem dX1_endAt_13 : decode cX1_endAt 13 = .ok (.aload_n 0, 1) := by decide +kernel
theorem dX1_endAt_14 : decode cX1_endAt 14 = .ok (.getfield 9, 3) := by decide +kernel
theorem dX1_endAt_17 : decode cX1_endAt 17 = .ok (.iload_n 1, 1) := by decide +kernel
theorem dX1_endAt_18 : decode cX1_endAt 18 = .ok (.iaload, 1) := by decide +kernel
theorem dX1_endAt_19 : decode cX1_endAt 19 = .ok (.if_icmp .ge 7, 3) := by decide +kernel
theorem dX1_endAt_22 : decode cX1_endAt 22 = .ok (.iconst 1, 1) := by decide +kernel
theorem dX1_endAt_23 : decode cX1_endAt 23 = .ok (.goto 4, 3) := by decide +kernel
theorem dX1_endAt_26 : decode cX1_endAt 26 = .ok (.iconst 0, 1) := by decide +kernel
theorem dX1_endAt_27 : decode cX1_endAt 27 = .ok (.istore_n 3, 1) := by decide +kernel
theorem dX1_endAt_28 : decode cX1_endAt 28 = .ok (.iload_n 3, 1) := by decide +kernel
theorem dX1_endAt_29 : decode cX1_endAt 29 = .ok (.ifCond .eq 11, 3) := by decide +kernel
theorem dX1_endAt_32 : decode cX1_endAt 32 = .ok (.iload_n 1, 1) := by decide +kernel
theorem dX1_endAt_33 : decode cX1_endAt 33 = .ok (.iconst 4, 1) := by decide +kernel
theorem dX1_endAt_34 : decode cX1_endAt 34 = .ok (.imul, 1) := by decide +kernel
theorem dX1_endAt_35 : decode cX1_endAt 35 = .ok (.iload_n 2, 1) := by decide +kernel
theorem dX1_endAt_36 : decode cX1_endAt 36 = .ok (.iadd, 1) := by decide +kernel
theorem dX1_endAt_37 : decode cX1_endAt 37 = .ok (.goto 4, 3) := by decide +kernel
theorem dX1_endAt_40 : decode cX1_endAt 40 = .ok (.iconst (-1), 1) := by decide +kernel
theorem dX1_endAt_41 : decode cX1_endAt 41 = .ok (.ireturn, 1) := by decide +kernel
set_option maxRecDepth 20000 in
theorem ggX1_join_X1_hasRoom : GoodIn wsX1_join wsX1_hasRoom := goodIn_r _ [6, 1, 7, 8, 9, 5, 10, 11, 23, 24, 25, 26, 27, 28, 29, 30] (by decide +kernel) (by decide +kernel)
set_option maxRecDepth 20000 in
theorem gX1_join_X1_hasRoom : GoodIn wsX1_join (wsV RX1 42 RX1 yX1_hasRoom wsX1_hasRoom) := goodIn_app (goodIn_of _ (by decide +kernel)) ggX1_join_X1_hasRoom
set_option maxRecDepth 20000 in
theorem ggX1_join_X1_layEnd : GoodIn wsX1_join wsX1_layEnd := goodIn_r _ [15, 16, 17, 18, 19, 20, 21, 22, 23, 24, 25, 26, 27, 28, 29, 30] (by decide +kernel) (by decide +kernel)
set_option maxRecDepth 20000 in
theorem gX1_join_X1_layEnd : GoodIn wsX1_join (wsV RX1 45 RX1 yX1_layEnd wsX1_layEnd) := goodIn_app (goodIn_of _ (by decide +kernel)) ggX1_join_X1_layEnd
theorem dX1_join_0 : decode cX1_join 0 = .ok (.aload_n 0, 1) := by decide +kernel
theorem dX1_join_1 : decode cX1_join 1 = .ok (.iload_n 1, 1) := by decide +kernel
theorem dX1_join_2 : decode cX1_join 2 = .ok (.invokevirtual 42, 3) := by decide +kernel
theorem dX1_join_5 : decode cX1_join 5 = .ok (.ifCond .eq 11, 3) := by decide +kernel
theorem dX1_join_8 : decode cX1_join 8 = .ok (.aload_n 0, 1) := by decide +kernel
theorem dX1_join_9 : decode cX1_join 9 = .ok (.iload_n 2, 1) := by decide +kernel
theorem dX1_join_10 : decode cX1_join 10 = .ok (.invokevirtual 42, 3) := by decide +kernel
theorem dX1_join_13 : decode cX1_join 13 = .ok (.ifCond .ne 5, 3) := by decide +kernel
theorem dX1_join_16 : decode cX1_join 16 = .ok (.iconst (-1), 1) := by decide +kernel
theorem dX1_join_17 : decode cX1_join 17 = .ok (.ireturn, 1) := by decide +kernel
theorem dX1_join_18 : decode cX1_join 18 = .ok (.aload_n 0, 1) := by decide +kernel
theorem dX1_join_19 : decode cX1_join 19 = .ok (.getfield 9, 3) := by decide +kernel
theorem dX1_join_22 : decode cX1_join 22 = .ok (.iload_n 1, 1) := by decide +kernel
theorem dX1_join_23 : decode cX1_join 23 = .ok (.iaload, 1) := by decide +kernel
theorem dX1_join_24 : decode cX1_join 24 = .ok (.istore 4, 2) := by decide +kernel
theorem dX1_join_26 : decode cX1_join 26 = .ok (.iload_n 1, 1) := by decide +kernel
theorem dX1_join_27 : decode cX1_join 27 = .ok (.iconst 4, 1) := by decide +kernel
theorem dX1_join_28 : decode cX1_join 28 = .ok (.imul, 1) := by decide +kernel
theorem dX1_join_29 : decode cX1_join 29 = .ok (.iload 4, 2) := by decide +kernel
theorem dX1_join_31 : decode cX1_join 31 = .ok (.iadd, 1) := by decide +kernel
theorem dX1_join_32 : decode cX1_join 32 = .ok (.istore 5, 2) := by decide +kernel
theorem dX1_join_34 : decode cX1_join 34 = .ok (.iload_n 2, 1) := by decide +kernel
theorem dX1_join_35 : decode cX1_join 35 = .ok (.iconst 4, 1) := by decide +kernel
theorem dX1_join_36 : decode cX1_join 36 = .ok (.imul, 1) := by decide +kernel
theorem dX1_join_37 : decode cX1_join 37 = .ok (.aload_n 0, 1) := by decide +kernel
theorem dX1_join_38 : decode cX1_join 38 = .ok (.getfield 9, 3) := by decide +kernel
theorem dX1_join_41 : decode cX1_join 41 = .ok (.iload_n 2, 1) := by decide +kernel
theorem dX1_join_42 : decode cX1_join 42 = .ok (.iaload, 1) := by decide +kernel
theorem dX1_join_43 : decode cX1_join 43 = .ok (.iadd, 1) := by decide +kernel
theorem dX1_join_44 : decode cX1_join 44 = .ok (.istore 6, 2) := by decide +kernel
theorem dX1_join_46 : decode cX1_join 46 = .ok (.aload_n 0, 1) := by decide +kernel
theorem dX1_join_47 : decode cX1_join 47 = .ok (.getfield 9, 3) := by decide +kernel
theorem dX1_join_50 : decode cX1_join 50 = .ok (.iload_n 1, 1) := by decide +kernel
theorem dX1_join_51 : decode cX1_join 51 = .ok (.dup2, 1) := by decide +kernel
theorem dX1_join_52 : decode cX1_join 52 = .ok (.iaload, 1) := by decide +kernel
theorem dX1_join_53 : decode cX1_join 53 = .ok (.iconst 1, 1) := by decide +kernel
theorem dX1_join_54 : decode cX1_join 54 = .ok (.iadd, 1) := by decide +kernel
theorem dX1_join_55 : decode cX1_join 55 = .ok (.iastore, 1) := by decide +kernel
theorem dX1_join_56 : decode cX1_join 56 = .ok (.aload_n 0, 1) := by decide +kernel
theorem dX1_join_57 : decode cX1_join 57 = .ok (.getfield 9, 3) := by decide +kernel
theorem dX1_join_60 : decode cX1_join 60 = .ok (.iload_n 2, 1) := by decide +kernel
theorem dX1_join_61 : decode cX1_join 61 = .ok (.dup2, 1) := by decide +kernel
theorem dX1_join_62 : decode cX1_join 62 = .ok (.iaload, 1) := by decide +kernel
theorem dX1_join_63 : decode cX1_join 63 = .ok (.iconst 1, 1) := by decide +kernel
theorem dX1_join_64 : decode cX1_join 64 = .ok (.iadd, 1) := by decide +kernel
theorem dX1_join_65 : decode cX1_join 65 = .ok (.iastore, 1) := by decide +kernel
theorem dX1_join_66 : decode cX1_join 66 = .ok (.aload_n 0, 1) := by decide +kernel
theorem dX1_join_67 : decode cX1_join 67 = .ok (.iload 5, 2) := by decide +kernel
theorem dX1_join_69 : decode cX1_join 69 = .ok (.iload 6, 2) := by decide +kernel
theorem dX1_join_71 : decode cX1_join 71 = .ok (.iload_n 3, 1) := by decide +kernel
theorem dX1_join_72 : decode cX1_join 72 = .ok (.invokevirtual 45, 3) := by decide +kernel
theorem dX1_join_75 : decode cX1_join 75 = .ok (.aload_n 0, 1) := by decide +kernel
theorem dX1_join_76 : decode cX1_join 76 = .ok (.iload 6, 2) := by decide +kernel
theorem dX1_join_78 : decode cX1_join 78 = .ok (.iload 5, 2) := by decide +kernel
theorem dX1_join_80 : decode cX1_join 80 = .ok (.iload_n 3, 1) := by decide +kernel
theorem dX1_join_81 : decode cX1_join 81 = .ok (.invokevirtual 45, 3) := by decide +kernel
theorem dX1_join_84 : decode cX1_join 84 = .ok (.iload 4, 2) := by decide +kernel
theorem dX1_join_86 : decode cX1_join 86 = .ok (.ireturn, 1) := by decide +kernel
set_option maxRecDepth 20000 in
theorem ggX1_layEnd_X3_placeOfEnd : GoodIn wsX1_layEnd wsX3_placeOfEnd := goodIn_r _ [7] (by decide +kernel) (by decide +kernel)
set_option maxRecDepth 20000 in
theorem gX1_layEnd_X3_placeOfEnd_n49 : GoodIn wsX1_layEnd (wsX3_placeOfEnd) := ggX1_layEnd_X3_placeOfEnd
theorem dX1_layEnd_0 : decode cX1_layEnd 0 = .ok (.aload_n 0, 1) := by decide +kernel
theorem dX1_layEnd_1 : decode cX1_layEnd 1 = .ok (.getfield 19, 3) := by decide +kernel
theorem dX1_layEnd_4 : decode cX1_layEnd 4 = .ok (.iload_n 1, 1) := by decide +kernel
theorem dX1_layEnd_5 : decode cX1_layEnd 5 = .ok (.iload_n 2, 1) := by decide +kernel
theorem dX1_layEnd_6 : decode cX1_layEnd 6 = .ok (.invokestatic 49, 3) := by decide +kernel
theorem dX1_layEnd_9 : decode cX1_layEnd 9 = .ok (.iastore, 1) := by decide +kernel
theorem dX1_layEnd_10 : decode cX1_layEnd 10 = .ok (.aload_n 0, 1) := by decide +kernel
theorem dX1_layEnd_11 : decode cX1_layEnd 11 = .ok (.getfield 22, 3) := by decide +kernel
theorem dX1_layEnd_14 : decode cX1_layEnd 14 = .ok (.iload_n 1, 1) := by decide +kernel
theorem dX1_layEnd_15 : decode cX1_layEnd 15 = .ok (.iload_n 2, 1) := by decide +kernel
theorem dX1_layEnd_16 : decode cX1_layEnd 16 = .ok (.iastore, 1) := by decide +kernel
theorem dX1_layEnd_17 : decode cX1_layEnd 17 = .ok (.aload_n 0, 1) := by decide +kernel
theorem dX1_layEnd_18 : decode cX1_layEnd 18 = .ok (.getfield 25, 3) := by decide +kernel
theorem dX1_layEnd_21 : decode cX1_layEnd 21 = .ok (.iload_n 1, 1) := by decide +kernel
theorem dX1_layEnd_22 : decode cX1_layEnd 22 = .ok (.iload_n 3, 1) := by decide +kernel
theorem dX1_layEnd_23 : decode cX1_layEnd 23 = .ok (.iastore, 1) := by decide +kernel
theorem dX1_layEnd_24 : decode cX1_layEnd 24 = .ok (.aload_n 0, 1) := by decide +kernel
theorem dX1_layEnd_25 : decode cX1_layEnd 25 = .ok (.getfield 28, 3) := by decide +kernel
theorem dX1_layEnd_28 : decode cX1_layEnd 28 = .ok (.iload_n 1, 1) := by decide +kernel
theorem dX1_layEnd_29 : decode cX1_layEnd 29 = .ok (.iconst 1, 1) := by decide +kernel
theorem dX1_layEnd_30 : decode cX1_layEnd 30 = .ok (.bastore, 1) := by decide +kernel
theorem dX1_layEnd_31 : decode cX1_layEnd 31 = .ok (.return_, 1) := by decide +kernel
set_option maxRecDepth 20000 in
theorem ggX1_turnEnd_X1_twinOf : GoodIn wsX1_turnEnd wsX1_twinOf := goodIn_r _ [6, 7, 8, 9, 10, 11, 12, 13, 14, 15, 16, 17, 18] (by decide +kernel) (by decide +kernel)
set_option maxRecDepth 20000 in
theorem gX1_turnEnd_X1_twinOf : GoodIn wsX1_turnEnd (wsV RX1 53 RX1 yX1_twinOf wsX1_twinOf) := goodIn_app (goodIn_of _ (by decide +kernel)) ggX1_turnEnd_X1_twinOf
set_option maxRecDepth 20000 in
theorem ggX1_turnEnd_X3_isEnd : GoodIn wsX1_turnEnd wsX3_isEnd := goodIn_r _ [10] (by decide +kernel) (by decide +kernel)
set_option maxRecDepth 20000 in
theorem gX1_turnEnd_X3_isEnd_n56 : GoodIn wsX1_turnEnd (wsX3_isEnd) := ggX1_turnEnd_X3_isEnd
theorem dX1_turnEnd_0 : decode cX1_turnEnd 0 = .ok (.aload_n 0, 1) := by decide +kernel
theorem dX1_turnEnd_1 : decode cX1_turnEnd 1 = .ok (.iload_n 1, 1) := by decide +kernel
theorem dX1_turnEnd_2 : decode cX1_turnEnd 2 = .ok (.invokevirtual 53, 3) := by decide +kernel
theorem dX1_turnEnd_5 : decode cX1_turnEnd 5 = .ok (.istore_n 2, 1) := by decide +kernel
theorem dX1_turnEnd_6 : decode cX1_turnEnd 6 = .ok (.iload_n 1, 1) := by decide +kernel
theorem dX1_turnEnd_7 : decode cX1_turnEnd 7 = .ok (.invokestatic 56, 3) := by decide +kernel
theorem dX1_turnEnd_10 : decode cX1_turnEnd 10 = .ok (.ifCond .eq 10, 3) := by decide +kernel
theorem dX1_turnEnd_13 : decode cX1_turnEnd 13 = .ok (.iload_n 2, 1) := by decide +kernel
theorem dX1_turnEnd_14 : decode cX1_turnEnd 14 = .ok (.invokestatic 56, 3) := by decide +kernel
theorem dX1_turnEnd_17 : decode cX1_turnEnd 17 = .ok (.ifCond .ne 5, 3) := by decide +kernel
theorem dX1_turnEnd_20 : decode cX1_turnEnd 20 = .ok (.iconst 0, 1) := by decide +kernel
theorem dX1_turnEnd_21 : decode cX1_turnEnd 21 = .ok (.ireturn, 1) := by decide +kernel
theorem dX1_turnEnd_22 : decode cX1_turnEnd 22 = .ok (.aload_n 0, 1) := by decide +kernel
theorem dX1_turnEnd_23 : decode cX1_turnEnd 23 = .ok (.getfield 28, 3) := by decide +kernel
theorem dX1_turnEnd_26 : decode cX1_turnEnd 26 = .ok (.iload_n 1, 1) := by decide +kernel
theorem dX1_turnEnd_27 : decode cX1_turnEnd 27 = .ok (.baload, 1) := by decide +kernel
theorem dX1_turnEnd_28 : decode cX1_turnEnd 28 = .ok (.ifCond .ne 7, 3) := by decide +kernel
theorem dX1_turnEnd_31 : decode cX1_turnEnd 31 = .ok (.iconst 1, 1) := by decide +kernel
theorem dX1_turnEnd_32 : decode cX1_turnEnd 32 = .ok (.goto 4, 3) := by decide +kernel
theorem dX1_turnEnd_35 : decode cX1_turnEnd 35 = .ok (.iconst 0, 1) := by decide +kernel
theorem dX1_turnEnd_36 : decode cX1_turnEnd 36 = .ok (.istore_n 3, 1) := by decide +kernel
theorem dX1_turnEnd_37 : decode cX1_turnEnd 37 = .ok (.aload_n 0, 1) := by decide +kernel
theorem dX1_turnEnd_38 : decode cX1_turnEnd 38 = .ok (.getfield 28, 3) := by decide +kernel
theorem dX1_turnEnd_41 : decode cX1_turnEnd 41 = .ok (.iload_n 1, 1) := by decide +kernel
theorem dX1_turnEnd_42 : decode cX1_turnEnd 42 = .ok (.iload_n 3, 1) := by decide +kernel
theorem dX1_turnEnd_43 : decode cX1_turnEnd 43 = .ok (.bastore, 1) := by decide +kernel
theorem dX1_turnEnd_44 : decode cX1_turnEnd 44 = .ok (.aload_n 0, 1) := by decide +kernel
theorem dX1_turnEnd_45 : decode cX1_turnEnd 45 = .ok (.getfield 28, 3) := by decide +kernel
theorem dX1_turnEnd_48 : decode cX1_turnEnd 48 = .ok (.iload_n 2, 1) := by decide +kernel
theorem dX1_turnEnd_49 : decode cX1_turnEnd 49 = .ok (.iload_n 3, 1) := by decide +kernel
theorem dX1_turnEnd_50 : decode cX1_turnEnd 50 = .ok (.bastore, 1) := by decide +kernel
theorem dX1_turnEnd_51 : decode cX1_turnEnd 51 = .ok (.iload_n 3, 1) := by decide +kernel
theorem dX1_turnEnd_52 : decode cX1_turnEnd 52 = .ok (.ireturn, 1) := by decide +kernel
set_option maxRecDepth 20000 in
theorem ggX1_opensAt_X3_isEnd : GoodIn wsX1_opensAt wsX3_isEnd := goodIn_r _ [4] (by decide +kernel) (by decide +kernel)
set_option maxRecDepth 20000 in
theorem gX1_opensAt_X3_isEnd_n56 : GoodIn wsX1_opensAt (wsX3_isEnd) := ggX1_opensAt_X3_isEnd
theorem dX1_opensAt_0 : decode cX1_opensAt 0 = .ok (.iload_n 1, 1) := by decide +kernel
theorem dX1_opensAt_1 : decode cX1_opensAt 1 = .ok (.invokestatic 56, 3) := by decide +kernel
theorem dX1_opensAt_4 : decode cX1_opensAt 4 = .ok (.ifCond .eq 16, 3) := by decide +kernel
theorem dX1_opensAt_7 : decode cX1_opensAt 7 = .ok (.aload_n 0, 1) := by decide +kernel
theorem dX1_opensAt_8 : decode cX1_opensAt 8 = .ok (.getfield 28, 3) := by decide +kernel
theorem dX1_opensAt_11 : decode cX1_opensAt 11 = .ok (.iload_n 1, 1) := by decide +kernel
theorem dX1_opensAt_12 : decode cX1_opensAt 12 = .ok (.baload, 1) := by decide +kernel
theorem dX1_opensAt_13 : decode cX1_opensAt 13 = .ok (.ifCond .eq 7, 3) := by decide +kernel
theorem dX1_opensAt_16 : decode cX1_opensAt 16 = .ok (.iconst 1, 1) := by decide +kernel
theorem dX1_opensAt_17 : decode cX1_opensAt 17 = .ok (.goto 4, 3) := by decide +kernel
theorem dX1_opensAt_20 : decode cX1_opensAt 20 = .ok (.iconst 0, 1) := by decide +kernel
theorem dX1_opensAt_21 : decode cX1_opensAt 21 = .ok (.ireturn, 1) := by decide +kernel
set_option maxRecDepth 20000 in
theorem ggX1_milesAt_X3_isEnd : GoodIn wsX1_milesAt wsX3_isEnd := goodIn_r _ [4] (by decide +kernel) (by decide +kernel)
set_option maxRecDepth 20000 in
theorem gX1_milesAt_X3_isEnd_n56 : GoodIn wsX1_milesAt (wsX3_isEnd) := ggX1_milesAt_X3_isEnd
theorem dX1_milesAt_0 : decode cX1_milesAt 0 = .ok (.iload_n 1, 1) := by decide +kernel
theorem dX1_milesAt_1 : decode cX1_milesAt 1 = .ok (.invokestatic 56, 3) := by decide +kernel
theorem dX1_milesAt_4 : decode cX1_milesAt 4 = .ok (.ifCond .eq 12, 3) := by decide +kernel
theorem dX1_milesAt_7 : decode cX1_milesAt 7 = .ok (.aload_n 0, 1) := by decide +kernel
theorem dX1_milesAt_8 : decode cX1_milesAt 8 = .ok (.getfield 25, 3) := by decide +kernel
theorem dX1_milesAt_11 : decode cX1_milesAt 11 = .ok (.iload_n 1, 1) := by decide +kernel
theorem dX1_milesAt_12 : decode cX1_milesAt 12 = .ok (.iaload, 1) := by decide +kernel
theorem dX1_milesAt_13 : decode cX1_milesAt 13 = .ok (.goto 4, 3) := by decide +kernel
theorem dX1_milesAt_16 : decode cX1_milesAt 16 = .ok (.iconst 0, 1) := by decide +kernel
theorem dX1_milesAt_17 : decode cX1_milesAt 17 = .ok (.ireturn, 1) := by decide +kernel
set_option maxRecDepth 20000 in
theorem ggX1_twinOf_X3_isEnd : GoodIn wsX1_twinOf wsX3_isEnd := goodIn_r _ [4] (by decide +kernel) (by decide +kernel)
set_option maxRecDepth 20000 in
theorem gX1_twinOf_X3_isEnd_n56 : GoodIn wsX1_twinOf (wsX3_isEnd) := ggX1_twinOf_X3_isEnd
theorem dX1_twinOf_0 : decode cX1_twinOf 0 = .ok (.iload_n 1, 1) := by decide +kernel
theorem dX1_twinOf_1 : decode cX1_twinOf 1 = .ok (.invokestatic 56, 3) := by decide +kernel
theorem dX1_twinOf_4 : decode cX1_twinOf 4 = .ok (.ifCond .eq 12, 3) := by decide +kernel
theorem dX1_twinOf_7 : decode cX1_twinOf 7 = .ok (.aload_n 0, 1) := by decide +kernel
theorem dX1_twinOf_8 : decode cX1_twinOf 8 = .ok (.getfield 22, 3) := by decide +kernel
theorem dX1_twinOf_11 : decode cX1_twinOf 11 = .ok (.iload_n 1, 1) := by decide +kernel
theorem dX1_twinOf_12 : decode cX1_twinOf 12 = .ok (.iaload, 1) := by decide +kernel
theorem dX1_twinOf_13 : decode cX1_twinOf 13 = .ok (.goto 4, 3) := by decide +kernel
theorem dX1_twinOf_16 : decode cX1_twinOf 16 = .ok (.iconst (-1), 1) := by decide +kernel
theorem dX1_twinOf_17 : decode cX1_twinOf 17 = .ok (.ireturn, 1) := by decide +kernel
set_option maxRecDepth 20000 in
theorem ggX1_beyond_X3_isEnd : GoodIn wsX1_beyond wsX3_isEnd := goodIn_r _ [4] (by decide +kernel) (by decide +kernel)
set_option maxRecDepth 20000 in
theorem gX1_beyond_X3_isEnd_n56 : GoodIn wsX1_beyond (wsX3_isEnd) := ggX1_beyond_X3_isEnd
theorem dX1_beyond_0 : decode cX1_beyond 0 = .ok (.iload_n 1, 1) := by decide +kernel
theorem dX1_beyond_1 : decode cX1_beyond 1 = .ok (.invokestatic 56, 3) := by decide +kernel
theorem dX1_beyond_4 : decode cX1_beyond 4 = .ok (.ifCond .eq 12, 3) := by decide +kernel
theorem dX1_beyond_7 : decode cX1_beyond 7 = .ok (.aload_n 0, 1) := by decide +kernel
theorem dX1_beyond_8 : decode cX1_beyond 8 = .ok (.getfield 19, 3) := by decide +kernel
theorem dX1_beyond_11 : decode cX1_beyond 11 = .ok (.iload_n 1, 1) := by decide +kernel
theorem dX1_beyond_12 : decode cX1_beyond 12 = .ok (.iaload, 1) := by decide +kernel
theorem dX1_beyond_13 : decode cX1_beyond 13 = .ok (.goto 4, 3) := by decide +kernel
theorem dX1_beyond_16 : decode cX1_beyond 16 = .ok (.iconst (-1), 1) := by decide +kernel
theorem dX1_beyond_17 : decode cX1_beyond 17 = .ok (.ireturn, 1) := by decide +kernel
set_option maxRecDepth 20000 in
theorem ggX1_shortest_X1_measure : GoodIn wsX1_shortest wsX1_measure := goodIn_r _ [7, 1, 2, 8, 9, 10, 11, 12, 13, 14, 6, 15, 16, 17, 18, 19, 20, 21, 22, 23, 24, 25, 26, 27, 28, 29, 30, 31, 32, 33, 34] (by decide +kernel) (by decide +kernel)
set_option maxRecDepth 20000 in
theorem gX1_shortest_X1_measure : GoodIn wsX1_shortest (wsV RX1 59 RX1 yX1_measure wsX1_measure) := goodIn_app (goodIn_of _ (by decide +kernel)) ggX1_shortest_X1_measure
set_option maxRecDepth 20000 in
theorem ggX1_shortest_X1_isPlace : GoodIn wsX1_shortest wsX1_isPlace := goodIn_r _ [15, 16, 27, 28, 29, 30, 31, 32, 33, 34] (by decide +kernel) (by decide +kernel)
set_option maxRecDepth 20000 in
theorem gX1_shortest_X1_isPlace : GoodIn wsX1_shortest (wsV RX1 38 RX1 yX1_isPlace wsX1_isPlace) := goodIn_app (goodIn_of _ (by decide +kernel)) ggX1_shortest_X1_isPlace
theorem dX1_shortest_0 : decode cX1_shortest 0 = .ok (.aload_n 0, 1) := by decide +kernel
theorem dX1_shortest_1 : decode cX1_shortest 1 = .ok (.iload_n 2, 1) := by decide +kernel
theorem dX1_shortest_2 : decode cX1_shortest 2 = .ok (.invokevirtual 59, 3) := by decide +kernel
theorem dX1_shortest_5 : decode cX1_shortest 5 = .ok (.aload_n 0, 1) := by decide +kernel
theorem dX1_shortest_6 : decode cX1_shortest 6 = .ok (.iload_n 1, 1) := by decide +kernel
theorem dX1_shortest_7 : decode cX1_shortest 7 = .ok (.invokevirtual 38, 3) := by decide +kernel
theorem dX1_shortest_10 : decode cX1_shortest 10 = .ok (.ifCond .eq 23, 3) := by decide +kernel
theorem dX1_shortest_13 : decode cX1_shortest 13 = .ok (.aload_n 0, 1) := by decide +kernel
theorem dX1_shortest_14 : decode cX1_shortest 14 = .ok (.getfield 31, 3) := by decide +kernel
theorem dX1_shortest_17 : decode cX1_shortest 17 = .ok (.iload_n 1, 1) := by decide +kernel
theorem dX1_shortest_18 : decode cX1_shortest 18 = .ok (.iaload, 1) := by decide +kernel
theorem dX1_shortest_19 : decode cX1_shortest 19 = .ok (.ldc 63, 2) := by decide +kernel
theorem dX1_shortest_21 : decode cX1_shortest 21 = .ok (.if_icmp .ge 12, 3) := by decide +kernel
theorem dX1_shortest_24 : decode cX1_shortest 24 = .ok (.aload_n 0, 1) := by decide +kernel
theorem dX1_shortest_25 : decode cX1_shortest 25 = .ok (.getfield 31, 3) := by decide +kernel
theorem dX1_shortest_28 : decode cX1_shortest 28 = .ok (.iload_n 1, 1) := by decide +kernel
theorem dX1_shortest_29 : decode cX1_shortest 29 = .ok (.iaload, 1) := by decide +kernel
theorem dX1_shortest_30 : decode cX1_shortest 30 = .ok (.goto 4, 3) := by decide +kernel
theorem dX1_shortest_33 : decode cX1_shortest 33 = .ok (.iconst (-1), 1) := by decide +kernel
theorem dX1_shortest_34 : decode cX1_shortest 34 = .ok (.ireturn, 1) := by decide +kernel
set_option maxRecDepth 20000 in
theorem ggX1_endTowards_X1_measure : GoodIn wsX1_endTowards wsX1_measure := goodIn_r _ [8, 1, 2, 9, 10, 11, 12, 13, 14, 15, 7, 16, 17, 18, 19, 20, 21, 22, 23, 24, 25, 26, 27, 28, 29, 30, 31, 32, 33, 34, 35] (by decide +kernel) (by decide +kernel)
set_option maxRecDepth 20000 in
theorem gX1_endTowards_X1_measure : GoodIn wsX1_endTowards (wsV RX1 59 RX1 yX1_measure wsX1_measure) := goodIn_app (goodIn_of _ (by decide +kernel)) ggX1_endTowards_X1_measure
set_option maxRecDepth 20000 in
theorem ggX1_endTowards_X1_isPlace : GoodIn wsX1_endTowards wsX1_isPlace := goodIn_r _ [16, 17, 28, 29, 30, 31, 32, 33, 34, 35] (by decide +kernel) (by decide +kernel)
set_option maxRecDepth 20000 in
theorem gX1_endTowards_X1_isPlace : GoodIn wsX1_endTowards (wsV RX1 38 RX1 yX1_isPlace wsX1_isPlace) := goodIn_app (goodIn_of _ (by decide +kernel)) ggX1_endTowards_X1_isPlace
set_option maxRecDepth 20000 in
theorem ggX1_endTowards_X1_milesBy : GoodIn wsX1_endTowards wsX1_milesBy := goodIn_r _ [21, 22, 2, 23, 24, 1, 28, 29, 30, 31, 32, 33, 34, 35] (by decide +kernel) (by decide +kernel)
set_option maxRecDepth 20000 in
theorem gX1_endTowards_X1_milesBy : GoodIn wsX1_endTowards (wsV RX1 64 RX1 yX1_milesBy wsX1_milesBy) := goodIn_app (goodIn_of _ (by decide +kernel)) ggX1_endTowards_X1_milesBy
theorem dX1_endTowards_0 : decode cX1_endTowards 0 = .ok (.aload_n 0, 1) := by decide +kernel
theorem dX1_endTowards_1 : decode cX1_endTowards 1 = .ok (.iload_n 2, 1) := by decide +kernel
theorem dX1_endTowards_2 : decode cX1_endTowards 2 = .ok (.invokevirtual 59, 3) := by decide +kernel
theorem dX1_endTowards_5 : decode cX1_endTowards 5 = .ok (.aload_n 0, 1) := by decide +kernel
theorem dX1_endTowards_6 : decode cX1_endTowards 6 = .ok (.iload_n 1, 1) := by decide +kernel
theorem dX1_endTowards_7 : decode cX1_endTowards 7 = .ok (.invokevirtual 38, 3) := by decide +kernel
theorem dX1_endTowards_10 : decode cX1_endTowards 10 = .ok (.ifCond .eq 14, 3) := by decide +kernel
theorem dX1_endTowards_13 : decode cX1_endTowards 13 = .ok (.aload_n 0, 1) := by decide +kernel
theorem dX1_endTowards_14 : decode cX1_endTowards 14 = .ok (.getfield 31, 3) := by decide +kernel
theorem dX1_endTowards_17 : decode cX1_endTowards 17 = .ok (.iload_n 1, 1) := by decide +kernel
theorem dX1_endTowards_18 : decode cX1_endTowards 18 = .ok (.iaload, 1) := by decide +kernel
theorem dX1_endTowards_19 : decode cX1_endTowards 19 = .ok (.ldc 63, 2) := by decide +kernel
theorem dX1_endTowards_21 : decode cX1_endTowards 21 = .ok (.if_icmp .lt 5, 3) := by decide +kernel
theorem dX1_endTowards_24 : decode cX1_endTowards 24 = .ok (.iconst (-1), 1) := by decide +kernel
theorem dX1_endTowards_25 : decode cX1_endTowards 25 = .ok (.ireturn, 1) := by decide +kernel
theorem dX1_endTowards_26 : decode cX1_endTowards 26 = .ok (.iconst 0, 1) := by decide +kernel
theorem dX1_endTowards_27 : decode cX1_endTowards 27 = .ok (.istore_n 3, 1) := by decide +kernel
theorem dX1_endTowards_28 : decode cX1_endTowards 28 = .ok (.iload_n 3, 1) := by decide +kernel
theorem dX1_endTowards_29 : decode cX1_endTowards 29 = .ok (.aload_n 0, 1) := by decide +kernel
theorem dX1_endTowards_30 : decode cX1_endTowards 30 = .ok (.getfield 9, 3) := by decide +kernel
theorem dX1_endTowards_33 : decode cX1_endTowards 33 = .ok (.iload_n 1, 1) := by decide +kernel
theorem dX1_endTowards_34 : decode cX1_endTowards 34 = .ok (.iaload, 1) := by decide +kernel
theorem dX1_endTowards_35 : decode cX1_endTowards 35 = .ok (.if_icmp .ge 34, 3) := by decide +kernel
theorem dX1_endTowards_38 : decode cX1_endTowards 38 = .ok (.iload_n 1, 1) := by decide +kernel
theorem dX1_endTowards_39 : decode cX1_endTowards 39 = .ok (.iconst 4, 1) := by decide +kernel
theorem dX1_endTowards_40 : decode cX1_endTowards 40 = .ok (.imul, 1) := by decide +kernel
theorem dX1_endTowards_41 : decode cX1_endTowards 41 = .ok (.iload_n 3, 1) := by decide +kernel
theorem dX1_endTowards_42 : decode cX1_endTowards 42 = .ok (.iadd, 1) := by decide +kernel
theorem dX1_endTowards_43 : decode cX1_endTowards 43 = .ok (.istore 4, 2) := by decide +kernel
theorem dX1_endTowards_45 : decode cX1_endTowards 45 = .ok (.aload_n 0, 1) := by decide +kernel
theorem dX1_endTowards_46 : decode cX1_endTowards 46 = .ok (.iload 4, 2) := by decide +kernel
theorem dX1_endTowards_48 : decode cX1_endTowards 48 = .ok (.invokevirtual 64, 3) := by decide +kernel
theorem dX1_endTowards_51 : decode cX1_endTowards 51 = .ok (.aload_n 0, 1) := by decide +kernel
theorem dX1_endTowards_52 : decode cX1_endTowards 52 = .ok (.getfield 31, 3) := by decide +kernel
theorem dX1_endTowards_55 : decode cX1_endTowards 55 = .ok (.iload_n 1, 1) := by decide +kernel
theorem dX1_endTowards_56 : decode cX1_endTowards 56 = .ok (.iaload, 1) := by decide +kernel
theorem dX1_endTowards_57 : decode cX1_endTowards 57 = .ok (.if_icmp .ne 6, 3) := by decide +kernel
theorem dX1_endTowards_60 : decode cX1_endTowards 60 = .ok (.iload 4, 2) := by decide +kernel
theorem dX1_endTowards_62 : decode cX1_endTowards 62 = .ok (.ireturn, 1) := by decide +kernel
theorem dX1_endTowards_63 : decode cX1_endTowards 63 = .ok (.iinc 3 1, 3) := by decide +kernel
theorem dX1_endTowards_66 : decode cX1_endTowards 66 = .ok (.goto (-38), 3) := by decide +kernel
theorem dX1_endTowards_69 : decode cX1_endTowards 69 = .ok (.iconst (-1), 1) := by decide +kernel
theorem dX1_endTowards_70 : decode cX1_endTowards 70 = .ok (.ireturn, 1) := by decide +kernel
set_option maxRecDepth 20000 in
theorem ggX1_measure_J7_fill_53178 : GoodIn wsX1_measure wsJ7_fill_53178 := goodIn_r _ [6] (by decide +kernel) (by decide +kernel)
set_option maxRecDepth 20000 in
theorem gX1_measure_J7_fill_53178 : GoodIn wsX1_measure (va_wsS RX1 67 yJ7_fill_53178 wsJ7_fill_53178) := goodIn_app (goodIn_of _ (by decide +kernel)) ggX1_measure_J7_fill_53178
set_option maxRecDepth 20000 in
theorem ggX1_measure_X1_isPlace : GoodIn wsX1_measure wsX1_isPlace := goodIn_r _ [11, 12, 23, 24, 25, 26, 27, 28, 29, 30] (by decide +kernel) (by decide +kernel)
set_option maxRecDepth 20000 in
theorem gX1_measure_X1_isPlace : GoodIn wsX1_measure (wsV RX1 38 RX1 yX1_isPlace wsX1_isPlace) := goodIn_app (goodIn_of _ (by decide +kernel)) ggX1_measure_X1_isPlace
set_option maxRecDepth 20000 in
theorem ggX1_measure_X1_milesBy : GoodIn wsX1_measure wsX1_milesBy := goodIn_r _ [16, 17, 2, 18, 19, 1, 23, 24, 25, 26, 27, 28, 29, 30] (by decide +kernel) (by decide +kernel)
set_option maxRecDepth 20000 in
theorem gX1_measure_X1_milesBy : GoodIn wsX1_measure (wsV RX1 64 RX1 yX1_milesBy wsX1_milesBy) := goodIn_app (goodIn_of _ (by decide +kernel)) ggX1_measure_X1_milesBy
set_option maxRecDepth 20000 in
theorem ggX1_measure_X3_placeOfEnd : GoodIn wsX1_measure wsX3_placeOfEnd := goodIn_r _ [22] (by decide +kernel) (by decide +kernel)
set_option maxRecDepth 20000 in
theorem gX1_measure_X3_placeOfEnd_n49 : GoodIn wsX1_measure (wsX3_placeOfEnd) := ggX1_measure_X3_placeOfEnd
theorem dX1_measure_0 : decode cX1_measure 0 = .ok (.aload_n 0, 1) := by decide +kernel
theorem dX1_measure_1 : decode cX1_measure 1 = .ok (.getfield 31, 3) := by decide +kernel
theorem dX1_measure_4 : decode cX1_measure 4 = .ok (.ldc 63, 2) := by decide +kernel
theorem dX1_measure_6 : decode cX1_measure 6 = .ok (.invokestatic 67, 3) := by decide +kernel
theorem dX1_measure_9 : decode cX1_measure 9 = .ok (.aload_n 0, 1) := by decide +kernel
theorem dX1_measure_10 : decode cX1_measure 10 = .ok (.iload_n 1, 1) := by decide +kernel
theorem dX1_measure_11 : decode cX1_measure 11 = .ok (.invokevirtual 38, 3) := by decide +kernel
theorem dX1_measure_14 : decode cX1_measure 14 = .ok (.ifCond .eq 10, 3) := by decide +kernel
theorem dX1_measure_17 : decode cX1_measure 17 = .ok (.aload_n 0, 1) := by decide +kernel
theorem dX1_measure_18 : decode cX1_measure 18 = .ok (.getfield 31, 3) := by decide +kernel
theorem dX1_measure_21 : decode cX1_measure 21 = .ok (.iload_n 1, 1) := by decide +kernel
theorem dX1_measure_22 : decode cX1_measure 22 = .ok (.iconst 0, 1) := by decide +kernel
theorem dX1_measure_23 : decode cX1_measure 23 = .ok (.iastore, 1) := by decide +kernel
theorem dX1_measure_24 : decode cX1_measure 24 = .ok (.iconst 1, 1) := by decide +kernel
theorem dX1_measure_25 : decode cX1_measure 25 = .ok (.istore_n 2, 1) := by decide +kernel
theorem dX1_measure_26 : decode cX1_measure 26 = .ok (.iconst 0, 1) := by decide +kernel
theorem dX1_measure_27 : decode cX1_measure 27 = .ok (.istore_n 3, 1) := by decide +kernel
theorem dX1_measure_28 : decode cX1_measure 28 = .ok (.iload_n 3, 1) := by decide +kernel
theorem dX1_measure_29 : decode cX1_measure 29 = .ok (.bipush 10, 2) := by decide +kernel
theorem dX1_measure_31 : decode cX1_measure 31 = .ok (.if_icmp .ge 68, 3) := by decide +kernel
theorem dX1_measure_34 : decode cX1_measure 34 = .ok (.iload_n 2, 1) := by decide +kernel
theorem dX1_measure_35 : decode cX1_measure 35 = .ok (.ifCond .eq 64, 3) := by decide +kernel
theorem dX1_measure_38 : decode cX1_measure 38 = .ok (.iconst 0, 1) := by decide +kernel
theorem dX1_measure_39 : decode cX1_measure 39 = .ok (.istore_n 2, 1) := by decide +kernel
theorem dX1_measure_40 : decode cX1_measure 40 = .ok (.iconst 0, 1) := by decide +kernel
theorem dX1_measure_41 : decode cX1_measure 41 = .ok (.istore 4, 2) := by decide +kernel
theorem dX1_measure_43 : decode cX1_measure 43 = .ok (.iload 4, 2) := by decide +kernel
theorem dX1_measure_45 : decode cX1_measure 45 = .ok (.bipush 40, 2) := by decide +kernel
theorem dX1_measure_47 : decode cX1_measure 47 = .ok (.if_icmp .ge 46, 3) := by decide +kernel
theorem dX1_measure_50 : decode cX1_measure 50 = .ok (.aload_n 0, 1) := by decide +kernel
theorem dX1_measure_51 : decode cX1_measure 51 = .ok (.iload 4, 2) := by decide +kernel
theorem dX1_measure_53 : decode cX1_measure 53 = .ok (.invokevirtual 64, 3) := by decide +kernel
theorem dX1_measure_56 : decode cX1_measure 56 = .ok (.istore 5, 2) := by decide +kernel
theorem dX1_measure_58 : decode cX1_measure 58 = .ok (.iload 5, 2) := by decide +kernel
theorem dX1_measure_60 : decode cX1_measure 60 = .ok (.aload_n 0, 1) := by decide +kernel
theorem dX1_measure_61 : decode cX1_measure 61 = .ok (.getfield 31, 3) := by decide +kernel
theorem dX1_measure_64 : decode cX1_measure 64 = .ok (.iload 4, 2) := by decide +kernel
theorem dX1_measure_66 : decode cX1_measure 66 = .ok (.invokestatic 49, 3) := by decide +kernel
theorem dX1_measure_69 : decode cX1_measure 69 = .ok (.iaload, 1) := by decide +kernel
theorem dX1_measure_70 : decode cX1_measure 70 = .ok (.if_icmp .ge 17, 3) := by decide +kernel
theorem dX1_measure_73 : decode cX1_measure 73 = .ok (.aload_n 0, 1) := by decide +kernel
theorem dX1_measure_74 : decode cX1_measure 74 = .ok (.getfield 31, 3) := by decide +kernel
theorem dX1_measure_77 : decode cX1_measure 77 = .ok (.iload 4, 2) := by decide +kernel
theorem dX1_measure_79 : decode cX1_measure 79 = .ok (.invokestatic 49, 3) := by decide +kernel
theorem dX1_measure_82 : decode cX1_measure 82 = .ok (.iload 5, 2) := by decide +kernel
theorem dX1_measure_84 : decode cX1_measure 84 = .ok (.iastore, 1) := by decide +kernel
theorem dX1_measure_85 : decode cX1_measure 85 = .ok (.iconst 1, 1) := by decide +kernel
theorem dX1_measure_86 : decode cX1_measure 86 = .ok (.istore_n 2, 1) := by decide +kernel
theorem dX1_measure_87 : decode cX1_measure 87 = .ok (.iinc 4 1, 3) := by decide +kernel
theorem dX1_measure_90 : decode cX1_measure 90 = .ok (.goto (-47), 3) := by decide +kernel
theorem dX1_measure_93 : decode cX1_measure 93 = .ok (.iinc 3 1, 3) := by decide +kernel
theorem dX1_measure_96 : decode cX1_measure 96 = .ok (.goto (-68), 3) := by decide +kernel
theorem dX1_measure_99 : decode cX1_measure 99 = .ok (.return_, 1) := by decide +kernel
theorem dX1_milesBy_0 : decode cX1_milesBy 0 = .ok (.iload_n 1, 1) := by decide +kernel
theorem dX1_milesBy_1 : decode cX1_milesBy 1 = .ok (.ifCond .lt 18, 3) := by decide +kernel
theorem dX1_milesBy_4 : decode cX1_milesBy 4 = .ok (.iload_n 1, 1) := by decide +kernel
theorem dX1_milesBy_5 : decode cX1_milesBy 5 = .ok (.bipush 40, 2) := by decide +kernel
theorem dX1_milesBy_7 : decode cX1_milesBy 7 = .ok (.if_icmp .ge 12, 3) := by decide +kernel
theorem dX1_milesBy_10 : decode cX1_milesBy 10 = .ok (.aload_n 0, 1) := by decide +kernel
theorem dX1_milesBy_11 : decode cX1_milesBy 11 = .ok (.getfield 28, 3) := by decide +kernel
theorem dX1_milesBy_14 : decode cX1_milesBy 14 = .ok (.iload_n 1, 1) := by decide +kernel
theorem dX1_milesBy_15 : decode cX1_milesBy 15 = .ok (.baload, 1) := by decide +kernel
theorem dX1_milesBy_16 : decode cX1_milesBy 16 = .ok (.ifCond .ne 6, 3) := by decide +kernel
theorem dX1_milesBy_19 : decode cX1_milesBy 19 = .ok (.ldc 63, 2) := by decide +kernel
theorem dX1_milesBy_21 : decode cX1_milesBy 21 = .ok (.ireturn, 1) := by decide +kernel
theorem dX1_milesBy_22 : decode cX1_milesBy 22 = .ok (.aload_n 0, 1) := by decide +kernel
theorem dX1_milesBy_23 : decode cX1_milesBy 23 = .ok (.getfield 19, 3) := by decide +kernel
theorem dX1_milesBy_26 : decode cX1_milesBy 26 = .ok (.iload_n 1, 1) := by decide +kernel
theorem dX1_milesBy_27 : decode cX1_milesBy 27 = .ok (.iaload, 1) := by decide +kernel
theorem dX1_milesBy_28 : decode cX1_milesBy 28 = .ok (.istore_n 2, 1) := by decide +kernel
theorem dX1_milesBy_29 : decode cX1_milesBy 29 = .ok (.iload_n 2, 1) := by decide +kernel
theorem dX1_milesBy_30 : decode cX1_milesBy 30 = .ok (.ifCond .lt 25, 3) := by decide +kernel
theorem dX1_milesBy_33 : decode cX1_milesBy 33 = .ok (.iload_n 2, 1) := by decide +kernel
theorem dX1_milesBy_34 : decode cX1_milesBy 34 = .ok (.bipush 10, 2) := by decide +kernel
theorem dX1_milesBy_36 : decode cX1_milesBy 36 = .ok (.if_icmp .ge 19, 3) := by decide +kernel
theorem dX1_milesBy_39 : decode cX1_milesBy 39 = .ok (.aload_n 0, 1) := by decide +kernel
theorem dX1_milesBy_40 : decode cX1_milesBy 40 = .ok (.getfield 25, 3) := by decide +kernel
theorem dX1_milesBy_43 : decode cX1_milesBy 43 = .ok (.iload_n 1, 1) := by decide +kernel
theorem dX1_milesBy_44 : decode cX1_milesBy 44 = .ok (.iaload, 1) := by decide +kernel
theorem dX1_milesBy_45 : decode cX1_milesBy 45 = .ok (.aload_n 0, 1) := by decide +kernel
theorem dX1_milesBy_46 : decode cX1_milesBy 46 = .ok (.getfield 31, 3) := by decide +kernel
theorem dX1_milesBy_49 : decode cX1_milesBy 49 = .ok (.iload_n 2, 1) := by decide +kernel
theorem dX1_milesBy_50 : decode cX1_milesBy 50 = .ok (.iaload, 1) := by decide +kernel
theorem dX1_milesBy_51 : decode cX1_milesBy 51 = .ok (.iadd, 1) := by decide +kernel
theorem dX1_milesBy_52 : decode cX1_milesBy 52 = .ok (.goto 5, 3) := by decide +kernel
theorem dX1_milesBy_55 : decode cX1_milesBy 55 = .ok (.ldc 63, 2) := by decide +kernel
theorem dX1_milesBy_57 : decode cX1_milesBy 57 = .ok (.ireturn, 1) := by decide +kernel
theorem dX2_init_0 : decode cX2_init 0 = .ok (.aload_n 0, 1) := by decide +kernel
theorem dX2_init_1 : decode cX2_init 1 = .ok (.invokespecial 3, 3) := by decide +kernel
theorem dX2_init_4 : decode cX2_init 4 = .ok (.aload_n 0, 1) := by decide +kernel
theorem dX2_init_5 : decode cX2_init 5 = .ok (.bipush 100, 2) := by decide +kernel
theorem dX2_init_7 : decode cX2_init 7 = .ok (.newarray .int, 2) := by decide +kernel
theorem dX2_init_9 : decode cX2_init 9 = .ok (.putfield 9, 3) := by decide +kernel
theorem dX2_init_12 : decode cX2_init 12 = .ok (.aload_n 0, 1) := by decide +kernel
theorem dX2_init_13 : decode cX2_init 13 = .ok (.bipush 100, 2) := by decide +kernel
theorem dX2_init_15 : decode cX2_init 15 = .ok (.newarray .int, 2) := by decide +kernel
theorem dX2_init_17 : decode cX2_init 17 = .ok (.putfield 15, 3) := by decide +kernel
theorem dX2_init_20 : decode cX2_init 20 = .ok (.return_, 1) := by decide +kernel
set_option maxRecDepth 20000 in
theorem ggX2_exitFor_X2_spotOf : GoodIn wsX2_exitFor wsX2_spotOf := goodIn_r _ [6] (by decide +kernel) (by decide +kernel)
set_option maxRecDepth 20000 in
theorem gX2_exitFor_X2_spotOf : GoodIn wsX2_exitFor (va_wsS RX2 18 yX2_spotOf wsX2_spotOf) := goodIn_app (goodIn_of _ (by decide +kernel)) ggX2_exitFor_X2_spotOf
theorem dX2_exitFor_0 : decode cX2_exitFor 0 = .ok (.iload_n 1, 1) := by decide +kernel
theorem dX2_exitFor_1 : decode cX2_exitFor 1 = .ok (.iload_n 2, 1) := by decide +kernel
theorem dX2_exitFor_2 : decode cX2_exitFor 2 = .ok (.invokestatic 18, 3) := by decide +kernel
theorem dX2_exitFor_5 : decode cX2_exitFor 5 = .ok (.istore_n 3, 1) := by decide +kernel
theorem dX2_exitFor_6 : decode cX2_exitFor 6 = .ok (.iload_n 3, 1) := by decide +kernel
theorem dX2_exitFor_7 : decode cX2_exitFor 7 = .ok (.iconst (-1), 1) := by decide +kernel
theorem dX2_exitFor_8 : decode cX2_exitFor 8 = .ok (.if_icmp .eq 21, 3) := by decide +kernel
theorem dX2_exitFor_11 : decode cX2_exitFor 11 = .ok (.aload_n 0, 1) := by decide +kernel
theorem dX2_exitFor_12 : decode cX2_exitFor 12 = .ok (.getfield 15, 3) := by decide +kernel
theorem dX2_exitFor_15 : decode cX2_exitFor 15 = .ok (.iload_n 3, 1) := by decide +kernel
theorem dX2_exitFor_16 : decode cX2_exitFor 16 = .ok (.iaload, 1) := by decide +kernel
theorem dX2_exitFor_17 : decode cX2_exitFor 17 = .ok (.ifCond .le 12, 3) := by decide +kernel
theorem dX2_exitFor_20 : decode cX2_exitFor 20 = .ok (.aload_n 0, 1) := by decide +kernel
theorem dX2_exitFor_21 : decode cX2_exitFor 21 = .ok (.getfield 9, 3) := by decide +kernel
theorem dX2_exitFor_24 : decode cX2_exitFor 24 = .ok (.iload_n 3, 1) := by decide +kernel
theorem dX2_exitFor_25 : decode cX2_exitFor 25 = .ok (.iaload, 1) := by decide +kernel
theorem dX2_exitFor_26 : decode cX2_exitFor 26 = .ok (.goto 4, 3) := by decide +kernel
theorem dX2_exitFor_29 : decode cX2_exitFor 29 = .ok (.iconst (-1), 1) := by decide +kernel
theorem dX2_exitFor_30 : decode cX2_exitFor 30 = .ok (.ireturn, 1) := by decide +kernel
set_option maxRecDepth 20000 in
theorem ggX2_strengthFor_X2_spotOf : GoodIn wsX2_strengthFor wsX2_spotOf := goodIn_r _ [5] (by decide +kernel) (by decide +kernel)
set_option maxRecDepth 20000 in
theorem gX2_strengthFor_X2_spotOf : GoodIn wsX2_strengthFor (va_wsS RX2 18 yX2_spotOf wsX2_spotOf) := goodIn_app (goodIn_of _ (by decide +kernel)) ggX2_strengthFor_X2_spotOf
theorem dX2_strengthFor_0 : decode cX2_strengthFor 0 = .ok (.iload_n 1, 1) := by decide +kernel
theorem dX2_strengthFor_1 : decode cX2_strengthFor 1 = .ok (.iload_n 2, 1) := by decide +kernel
theorem dX2_strengthFor_2 : decode cX2_strengthFor 2 = .ok (.invokestatic 18, 3) := by decide +kernel
theorem dX2_strengthFor_5 : decode cX2_strengthFor 5 = .ok (.istore_n 3, 1) := by decide +kernel
theorem dX2_strengthFor_6 : decode cX2_strengthFor 6 = .ok (.iload_n 3, 1) := by decide +kernel
theorem dX2_strengthFor_7 : decode cX2_strengthFor 7 = .ok (.iconst (-1), 1) := by decide +kernel
theorem dX2_strengthFor_8 : decode cX2_strengthFor 8 = .ok (.if_icmp .eq 12, 3) := by decide +kernel
theorem dX2_strengthFor_11 : decode cX2_strengthFor 11 = .ok (.aload_n 0, 1) := by decide +kernel
theorem dX2_strengthFor_12 : decode cX2_strengthFor 12 = .ok (.getfield 15, 3) := by decide +kernel
theorem dX2_strengthFor_15 : decode cX2_strengthFor 15 = .ok (.iload_n 3, 1) := by decide +kernel
theorem dX2_strengthFor_16 : decode cX2_strengthFor 16 = .ok (.iaload, 1) := by decide +kernel
theorem dX2_strengthFor_17 : decode cX2_strengthFor 17 = .ok (.goto 4, 3) := by decide +kernel
theorem dX2_strengthFor_20 : decode cX2_strengthFor 20 = .ok (.iconst 0, 1) := by decide +kernel
theorem dX2_strengthFor_21 : decode cX2_strengthFor 21 = .ok (.ireturn, 1) := by decide +kernel
set_option maxRecDepth 20000 in
theorem ggX2_learn_X2_spotOf : GoodIn wsX2_learn wsX2_spotOf := goodIn_r _ [6] (by decide +kernel) (by decide +kernel)
set_option maxRecDepth 20000 in
theorem gX2_learn_X2_spotOf : GoodIn wsX2_learn (va_wsS RX2 18 yX2_spotOf wsX2_spotOf) := goodIn_app (goodIn_of _ (by decide +kernel)) ggX2_learn_X2_spotOf
theorem dX2_learn_0 : decode cX2_learn 0 = .ok (.iload_n 1, 1) := by decide +kernel
theorem dX2_learn_1 : decode cX2_learn 1 = .ok (.iload_n 2, 1) := by decide +kernel
theorem dX2_learn_2 : decode cX2_learn 2 = .ok (.invokestatic 18, 3) := by decide +kernel
theorem dX2_learn_5 : decode cX2_learn 5 = .ok (.istore 4, 2) := by decide +kernel
theorem dX2_learn_7 : decode cX2_learn 7 = .ok (.iload 4, 2) := by decide +kernel
theorem dX2_learn_9 : decode cX2_learn 9 = .ok (.iconst (-1), 1) := by decide +kernel
theorem dX2_learn_10 : decode cX2_learn 10 = .ok (.if_icmp .eq 19, 3) := by decide +kernel
theorem dX2_learn_13 : decode cX2_learn 13 = .ok (.aload_n 0, 1) := by decide +kernel
theorem dX2_learn_14 : decode cX2_learn 14 = .ok (.getfield 9, 3) := by decide +kernel
theorem dX2_learn_17 : decode cX2_learn 17 = .ok (.iload 4, 2) := by decide +kernel
theorem dX2_learn_19 : decode cX2_learn 19 = .ok (.iload_n 3, 1) := by decide +kernel
theorem dX2_learn_20 : decode cX2_learn 20 = .ok (.iastore, 1) := by decide +kernel
theorem dX2_learn_21 : decode cX2_learn 21 = .ok (.aload_n 0, 1) := by decide +kernel
theorem dX2_learn_22 : decode cX2_learn 22 = .ok (.getfield 15, 3) := by decide +kernel
theorem dX2_learn_25 : decode cX2_learn 25 = .ok (.iload 4, 2) := by decide +kernel
theorem dX2_learn_27 : decode cX2_learn 27 = .ok (.iconst 3, 1) := by decide +kernel
theorem dX2_learn_28 : decode cX2_learn 28 = .ok (.iastore, 1) := by decide +kernel
theorem dX2_learn_29 : decode cX2_learn 29 = .ok (.return_, 1) := by decide +kernel
set_option maxRecDepth 20000 in
theorem ggX2_confirm_X2_spotOf : GoodIn wsX2_confirm wsX2_spotOf := goodIn_r _ [10] (by decide +kernel) (by decide +kernel)
set_option maxRecDepth 20000 in
theorem gX2_confirm_X2_spotOf : GoodIn wsX2_confirm (va_wsS RX2 18 yX2_spotOf wsX2_spotOf) := goodIn_app (goodIn_of _ (by decide +kernel)) ggX2_confirm_X2_spotOf
set_option maxRecDepth 20000 in
theorem ggX2_confirm_X2_learn : GoodIn wsX2_confirm wsX2_learn := goodIn_r _ [14, 2, 1, 7, 8, 9, 10, 15, 16] (by decide +kernel) (by decide +kernel)
set_option maxRecDepth 20000 in
theorem gX2_confirm_X2_learn : GoodIn wsX2_confirm (wsV RX2 27 RX2 yX2_learn wsX2_learn) := goodIn_app (goodIn_of _ (by decide +kernel)) ggX2_confirm_X2_learn
theorem dX2_confirm_0 : decode cX2_confirm 0 = .ok (.iload_n 1, 1) := by decide +kernel
theorem dX2_confirm_1 : decode cX2_confirm 1 = .ok (.iload_n 2, 1) := by decide +kernel
theorem dX2_confirm_2 : decode cX2_confirm 2 = .ok (.invokestatic 18, 3) := by decide +kernel
theorem dX2_confirm_5 : decode cX2_confirm 5 = .ok (.istore 4, 2) := by decide +kernel
theorem dX2_confirm_7 : decode cX2_confirm 7 = .ok (.iload 4, 2) := by decide +kernel
theorem dX2_confirm_9 : decode cX2_confirm 9 = .ok (.iconst (-1), 1) := by decide +kernel
theorem dX2_confirm_10 : decode cX2_confirm 10 = .ok (.if_icmp .eq 48, 3) := by decide +kernel
theorem dX2_confirm_13 : decode cX2_confirm 13 = .ok (.aload_n 0, 1) := by decide +kernel
theorem dX2_confirm_14 : decode cX2_confirm 14 = .ok (.getfield 15, 3) := by decide +kernel
theorem dX2_confirm_17 : decode cX2_confirm 17 = .ok (.iload 4, 2) := by decide +kernel
theorem dX2_confirm_19 : decode cX2_confirm 19 = .ok (.iaload, 1) := by decide +kernel
theorem dX2_confirm_20 : decode cX2_confirm 20 = .ok (.ifCond .le 38, 3) := by decide +kernel
theorem dX2_confirm_23 : decode cX2_confirm 23 = .ok (.aload_n 0, 1) := by decide +kernel
theorem dX2_confirm_24 : decode cX2_confirm 24 = .ok (.getfield 9, 3) := by decide +kernel
theorem dX2_confirm_27 : decode cX2_confirm 27 = .ok (.iload 4, 2) := by decide +kernel
theorem dX2_confirm_29 : decode cX2_confirm 29 = .ok (.iaload, 1) := by decide +kernel
theorem dX2_confirm_30 : decode cX2_confirm 30 = .ok (.iload_n 3, 1) := by decide +kernel
theorem dX2_confirm_31 : decode cX2_confirm 31 = .ok (.if_icmp .ne 27, 3) := by decide +kernel
theorem dX2_confirm_34 : decode cX2_confirm 34 = .ok (.aload_n 0, 1) := by decide +kernel
theorem dX2_confirm_35 : decode cX2_confirm 35 = .ok (.getfield 15, 3) := by decide +kernel
theorem dX2_confirm_38 : decode cX2_confirm 38 = .ok (.iload 4, 2) := by decide +kernel
theorem dX2_confirm_40 : decode cX2_confirm 40 = .ok (.bipush 9, 2) := by decide +kernel
theorem dX2_confirm_42 : decode cX2_confirm 42 = .ok (.aload_n 0, 1) := by decide +kernel
theorem dX2_confirm_43 : decode cX2_confirm 43 = .ok (.getfield 15, 3) := by decide +kernel
theorem dX2_confirm_46 : decode cX2_confirm 46 = .ok (.iload 4, 2) := by decide +kernel
theorem dX2_confirm_48 : decode cX2_confirm 48 = .ok (.iaload, 1) := by decide +kernel
theorem dX2_confirm_49 : decode cX2_confirm 49 = .ok (.iconst 3, 1) := by decide +kernel
theorem dX2_confirm_50 : decode cX2_confirm 50 = .ok (.iadd, 1) := by decide +kernel
theorem dX2_confirm_51 : decode cX2_confirm 51 = .ok (.invokestatic 22, 3) := by decide +kernel
theorem dX2_confirm_54 : decode cX2_confirm 54 = .ok (.iastore, 1) := by decide +kernel
theorem dX2_confirm_55 : decode cX2_confirm 55 = .ok (.goto 10, 3) := by decide +kernel
theorem dX2_confirm_58 : decode cX2_confirm 58 = .ok (.aload_n 0, 1) := by decide +kernel
theorem dX2_confirm_59 : decode cX2_confirm 59 = .ok (.iload_n 1, 1) := by decide +kernel
theorem dX2_confirm_60 : decode cX2_confirm 60 = .ok (.iload_n 2, 1) := by decide +kernel
theorem dX2_confirm_61 : decode cX2_confirm 61 = .ok (.iload_n 3, 1) := by decide +kernel
theorem dX2_confirm_62 : decode cX2_confirm 62 = .ok (.invokevirtual 27, 3) := by decide +kernel
theorem dX2_confirm_65 : decode cX2_confirm 65 = .ok (.return_, 1) := by decide +kernel
theorem dX2_fade_0 : decode cX2_fade 0 = .ok (.iconst 0, 1) := by decide +kernel
theorem dX2_fade_1 : decode cX2_fade 1 = .ok (.istore_n 2, 1) := by decide +kernel
theorem dX2_fade_2 : decode cX2_fade 2 = .ok (.iconst 0, 1) := by decide +kernel
theorem dX2_fade_3 : decode cX2_fade 3 = .ok (.istore_n 3, 1) := by decide +kernel
theorem dX2_fade_4 : decode cX2_fade 4 = .ok (.iload_n 3, 1) := by decide +kernel
theorem dX2_fade_5 : decode cX2_fade 5 = .ok (.aload_n 0, 1) := by decide +kernel
theorem dX2_fade_6 : decode cX2_fade 6 = .ok (.getfield 15, 3) := by decide +kernel
theorem dX2_fade_9 : decode cX2_fade 9 = .ok (.arraylength, 1) := by decide +kernel
theorem dX2_fade_10 : decode cX2_fade 10 = .ok (.if_icmp .ge 60, 3) := by decide +kernel
theorem dX2_fade_13 : decode cX2_fade 13 = .ok (.aload_n 0, 1) := by decide +kernel
theorem dX2_fade_14 : decode cX2_fade 14 = .ok (.getfield 15, 3) := by decide +kernel
theorem dX2_fade_17 : decode cX2_fade 17 = .ok (.iload_n 3, 1) := by decide +kernel
theorem dX2_fade_18 : decode cX2_fade 18 = .ok (.iaload, 1) := by decide +kernel
theorem dX2_fade_19 : decode cX2_fade 19 = .ok (.ifCond .le 7, 3) := by decide +kernel
theorem dX2_fade_22 : decode cX2_fade 22 = .ok (.iconst 1, 1) := by decide +kernel
theorem dX2_fade_23 : decode cX2_fade 23 = .ok (.goto 4, 3) := by decide +kernel
theorem dX2_fade_26 : decode cX2_fade 26 = .ok (.iconst 0, 1) := by decide +kernel
theorem dX2_fade_27 : decode cX2_fade 27 = .ok (.istore 4, 2) := by decide +kernel
theorem dX2_fade_29 : decode cX2_fade 29 = .ok (.aload_n 0, 1) := by decide +kernel
theorem dX2_fade_30 : decode cX2_fade 30 = .ok (.getfield 15, 3) := by decide +kernel
theorem dX2_fade_33 : decode cX2_fade 33 = .ok (.iload_n 3, 1) := by decide +kernel
theorem dX2_fade_34 : decode cX2_fade 34 = .ok (.iconst 0, 1) := by decide +kernel
theorem dX2_fade_35 : decode cX2_fade 35 = .ok (.aload_n 0, 1) := by decide +kernel
theorem dX2_fade_36 : decode cX2_fade 36 = .ok (.getfield 15, 3) := by decide +kernel
theorem dX2_fade_39 : decode cX2_fade 39 = .ok (.iload_n 3, 1) := by decide +kernel
theorem dX2_fade_40 : decode cX2_fade 40 = .ok (.iaload, 1) := by decide +kernel
theorem dX2_fade_41 : decode cX2_fade 41 = .ok (.iload_n 1, 1) := by decide +kernel
theorem dX2_fade_42 : decode cX2_fade 42 = .ok (.isub, 1) := by decide +kernel
theorem dX2_fade_43 : decode cX2_fade 43 = .ok (.invokestatic 31, 3) := by decide +kernel
theorem dX2_fade_46 : decode cX2_fade 46 = .ok (.iastore, 1) := by decide +kernel
theorem dX2_fade_47 : decode cX2_fade 47 = .ok (.iload 4, 2) := by decide +kernel
theorem dX2_fade_49 : decode cX2_fade 49 = .ok (.ifCond .eq 15, 3) := by decide +kernel
theorem dX2_fade_52 : decode cX2_fade 52 = .ok (.aload_n 0, 1) := by decide +kernel
theorem dX2_fade_53 : decode cX2_fade 53 = .ok (.getfield 15, 3) := by decide +kernel
theorem dX2_fade_56 : decode cX2_fade 56 = .ok (.iload_n 3, 1) := by decide +kernel
theorem dX2_fade_57 : decode cX2_fade 57 = .ok (.iaload, 1) := by decide +kernel
theorem dX2_fade_58 : decode cX2_fade 58 = .ok (.ifCond .ne 6, 3) := by decide +kernel
theorem dX2_fade_61 : decode cX2_fade 61 = .ok (.iinc 2 1, 3) := by decide +kernel
theorem dX2_fade_64 : decode cX2_fade 64 = .ok (.iinc 3 1, 3) := by decide +kernel
theorem dX2_fade_67 : decode cX2_fade 67 = .ok (.goto (-63), 3) := by decide +kernel
theorem dX2_fade_70 : decode cX2_fade 70 = .ok (.iload_n 2, 1) := by decide +kernel
theorem dX2_fade_71 : decode cX2_fade 71 = .ok (.ireturn, 1) := by decide +kernel
theorem dX2_copyFrom_0 : decode cX2_copyFrom 0 = .ok (.aload_n 1, 1) := by decide +kernel
theorem dX2_copyFrom_1 : decode cX2_copyFrom 1 = .ok (.getfield 9, 3) := by decide +kernel
theorem dX2_copyFrom_4 : decode cX2_copyFrom 4 = .ok (.iconst 0, 1) := by decide +kernel
theorem dX2_copyFrom_5 : decode cX2_copyFrom 5 = .ok (.aload_n 0, 1) := by decide +kernel
theorem dX2_copyFrom_6 : decode cX2_copyFrom 6 = .ok (.getfield 9, 3) := by decide +kernel
theorem dX2_copyFrom_9 : decode cX2_copyFrom 9 = .ok (.iconst 0, 1) := by decide +kernel
theorem dX2_copyFrom_10 : decode cX2_copyFrom 10 = .ok (.aload_n 0, 1) := by decide +kernel
theorem dX2_copyFrom_11 : decode cX2_copyFrom 11 = .ok (.getfield 9, 3) := by decide +kernel
theorem dX2_copyFrom_14 : decode cX2_copyFrom 14 = .ok (.arraylength, 1) := by decide +kernel
theorem dX2_copyFrom_15 : decode cX2_copyFrom 15 = .ok (.invokestatic 34, 3) := by decide +kernel
theorem dX2_copyFrom_18 : decode cX2_copyFrom 18 = .ok (.aload_n 1, 1) := by decide +kernel
theorem dX2_copyFrom_19 : decode cX2_copyFrom 19 = .ok (.getfield 15, 3) := by decide +kernel
theorem dX2_copyFrom_22 : decode cX2_copyFrom 22 = .ok (.iconst 0, 1) := by decide +kernel
theorem dX2_copyFrom_23 : decode cX2_copyFrom 23 = .ok (.aload_n 0, 1) := by decide +kernel
theorem dX2_copyFrom_24 : decode cX2_copyFrom 24 = .ok (.getfield 15, 3) := by decide +kernel
theorem dX2_copyFrom_27 : decode cX2_copyFrom 27 = .ok (.iconst 0, 1) := by decide +kernel
theorem dX2_copyFrom_28 : decode cX2_copyFrom 28 = .ok (.aload_n 0, 1) := by decide +kernel
theorem dX2_copyFrom_29 : decode cX2_copyFrom 29 = .ok (.getfield 15, 3) := by decide +kernel
theorem dX2_copyFrom_32 : decode cX2_copyFrom 32 = .ok (.arraylength, 1) := by decide +kernel
theorem dX2_copyFrom_33 : decode cX2_copyFrom 33 = .ok (.invokestatic 34, 3) := by decide +kernel
theorem dX2_copyFrom_36 : decode cX2_copyFrom 36 = .ok (.return_, 1) := by decide +kernel
theorem dX2_spotOf_0 : decode cX2_spotOf 0 = .ok (.iload_n 0, 1) := by decide +kernel
theorem dX2_spotOf_1 : decode cX2_spotOf 1 = .ok (.ifCond .lt 23, 3) := by decide +kernel
theorem dX2_spotOf_4 : decode cX2_spotOf 4 = .ok (.iload_n 0, 1) := by decide +kernel
theorem dX2_spotOf_5 : decode cX2_spotOf 5 = .ok (.bipush 10, 2) := by decide +kernel
theorem dX2_spotOf_7 : decode cX2_spotOf 7 = .ok (.if_icmp .ge 17, 3) := by decide +kernel
theorem dX2_spotOf_10 : decode cX2_spotOf 10 = .ok (.iload_n 1, 1) := by decide +kernel
theorem dX2_spotOf_11 : decode cX2_spotOf 11 = .ok (.ifCond .lt 13, 3) := by decide +kernel
theorem dX2_spotOf_14 : decode cX2_spotOf 14 = .ok (.iload_n 1, 1) := by decide +kernel
theorem dX2_spotOf_15 : decode cX2_spotOf 15 = .ok (.bipush 10, 2) := by decide +kernel
theorem dX2_spotOf_17 : decode cX2_spotOf 17 = .ok (.if_icmp .ge 7, 3) := by decide +kernel
theorem dX2_spotOf_20 : decode cX2_spotOf 20 = .ok (.iconst 1, 1) := by decide +kernel
theorem dX2_spotOf_21 : decode cX2_spotOf 21 = .ok (.goto 4, 3) := by decide +kernel
theorem dX2_spotOf_24 : decode cX2_spotOf 24 = .ok (.iconst 0, 1) := by decide +kernel
theorem dX2_spotOf_25 : decode cX2_spotOf 25 = .ok (.istore_n 2, 1) := by decide +kernel
theorem dX2_spotOf_26 : decode cX2_spotOf 26 = .ok (.iload_n 2, 1) := by decide +kernel
theorem dX2_spotOf_27 : decode cX2_spotOf 27 = .ok (.ifCond .eq 12, 3) := by decide +kernel
theorem dX2_spotOf_30 : decode cX2_spotOf 30 = .ok (.iload_n 0, 1) := by decide +kernel
theorem dX2_spotOf_31 : decode cX2_spotOf 31 = .ok (.bipush 10, 2) := by decide +kernel
theorem dX2_spotOf_33 : decode cX2_spotOf 33 = .ok (.imul, 1) := by decide +kernel
theorem dX2_spotOf_34 : decode cX2_spotOf 34 = .ok (.iload_n 1, 1) := by decide +kernel
theorem dX2_spotOf_35 : decode cX2_spotOf 35 = .ok (.iadd, 1) := by decide +kernel
theorem dX2_spotOf_36 : decode cX2_spotOf 36 = .ok (.goto 4, 3) := by decide +kernel
theorem dX2_spotOf_39 : decode cX2_spotOf 39 = .ok (.iconst (-1), 1) := by decide +kernel
theorem dX2_spotOf_40 : decode cX2_spotOf 40 = .ok (.ireturn, 1) := by decide +kernel
set_option maxRecDepth 20000 in
theorem ggX3_init_X1_init : GoodIn wsX3_init wsX1_init := goodIn_r _ [14, 15, 2, 3, 16, 17, 18, 19, 20, 21, 22, 23, 24, 44, 45, 46, 47, 48, 49, 50, 51] (by decide +kernel) (by decide +kernel)
set_option maxRecDepth 20000 in
theorem gX3_init_X1_init_n11 : GoodIn wsX3_init (wsX1_init) := ggX3_init_X1_init
set_option maxRecDepth 20000 in
theorem ggX3_init_X0_init : GoodIn wsX3_init wsX0_init := goodIn_r _ [27, 28, 2, 3, 29, 30, 31, 32, 33, 16, 34, 18, 35, 36, 37, 38, 39, 40, 41, 42, 43, 70, 71, 55, 56, 57, 58, 59, 60, 61, 62, 63, 64, 65, 66, 67, 68, 69] (by decide +kernel) (by decide +kernel)
set_option maxRecDepth 20000 in
theorem gX3_init_X0_init : GoodIn wsX3_init (wsX0_init) := ggX3_init_X0_init
theorem dX3_init_0 : decode cX3_init 0 = .ok (.aload_n 0, 1) := by decide +kernel
theorem dX3_init_1 : decode cX3_init 1 = .ok (.invokespecial 3, 3) := by decide +kernel
theorem dX3_init_4 : decode cX3_init 4 = .ok (.aload_n 0, 1) := by decide +kernel
theorem dX3_init_5 : decode cX3_init 5 = .ok (.new 9, 3) := by decide +kernel
theorem dX3_init_8 : decode cX3_init 8 = .ok (.dup, 1) := by decide +kernel
theorem dX3_init_9 : decode cX3_init 9 = .ok (.invokespecial 11, 3) := by decide +kernel
theorem dX3_init_12 : decode cX3_init 12 = .ok (.putfield 12, 3) := by decide +kernel
theorem dX3_init_15 : decode cX3_init 15 = .ok (.aload_n 0, 1) := by decide +kernel
theorem dX3_init_16 : decode cX3_init 16 = .ok (.new 16, 3) := by decide +kernel
theorem dX3_init_19 : decode cX3_init 19 = .ok (.dup, 1) := by decide +kernel
theorem dX3_init_20 : decode cX3_init 20 = .ok (.aload_n 0, 1) := by decide +kernel
theorem dX3_init_21 : decode cX3_init 21 = .ok (.getfield 12, 3) := by decide +kernel
theorem dX3_init_24 : decode cX3_init 24 = .ok (.invokespecial 18, 3) := by decide +kernel
theorem dX3_init_27 : decode cX3_init 27 = .ok (.putfield 21, 3) := by decide +kernel
theorem dX3_init_30 : decode cX3_init 30 = .ok (.aload_n 0, 1) := by decide +kernel
theorem dX3_init_31 : decode cX3_init 31 = .ok (.new 16, 3) := by decide +kernel
theorem dX3_init_34 : decode cX3_init 34 = .ok (.dup, 1) := by decide +kernel
theorem dX3_init_35 : decode cX3_init 35 = .ok (.aload_n 0, 1) := by decide +kernel
theorem dX3_init_36 : decode cX3_init 36 = .ok (.getfield 12, 3) := by decide +kernel
theorem dX3_init_39 : decode cX3_init 39 = .ok (.invokespecial 18, 3) := by decide +kernel
theorem dX3_init_42 : decode cX3_init 42 = .ok (.putfield 25, 3) := by decide +kernel
theorem dX3_init_45 : decode cX3_init 45 = .ok (.return_, 1) := by decide +kernel
theorem dX3_addPlace_0 : decode cX3_addPlace 0 = .ok (.aload_n 0, 1) := by decide +kernel
theorem dX3_addPlace_1 : decode cX3_addPlace 1 = .ok (.getfield 12, 3) := by decide +kernel
theorem dX3_addPlace_4 : decode cX3_addPlace 4 = .ok (.getfield 28, 3) := by decide +kernel
theorem dX3_addPlace_7 : decode cX3_addPlace 7 = .ok (.bipush 10, 2) := by decide +kernel
theorem dX3_addPlace_9 : decode cX3_addPlace 9 = .ok (.if_icmp .lt 13, 3) := by decide +kernel
theorem dX3_addPlace_12 : decode cX3_addPlace 12 = .ok (.new 32, 3) := by decide +kernel
theorem dX3_addPlace_15 : decode cX3_addPlace 15 = .ok (.dup, 1) := by decide +kernel
theorem dX3_addPlace_16 : decode cX3_addPlace 16 = .ok (.ldc 34, 2) := by decide +kernel
theorem dX3_addPlace_18 : decode cX3_addPlace 18 = .ok (.invokespecial 36, 3) := by decide +kernel
theorem dX3_addPlace_21 : decode cX3_addPlace 21 = .ok (.athrow, 1) := by decide +kernel
theorem dX3_addPlace_22 : decode cX3_addPlace 22 = .ok (.aload_n 0, 1) := by decide +kernel
theorem dX3_addPlace_23 : decode cX3_addPlace 23 = .ok (.getfield 12, 3) := by decide +kernel
theorem dX3_addPlace_26 : decode cX3_addPlace 26 = .ok (.dup, 1) := by decide +kernel
theorem dX3_addPlace_27 : decode cX3_addPlace 27 = .ok (.getfield 28, 3) := by decide +kernel
theorem dX3_addPlace_30 : decode cX3_addPlace 30 = .ok (.iconst 1, 1) := by decide +kernel
theorem dX3_addPlace_31 : decode cX3_addPlace 31 = .ok (.iadd, 1) := by decide +kernel
theorem dX3_addPlace_32 : decode cX3_addPlace 32 = .ok (.putfield 28, 3) := by decide +kernel
theorem dX3_addPlace_35 : decode cX3_addPlace 35 = .ok (.aload_n 0, 1) := by decide +kernel
theorem dX3_addPlace_36 : decode cX3_addPlace 36 = .ok (.getfield 12, 3) := by decide +kernel
theorem dX3_addPlace_39 : decode cX3_addPlace 39 = .ok (.getfield 28, 3) := by decide +kernel
theorem dX3_addPlace_42 : decode cX3_addPlace 42 = .ok (.iconst 1, 1) := by decide +kernel
theorem dX3_addPlace_43 : decode cX3_addPlace 43 = .ok (.isub, 1) := by decide +kernel
theorem dX3_addPlace_44 : decode cX3_addPlace 44 = .ok (.ireturn, 1) := by decide +kernel
set_option maxRecDepth 20000 in
theorem ggX3_addRoad_X3_checkPlace : GoodIn wsX3_addRoad wsX3_checkPlace := goodIn_ca (goodIn_r _ [10, 11, 12, 5, 13, 14, 15, 16, 17, 18, 44, 45, 46, 47, 48, 49, 50, 51, 52, 53, 54] (by decide +kernel) (by decide +kernel)) (goodIn_sub (fun _ h => List.mem_cons_of_mem _ (List.mem_append_right _ h)) (by decide +kernel))
set_option maxRecDepth 20000 in
theorem gX3_addRoad_X3_checkPlace : GoodIn wsX3_addRoad (wsV RX3 39 RX3 yX3_checkPlace wsX3_checkPlace) := goodIn_app (goodIn_of _ (by decide +kernel)) ggX3_addRoad_X3_checkPlace
set_option maxRecDepth 20000 in
theorem ggX3_addRoad_X3_checkRange : GoodIn wsX3_addRoad wsX3_checkRange := goodIn_ca (goodIn_r _ [22, 1, 2] (by decide +kernel) (by decide +kernel)) (goodIn_sub (fun _ h => List.mem_cons_of_mem _ (List.mem_append_left _ (List.mem_append_left _ (List.mem_append_right _ h)))) (by decide +kernel))
set_option maxRecDepth 20000 in
theorem gX3_addRoad_X3_checkRange : GoodIn wsX3_addRoad (wsV RX3 48 RX3 yX3_checkRange wsX3_checkRange) := goodIn_app (goodIn_of _ (by decide +kernel)) ggX3_addRoad_X3_checkRange
set_option maxRecDepth 20000 in
theorem ggX3_addRoad_X1_hasRoom : GoodIn wsX3_addRoad wsX1_hasRoom := goodIn_r _ [26, 27, 28, 14, 15, 16, 17, 18, 47, 48, 49, 50, 51, 52, 53, 54] (by decide +kernel) (by decide +kernel)
set_option maxRecDepth 20000 in
theorem gX3_addRoad_X1_hasRoom : GoodIn wsX3_addRoad (wsV RX3 52 RX1 yX1_hasRoom wsX1_hasRoom) := goodIn_app (goodIn_of _ (by decide +kernel)) ggX3_addRoad_X1_hasRoom
set_option maxRecDepth 20000 in
theorem ggX3_addRoad_X1_join : GoodIn wsX3_addRoad wsX1_join := goodIn_r _ [32, 27, 33, 24, 25, 16, 26, 28, 14, 15, 17, 18, 34, 35, 36, 37, 38, 39, 40, 41, 42, 9, 43, 47, 48, 49, 50, 51, 52, 53, 54] (by decide +kernel) (by decide +kernel)
set_option maxRecDepth 20000 in
theorem gX3_addRoad_X1_join : GoodIn wsX3_addRoad (wsV RX3 58 RX1 yX1_join wsX1_join) := goodIn_app (goodIn_of _ (by decide +kernel)) ggX3_addRoad_X1_join
theorem dX3_addRoad_0 : decode cX3_addRoad 0 = .ok (.aload_n 0, 1) := by decide +kernel
theorem dX3_addRoad_1 : decode cX3_addRoad 1 = .ok (.iload_n 1, 1) := by decide +kernel
theorem dX3_addRoad_2 : decode cX3_addRoad 2 = .ok (.invokevirtual 39, 3) := by decide +kernel
theorem dX3_addRoad_5 : decode cX3_addRoad 5 = .ok (.aload_n 0, 1) := by decide +kernel
theorem dX3_addRoad_6 : decode cX3_addRoad 6 = .ok (.iload_n 2, 1) := by decide +kernel
theorem dX3_addRoad_7 : decode cX3_addRoad 7 = .ok (.invokevirtual 39, 3) := by decide +kernel
theorem dX3_addRoad_10 : decode cX3_addRoad 10 = .ok (.iload_n 1, 1) := by decide +kernel
theorem dX3_addRoad_11 : decode cX3_addRoad 11 = .ok (.iload_n 2, 1) := by decide +kernel
theorem dX3_addRoad_12 : decode cX3_addRoad 12 = .ok (.if_icmp .ne 13, 3) := by decide +kernel
theorem dX3_addRoad_15 : decode cX3_addRoad 15 = .ok (.new 43, 3) := by decide +kernel
theorem dX3_addRoad_18 : decode cX3_addRoad 18 = .ok (.dup, 1) := by decide +kernel
theorem dX3_addRoad_19 : decode cX3_addRoad 19 = .ok (.ldc 45, 2) := by decide +kernel
theorem dX3_addRoad_21 : decode cX3_addRoad 21 = .ok (.invokespecial 47, 3) := by decide +kernel
theorem dX3_addRoad_24 : decode cX3_addRoad 24 = .ok (.athrow, 1) := by decide +kernel
theorem dX3_addRoad_25 : decode cX3_addRoad 25 = .ok (.aload_n 0, 1) := by decide +kernel
theorem dX3_addRoad_26 : decode cX3_addRoad 26 = .ok (.iload_n 3, 1) := by decide +kernel
theorem dX3_addRoad_27 : decode cX3_addRoad 27 = .ok (.bipush 9, 2) := by decide +kernel
theorem dX3_addRoad_29 : decode cX3_addRoad 29 = .ok (.invokevirtual 48, 3) := by decide +kernel
theorem dX3_addRoad_32 : decode cX3_addRoad 32 = .ok (.aload_n 0, 1) := by decide +kernel
theorem dX3_addRoad_33 : decode cX3_addRoad 33 = .ok (.getfield 12, 3) := by decide +kernel
theorem dX3_addRoad_36 : decode cX3_addRoad 36 = .ok (.iload_n 1, 1) := by decide +kernel
theorem dX3_addRoad_37 : decode cX3_addRoad 37 = .ok (.invokevirtual 52, 3) := by decide +kernel
theorem dX3_addRoad_40 : decode cX3_addRoad 40 = .ok (.ifCond .eq 14, 3) := by decide +kernel
theorem dX3_addRoad_43 : decode cX3_addRoad 43 = .ok (.aload_n 0, 1) := by decide +kernel
theorem dX3_addRoad_44 : decode cX3_addRoad 44 = .ok (.getfield 12, 3) := by decide +kernel
theorem dX3_addRoad_47 : decode cX3_addRoad 47 = .ok (.iload_n 2, 1) := by decide +kernel
theorem dX3_addRoad_48 : decode cX3_addRoad 48 = .ok (.invokevirtual 52, 3) := by decide +kernel
theorem dX3_addRoad_51 : decode cX3_addRoad 51 = .ok (.ifCond .ne 13, 3) := by decide +kernel
theorem dX3_addRoad_54 : decode cX3_addRoad 54 = .ok (.new 32, 3) := by decide +kernel
theorem dX3_addRoad_57 : decode cX3_addRoad 57 = .ok (.dup, 1) := by decide +kernel
theorem dX3_addRoad_58 : decode cX3_addRoad 58 = .ok (.ldc 56, 2) := by decide +kernel
theorem dX3_addRoad_60 : decode cX3_addRoad 60 = .ok (.invokespecial 36, 3) := by decide +kernel
theorem dX3_addRoad_63 : decode cX3_addRoad 63 = .ok (.athrow, 1) := by decide +kernel
theorem dX3_addRoad_64 : decode cX3_addRoad 64 = .ok (.aload_n 0, 1) := by decide +kernel
theorem dX3_addRoad_65 : decode cX3_addRoad 65 = .ok (.getfield 12, 3) := by decide +kernel
theorem dX3_addRoad_68 : decode cX3_addRoad 68 = .ok (.iload_n 1, 1) := by decide +kernel
theorem dX3_addRoad_69 : decode cX3_addRoad 69 = .ok (.iload_n 2, 1) := by decide +kernel
theorem dX3_addRoad_70 : decode cX3_addRoad 70 = .ok (.iload_n 3, 1) := by decide +kernel
theorem dX3_addRoad_71 : decode cX3_addRoad 71 = .ok (.invokevirtual 58, 3) := by decide +kernel
theorem dX3_addRoad_74 : decode cX3_addRoad 74 = .ok (.ireturn, 1) := by decide +kernel
set_option maxRecDepth 20000 in
theorem ggX3_turnRoad_X3_checkedEnd : GoodIn wsX3_turnRoad wsX3_checkedEnd := goodIn_ca (goodIn_r _ [6, 7, 8, 1, 9, 10, 11, 12, 13, 14, 15, 16, 17, 18, 19, 32, 33, 34, 35, 36, 37, 38, 39, 40, 41, 42] (by decide +kernel) (by decide +kernel)) (goodIn_sub (fun _ h => List.mem_cons_of_mem _ (List.mem_append_right _ h)) (by decide +kernel))
set_option maxRecDepth 20000 in
theorem gX3_turnRoad_X3_checkedEnd : GoodIn wsX3_turnRoad (wsV RX3 62 RX3 yX3_checkedEnd wsX3_checkedEnd) := goodIn_app (goodIn_of _ (by decide +kernel)) ggX3_turnRoad_X3_checkedEnd
set_option maxRecDepth 20000 in
theorem ggX3_turnRoad_X1_turnEnd : GoodIn wsX3_turnRoad wsX1_turnEnd := goodIn_r _ [23, 24, 25, 26, 27, 12, 28, 29, 30, 5, 31, 35, 36, 37, 38, 39, 40, 41, 42] (by decide +kernel) (by decide +kernel)
set_option maxRecDepth 20000 in
theorem gX3_turnRoad_X1_turnEnd : GoodIn wsX3_turnRoad (wsV RX3 66 RX1 yX1_turnEnd wsX1_turnEnd) := goodIn_app (goodIn_of _ (by decide +kernel)) ggX3_turnRoad_X1_turnEnd
theorem dX3_turnRoad_0 : decode cX3_turnRoad 0 = .ok (.aload_n 0, 1) := by decide +kernel
theorem dX3_turnRoad_1 : decode cX3_turnRoad 1 = .ok (.getfield 12, 3) := by decide +kernel
theorem dX3_turnRoad_4 : decode cX3_turnRoad 4 = .ok (.aload_n 0, 1) := by decide +kernel
theorem dX3_turnRoad_5 : decode cX3_turnRoad 5 = .ok (.iload_n 1, 1) := by decide +kernel
theorem dX3_turnRoad_6 : decode cX3_turnRoad 6 = .ok (.iload_n 2, 1) := by decide +kernel
theorem dX3_turnRoad_7 : decode cX3_turnRoad 7 = .ok (.invokevirtual 62, 3) := by decide +kernel
theorem dX3_turnRoad_10 : decode cX3_turnRoad 10 = .ok (.invokevirtual 66, 3) := by decide +kernel
theorem dX3_turnRoad_13 : decode cX3_turnRoad 13 = .ok (.ireturn, 1) := by decide +kernel
set_option maxRecDepth 20000 in
theorem ggX3_turnShepherd_X3_checkPlace : GoodIn wsX3_turnShepherd wsX3_checkPlace := goodIn_ca (goodIn_r _ [6, 7, 8, 1, 9, 10, 11, 12, 13, 14, 15, 16, 17, 18, 19, 20, 21, 22, 23, 24, 25] (by decide +kernel) (by decide +kernel)) (goodIn_sub (fun _ h => List.mem_cons_of_mem _ (List.mem_append_right _ h)) (by decide +kernel))
set_option maxRecDepth 20000 in
theorem gX3_turnShepherd_X3_checkPlace : GoodIn wsX3_turnShepherd (wsV RX3 39 RX3 yX3_checkPlace wsX3_checkPlace) := goodIn_app (goodIn_of _ (by decide +kernel)) ggX3_turnShepherd_X3_checkPlace
theorem dX3_turnShepherd_0 : decode cX3_turnShepherd 0 = .ok (.aload_n 0, 1) := by decide +kernel
theorem dX3_turnShepherd_1 : decode cX3_turnShepherd 1 = .ok (.iload_n 1, 1) := by decide +kernel
theorem dX3_turnShepherd_2 : decode cX3_turnShepherd 2 = .ok (.invokevirtual 39, 3) := by decide +kernel
theorem dX3_turnShepherd_5 : decode cX3_turnShepherd 5 = .ok (.aload_n 0, 1) := by decide +kernel
theorem dX3_turnShepherd_6 : decode cX3_turnShepherd 6 = .ok (.getfield 12, 3) := by decide +kernel
theorem dX3_turnShepherd_9 : decode cX3_turnShepherd 9 = .ok (.getfield 69, 3) := by decide +kernel
theorem dX3_turnShepherd_12 : decode cX3_turnShepherd 12 = .ok (.iload_n 1, 1) := by decide +kernel
theorem dX3_turnShepherd_13 : decode cX3_turnShepherd 13 = .ok (.aload_n 0, 1) := by decide +kernel
theorem dX3_turnShepherd_14 : decode cX3_turnShepherd 14 = .ok (.getfield 12, 3) := by decide +kernel
theorem dX3_turnShepherd_17 : decode cX3_turnShepherd 17 = .ok (.getfield 69, 3) := by decide +kernel
theorem dX3_turnShepherd_20 : decode cX3_turnShepherd 20 = .ok (.iload_n 1, 1) := by decide +kernel
theorem dX3_turnShepherd_21 : decode cX3_turnShepherd 21 = .ok (.baload, 1) := by decide +kernel
theorem dX3_turnShepherd_22 : decode cX3_turnShepherd 22 = .ok (.ifCond .ne 7, 3) := by decide +kernel
theorem dX3_turnShepherd_25 : decode cX3_turnShepherd 25 = .ok (.iconst 1, 1) := by decide +kernel
theorem dX3_turnShepherd_26 : decode cX3_turnShepherd 26 = .ok (.goto 4, 3) := by decide +kernel
theorem dX3_turnShepherd_29 : decode cX3_turnShepherd 29 = .ok (.iconst 0, 1) := by decide +kernel
theorem dX3_turnShepherd_30 : decode cX3_turnShepherd 30 = .ok (.bastore, 1) := by decide +kernel
theorem dX3_turnShepherd_31 : decode cX3_turnShepherd 31 = .ok (.aload_n 0, 1) := by decide +kernel
theorem dX3_turnShepherd_32 : decode cX3_turnShepherd 32 = .ok (.getfield 12, 3) := by decide +kernel
theorem dX3_turnShepherd_35 : decode cX3_turnShepherd 35 = .ok (.getfield 69, 3) := by decide +kernel
theorem dX3_turnShepherd_38 : decode cX3_turnShepherd 38 = .ok (.iload_n 1, 1) := by decide +kernel
theorem dX3_turnShepherd_39 : decode cX3_turnShepherd 39 = .ok (.baload, 1) := by decide +kernel
theorem dX3_turnShepherd_40 : decode cX3_turnShepherd 40 = .ok (.ireturn, 1) := by decide +kernel
set_option maxRecDepth 20000 in
theorem ggX3_pay_X3_checkRange : GoodIn wsX3_pay wsX3_checkRange := goodIn_ca (goodIn_r _ [10, 11, 12] (by decide +kernel) (by decide +kernel)) (goodIn_sub (fun _ h => List.mem_cons_of_mem _ (List.mem_append_right _ h)) (by decide +kernel))
set_option maxRecDepth 20000 in
theorem gX3_pay_X3_checkRange : GoodIn wsX3_pay (wsV RX3 48 RX3 yX3_checkRange wsX3_checkRange) := goodIn_app (goodIn_of _ (by decide +kernel)) ggX3_pay_X3_checkRange
theorem dX3_pay_0 : decode cX3_pay 0 = .ok (.aload_n 0, 1) := by decide +kernel
theorem dX3_pay_1 : decode cX3_pay 1 = .ok (.iload_n 1, 1) := by decide +kernel
theorem dX3_pay_2 : decode cX3_pay 2 = .ok (.bipush 99, 2) := by decide +kernel
theorem dX3_pay_4 : decode cX3_pay 4 = .ok (.invokevirtual 48, 3) := by decide +kernel
theorem dX3_pay_7 : decode cX3_pay 7 = .ok (.aload_n 0, 1) := by decide +kernel
theorem dX3_pay_8 : decode cX3_pay 8 = .ok (.getfield 21, 3) := by decide +kernel
theorem dX3_pay_11 : decode cX3_pay 11 = .ok (.bipush 99, 2) := by decide +kernel
theorem dX3_pay_13 : decode cX3_pay 13 = .ok (.aload_n 0, 1) := by decide +kernel
theorem dX3_pay_14 : decode cX3_pay 14 = .ok (.getfield 21, 3) := by decide +kernel
theorem dX3_pay_17 : decode cX3_pay 17 = .ok (.getfield 73, 3) := by decide +kernel
theorem dX3_pay_20 : decode cX3_pay 20 = .ok (.iload_n 1, 1) := by decide +kernel
theorem dX3_pay_21 : decode cX3_pay 21 = .ok (.iadd, 1) := by decide +kernel
theorem dX3_pay_22 : decode cX3_pay 22 = .ok (.invokestatic 76, 3) := by decide +kernel
theorem dX3_pay_25 : decode cX3_pay 25 = .ok (.putfield 73, 3) := by decide +kernel
theorem dX3_pay_28 : decode cX3_pay 28 = .ok (.aload_n 0, 1) := by decide +kernel
theorem dX3_pay_29 : decode cX3_pay 29 = .ok (.getfield 21, 3) := by decide +kernel
theorem dX3_pay_32 : decode cX3_pay 32 = .ok (.getfield 73, 3) := by decide +kernel
theorem dX3_pay_35 : decode cX3_pay 35 = .ok (.ireturn, 1) := by decide +kernel
set_option maxRecDepth 20000 in
theorem ggX3_beginErrand_X3_checkPlace : GoodIn wsX3_beginErrand wsX3_checkPlace := goodIn_ca (goodIn_r _ [7, 8, 9, 1, 10, 11, 12, 13, 14, 15, 68, 69, 70, 86, 87, 88, 89, 90, 91, 92, 93] (by decide +kernel) (by decide +kernel)) (goodIn_sub (fun _ h => List.mem_cons_of_mem _ (List.mem_append_left _ (List.mem_append_right _ h))) (by decide +kernel))
set_option maxRecDepth 20000 in
theorem gX3_beginErrand_X3_checkPlace : GoodIn wsX3_beginErrand (wsV RX3 39 RX3 yX3_checkPlace wsX3_checkPlace) := goodIn_app (goodIn_of _ (by decide +kernel)) ggX3_beginErrand_X3_checkPlace
set_option maxRecDepth 20000 in
theorem ggX3_beginErrand_X3_checkIdle : GoodIn wsX3_beginErrand wsX3_checkIdle := goodIn_ca (goodIn_r _ [19, 20, 21, 2, 22, 23, 24, 25, 26, 27, 68, 69, 70, 71, 72, 73, 74, 75, 76, 77, 78, 79, 80, 81, 82, 83, 84, 85] (by decide +kernel) (by decide +kernel)) (goodIn_sub (fun _ h => List.mem_cons_of_mem _ (List.mem_append_right _ h)) (by decide +kernel))
set_option maxRecDepth 20000 in
theorem gX3_beginErrand_X3_checkIdle : GoodIn wsX3_beginErrand (wsV RX3 81 RX3 yX3_checkIdle wsX3_checkIdle) := goodIn_app (goodIn_of _ (by decide +kernel)) ggX3_beginErrand_X3_checkIdle
set_option maxRecDepth 20000 in
theorem ggX3_beginErrand_X1_shortest : GoodIn wsX3_beginErrand wsX1_shortest := goodIn_r _ [31, 32, 33, 34, 35, 36, 13, 37, 38, 39, 40, 41, 42, 11, 12, 14, 15, 43, 44, 45, 46, 47, 48, 49, 50, 6, 51, 86, 87, 88, 89, 90, 91, 92, 93] (by decide +kernel) (by decide +kernel)
set_option maxRecDepth 20000 in
theorem gX3_beginErrand_X1_shortest : GoodIn wsX3_beginErrand (wsV RX3 87 RX1 yX1_shortest wsX1_shortest) := goodIn_app (goodIn_of _ (by decide +kernel)) ggX3_beginErrand_X1_shortest
set_option maxRecDepth 20000 in
theorem ggX3_beginErrand_X0_begin : GoodIn wsX3_beginErrand wsX0_begin := goodIn_r _ [55, 56, 57, 58, 27, 59, 60, 61, 62, 25, 63, 64, 65, 66, 67, 71, 72, 73, 74, 75, 76, 77, 78, 79, 80, 81, 82, 83, 84, 85] (by decide +kernel) (by decide +kernel)
set_option maxRecDepth 20000 in
theorem gX3_beginErrand_X0_begin : GoodIn wsX3_beginErrand (wsV RX3 90 RX0 yX0_begin wsX0_begin) := goodIn_app (goodIn_of _ (by decide +kernel)) ggX3_beginErrand_X0_begin
theorem dX3_beginErrand_0 : decode cX3_beginErrand 0 = .ok (.aload_n 0, 1) := by decide +kernel
theorem dX3_beginErrand_1 : decode cX3_beginErrand 1 = .ok (.iload_n 1, 1) := by decide +kernel
theorem dX3_beginErrand_2 : decode cX3_beginErrand 2 = .ok (.invokevirtual 39, 3) := by decide +kernel
theorem dX3_beginErrand_5 : decode cX3_beginErrand 5 = .ok (.aload_n 0, 1) := by decide +kernel
theorem dX3_beginErrand_6 : decode cX3_beginErrand 6 = .ok (.invokevirtual 81, 3) := by decide +kernel
theorem dX3_beginErrand_9 : decode cX3_beginErrand 9 = .ok (.aload_n 0, 1) := by decide +kernel
theorem dX3_beginErrand_10 : decode cX3_beginErrand 10 = .ok (.getfield 12, 3) := by decide +kernel
theorem dX3_beginErrand_13 : decode cX3_beginErrand 13 = .ok (.aload_n 0, 1) := by decide +kernel
theorem dX3_beginErrand_14 : decode cX3_beginErrand 14 = .ok (.getfield 21, 3) := by decide +kernel
theorem dX3_beginErrand_17 : decode cX3_beginErrand 17 = .ok (.getfield 84, 3) := by decide +kernel
theorem dX3_beginErrand_20 : decode cX3_beginErrand 20 = .ok (.iload_n 1, 1) := by decide +kernel
theorem dX3_beginErrand_21 : decode cX3_beginErrand 21 = .ok (.invokevirtual 87, 3) := by decide +kernel
theorem dX3_beginErrand_24 : decode cX3_beginErrand 24 = .ok (.istore_n 2, 1) := by decide +kernel
theorem dX3_beginErrand_25 : decode cX3_beginErrand 25 = .ok (.aload_n 0, 1) := by decide +kernel
theorem dX3_beginErrand_26 : decode cX3_beginErrand 26 = .ok (.getfield 21, 3) := by decide +kernel
theorem dX3_beginErrand_29 : decode cX3_beginErrand 29 = .ok (.iload_n 1, 1) := by decide +kernel
theorem dX3_beginErrand_30 : decode cX3_beginErrand 30 = .ok (.invokevirtual 90, 3) := by decide +kernel
theorem dX3_beginErrand_33 : decode cX3_beginErrand 33 = .ok (.iload_n 2, 1) := by decide +kernel
theorem dX3_beginErrand_34 : decode cX3_beginErrand 34 = .ok (.ireturn, 1) := by decide +kernel
set_option maxRecDepth 20000 in
theorem ggX3_goOn_X3_checkRange : GoodIn wsX3_goOn wsX3_checkRange := goodIn_ca (goodIn_r _ [6, 7, 8] (by decide +kernel) (by decide +kernel)) (goodIn_sub (fun _ h => List.mem_cons_of_mem _ (List.mem_append_left _ (List.mem_append_right _ h))) (by decide +kernel))
set_option maxRecDepth 20000 in
theorem gX3_goOn_X3_checkRange : GoodIn wsX3_goOn (wsV RX3 48 RX3 yX3_checkRange wsX3_checkRange) := goodIn_app (goodIn_of _ (by decide +kernel)) ggX3_goOn_X3_checkRange
set_option maxRecDepth 20000 in
theorem ggX3_goOn_X3_checkUnderway : GoodIn wsX3_goOn wsX3_checkUnderway := goodIn_ca (goodIn_r _ [12, 13, 14, 1, 15, 16, 17, 18, 19, 20, 142, 143, 144, 145, 146, 147, 148, 149, 150, 151, 152, 153, 154, 155, 156, 157, 158, 159] (by decide +kernel) (by decide +kernel)) (goodIn_sub (fun _ h => List.mem_cons_of_mem _ (List.mem_append_right _ h)) (by decide +kernel))
set_option maxRecDepth 20000 in
theorem gX3_goOn_X3_checkUnderway : GoodIn wsX3_goOn (wsV RX3 93 RX3 yX3_checkUnderway wsX3_checkUnderway) := goodIn_app (goodIn_of _ (by decide +kernel)) ggX3_goOn_X3_checkUnderway
set_option maxRecDepth 20000 in
theorem ggX3_goOn_X0_isUnderway : GoodIn wsX3_goOn wsX0_isUnderway := goodIn_r _ [19, 20, 145, 146, 147, 148, 149, 150, 151, 152, 153, 154, 155, 156, 157, 158, 159] (by decide +kernel) (by decide +kernel)
set_option maxRecDepth 20000 in
theorem gX3_goOn_X0_isUnderway : GoodIn wsX3_goOn (wsV RX3 96 RX0 yX0_isUnderway wsX0_isUnderway) := goodIn_app (goodIn_of _ (by decide +kernel)) ggX3_goOn_X0_isUnderway
set_option maxRecDepth 20000 in
theorem ggX3_goOn_X0_step : GoodIn wsX3_goOn wsX0_step := goodIn_r _ [24, 25, 26, 27, 20, 28, 29, 30, 31, 18, 32, 33, 34, 35, 36, 37, 38, 39, 40, 41, 42, 43, 44, 45, 46, 47, 48, 49, 50, 51, 52, 53, 54, 55, 56, 57, 58, 59, 60, 61, 5, 62, 63, 64, 65, 66, 67, 68, 69, 70, 71, 72, 73, 74, 75, 76, 77, 78, 79, 80, 81, 82, 83, 84, 85, 86, 87, 88, 89, 90, 91, 92, 93, 94, 95, 96, 97, 98, 99, 100, 101, 102, 103, 104, 105, 106, 107, 108, 109, 110, 111, 112, 113, 114, 115, 116, 117, 118, 119, 120, 121, 122, 123, 124, 125, 126, 127, 128, 129, 130, 131, 132, 133, 134, 135, 136, 137, 138, 139, 140, 141, 145, 146, 147, 148, 149, 150, 151, 152, 153, 154, 155, 156, 157, 158, 159, 160, 161, 162, 163, 164, 165, 166, 167, 168, 169] (by decide +kernel) (by decide +kernel)
set_option maxRecDepth 20000 in
theorem gX3_goOn_X0_step : GoodIn wsX3_goOn (wsV RX3 100 RX0 yX0_step wsX0_step) := goodIn_app (goodIn_of _ (by decide +kernel)) ggX3_goOn_X0_step
theorem dX3_goOn_0 : decode cX3_goOn 0 = .ok (.aload_n 0, 1) := by decide +kernel
theorem dX3_goOn_1 : decode cX3_goOn 1 = .ok (.iload_n 1, 1) := by decide +kernel
theorem dX3_goOn_2 : decode cX3_goOn 2 = .ok (.bipush 100, 2) := by decide +kernel
theorem dX3_goOn_4 : decode cX3_goOn 4 = .ok (.invokevirtual 48, 3) := by decide +kernel
theorem dX3_goOn_7 : decode cX3_goOn 7 = .ok (.aload_n 0, 1) := by decide +kernel
theorem dX3_goOn_8 : decode cX3_goOn 8 = .ok (.invokevirtual 93, 3) := by decide +kernel
theorem dX3_goOn_11 : decode cX3_goOn 11 = .ok (.iconst 0, 1) := by decide +kernel
theorem dX3_goOn_12 : decode cX3_goOn 12 = .ok (.istore_n 2, 1) := by decide +kernel
theorem dX3_goOn_13 : decode cX3_goOn 13 = .ok (.iload_n 2, 1) := by decide +kernel
theorem dX3_goOn_14 : decode cX3_goOn 14 = .ok (.iload_n 1, 1) := by decide +kernel
theorem dX3_goOn_15 : decode cX3_goOn 15 = .ok (.if_icmp .ge 29, 3) := by decide +kernel
theorem dX3_goOn_18 : decode cX3_goOn 18 = .ok (.aload_n 0, 1) := by decide +kernel
theorem dX3_goOn_19 : decode cX3_goOn 19 = .ok (.getfield 21, 3) := by decide +kernel
theorem dX3_goOn_22 : decode cX3_goOn 22 = .ok (.invokevirtual 96, 3) := by decide +kernel
theorem dX3_goOn_25 : decode cX3_goOn 25 = .ok (.ifCond .eq 19, 3) := by decide +kernel
theorem dX3_goOn_28 : decode cX3_goOn 28 = .ok (.aload_n 0, 1) := by decide +kernel
theorem dX3_goOn_29 : decode cX3_goOn 29 = .ok (.getfield 21, 3) := by decide +kernel
theorem dX3_goOn_32 : decode cX3_goOn 32 = .ok (.invokevirtual 100, 3) := by decide +kernel
theorem dX3_goOn_35 : decode cX3_goOn 35 = .ok (.ifCond .eq 9, 3) := by decide +kernel
theorem dX3_goOn_38 : decode cX3_goOn 38 = .ok (.iinc 2 1, 3) := by decide +kernel
theorem dX3_goOn_41 : decode cX3_goOn 41 = .ok (.goto (-28), 3) := by decide +kernel
theorem dX3_goOn_44 : decode cX3_goOn 44 = .ok (.iload_n 2, 1) := by decide +kernel
theorem dX3_goOn_45 : decode cX3_goOn 45 = .ok (.ireturn, 1) := by decide +kernel
set_option maxRecDepth 20000 in
theorem ggX3_giveUp_X3_checkUnderway : GoodIn wsX3_giveUp wsX3_checkUnderway := goodIn_ca (goodIn_r _ [6, 7, 8, 1, 9, 10, 11, 12, 13, 14, 20, 21, 22, 23, 24, 25, 26, 27, 28, 29, 30, 31, 32, 33, 34, 35, 36, 37] (by decide +kernel) (by decide +kernel)) (goodIn_sub (fun _ h => List.mem_cons_of_mem _ (List.mem_append_right _ h)) (by decide +kernel))
set_option maxRecDepth 20000 in
theorem gX3_giveUp_X3_checkUnderway : GoodIn wsX3_giveUp (wsV RX3 93 RX3 yX3_checkUnderway wsX3_checkUnderway) := goodIn_app (goodIn_of _ (by decide +kernel)) ggX3_giveUp_X3_checkUnderway
set_option maxRecDepth 20000 in
theorem ggX3_giveUp_X0_endErrand : GoodIn wsX3_giveUp wsX0_endErrand := goodIn_r _ [18, 14, 19, 23, 24, 25, 26, 27, 28, 29, 30, 31, 32, 33, 34, 35, 36, 37] (by decide +kernel) (by decide +kernel)
set_option maxRecDepth 20000 in
theorem gX3_giveUp_X0_endErrand : GoodIn wsX3_giveUp (wsV RX3 106 RX0 yX0_endErrand wsX0_endErrand) := goodIn_app (goodIn_of _ (by decide +kernel)) ggX3_giveUp_X0_endErrand
theorem dX3_giveUp_0 : decode cX3_giveUp 0 = .ok (.aload_n 0, 1) := by decide +kernel
theorem dX3_giveUp_1 : decode cX3_giveUp 1 = .ok (.invokevirtual 93, 3) := by decide +kernel
theorem dX3_giveUp_4 : decode cX3_giveUp 4 = .ok (.aload_n 0, 1) := by decide +kernel
theorem dX3_giveUp_5 : decode cX3_giveUp 5 = .ok (.getfield 21, 3) := by decide +kernel
theorem dX3_giveUp_8 : decode cX3_giveUp 8 = .ok (.getfield 103, 3) := by decide +kernel
theorem dX3_giveUp_11 : decode cX3_giveUp 11 = .ok (.istore_n 1, 1) := by decide +kernel
theorem dX3_giveUp_12 : decode cX3_giveUp 12 = .ok (.aload_n 0, 1) := by decide +kernel
theorem dX3_giveUp_13 : decode cX3_giveUp 13 = .ok (.getfield 21, 3) := by decide +kernel
theorem dX3_giveUp_16 : decode cX3_giveUp 16 = .ok (.invokevirtual 106, 3) := by decide +kernel
theorem dX3_giveUp_19 : decode cX3_giveUp 19 = .ok (.iload_n 1, 1) := by decide +kernel
theorem dX3_giveUp_20 : decode cX3_giveUp 20 = .ok (.ireturn, 1) := by decide +kernel
set_option maxRecDepth 20000 in
theorem ggX3_sleep_X3_checkRange : GoodIn wsX3_sleep wsX3_checkRange := goodIn_ca (goodIn_r _ [6, 7, 8] (by decide +kernel) (by decide +kernel)) (goodIn_sub (fun _ h => List.mem_cons_of_mem _ (List.mem_append_right _ h)) (by decide +kernel))
set_option maxRecDepth 20000 in
theorem gX3_sleep_X3_checkRange : GoodIn wsX3_sleep (wsV RX3 48 RX3 yX3_checkRange wsX3_checkRange) := goodIn_app (goodIn_of _ (by decide +kernel)) ggX3_sleep_X3_checkRange
set_option maxRecDepth 20000 in
theorem ggX3_sleep_X2_fade : GoodIn wsX3_sleep wsX2_fade := goodIn_r _ [13, 14, 15, 16, 17, 18, 37, 38] (by decide +kernel) (by decide +kernel)
set_option maxRecDepth 20000 in
theorem gX3_sleep_X2_fade : GoodIn wsX3_sleep (wsV RX3 113 RX2 yX2_fade wsX2_fade) := goodIn_app (goodIn_of _ (by decide +kernel)) ggX3_sleep_X2_fade
theorem dX3_sleep_0 : decode cX3_sleep 0 = .ok (.aload_n 0, 1) := by decide +kernel
theorem dX3_sleep_1 : decode cX3_sleep 1 = .ok (.iload_n 1, 1) := by decide +kernel
theorem dX3_sleep_2 : decode cX3_sleep 2 = .ok (.bipush 9, 2) := by decide +kernel
theorem dX3_sleep_4 : decode cX3_sleep 4 = .ok (.invokevirtual 48, 3) := by decide +kernel
theorem dX3_sleep_7 : decode cX3_sleep 7 = .ok (.aload_n 0, 1) := by decide +kernel
theorem dX3_sleep_8 : decode cX3_sleep 8 = .ok (.getfield 21, 3) := by decide +kernel
theorem dX3_sleep_11 : decode cX3_sleep 11 = .ok (.getfield 109, 3) := by decide +kernel
theorem dX3_sleep_14 : decode cX3_sleep 14 = .ok (.iload_n 1, 1) := by decide +kernel
theorem dX3_sleep_15 : decode cX3_sleep 15 = .ok (.invokevirtual 113, 3) := by decide +kernel
theorem dX3_sleep_18 : decode cX3_sleep 18 = .ok (.ireturn, 1) := by decide +kernel
theorem dX3_places_0 : decode cX3_places 0 = .ok (.aload_n 0, 1) := by decide +kernel
theorem dX3_places_1 : decode cX3_places 1 = .ok (.getfield 12, 3) := by decide +kernel
theorem dX3_places_4 : decode cX3_places 4 = .ok (.getfield 28, 3) := by decide +kernel
theorem dX3_places_7 : decode cX3_places 7 = .ok (.ireturn, 1) := by decide +kernel
set_option maxRecDepth 20000 in
theorem ggX3_exitsOf_X3_checkPlace : GoodIn wsX3_exitsOf wsX3_checkPlace := goodIn_ca (goodIn_r _ [6, 7, 8, 1, 9, 10, 11, 12, 13, 14, 15, 16, 17, 18, 19, 20, 21, 22, 23, 24, 25] (by decide +kernel) (by decide +kernel)) (goodIn_sub (fun _ h => List.mem_cons_of_mem _ (List.mem_append_right _ h)) (by decide +kernel))
set_option maxRecDepth 20000 in
theorem gX3_exitsOf_X3_checkPlace : GoodIn wsX3_exitsOf (wsV RX3 39 RX3 yX3_checkPlace wsX3_checkPlace) := goodIn_app (goodIn_of _ (by decide +kernel)) ggX3_exitsOf_X3_checkPlace
theorem dX3_exitsOf_0 : decode cX3_exitsOf 0 = .ok (.aload_n 0, 1) := by decide +kernel
theorem dX3_exitsOf_1 : decode cX3_exitsOf 1 = .ok (.iload_n 1, 1) := by decide +kernel
theorem dX3_exitsOf_2 : decode cX3_exitsOf 2 = .ok (.invokevirtual 39, 3) := by decide +kernel
theorem dX3_exitsOf_5 : decode cX3_exitsOf 5 = .ok (.aload_n 0, 1) := by decide +kernel
theorem dX3_exitsOf_6 : decode cX3_exitsOf 6 = .ok (.getfield 12, 3) := by decide +kernel
theorem dX3_exitsOf_9 : decode cX3_exitsOf 9 = .ok (.getfield 119, 3) := by decide +kernel
theorem dX3_exitsOf_12 : decode cX3_exitsOf 12 = .ok (.iload_n 1, 1) := by decide +kernel
theorem dX3_exitsOf_13 : decode cX3_exitsOf 13 = .ok (.iaload, 1) := by decide +kernel
theorem dX3_exitsOf_14 : decode cX3_exitsOf 14 = .ok (.ireturn, 1) := by decide +kernel
set_option maxRecDepth 20000 in
theorem ggX3_leadsTo_X3_checkedEnd : GoodIn wsX3_leadsTo wsX3_checkedEnd := goodIn_ca (goodIn_r _ [6, 7, 8, 1, 9, 10, 11, 12, 13, 14, 15, 16, 17, 18, 19, 27, 28, 29, 30, 31, 32, 33, 34, 35, 36, 37] (by decide +kernel) (by decide +kernel)) (goodIn_sub (fun _ h => List.mem_cons_of_mem _ (List.mem_append_right _ h)) (by decide +kernel))
set_option maxRecDepth 20000 in
theorem gX3_leadsTo_X3_checkedEnd : GoodIn wsX3_leadsTo (wsV RX3 62 RX3 yX3_checkedEnd wsX3_checkedEnd) := goodIn_app (goodIn_of _ (by decide +kernel)) ggX3_leadsTo_X3_checkedEnd
set_option maxRecDepth 20000 in
theorem ggX3_leadsTo_X1_beyond : GoodIn wsX3_leadsTo wsX1_beyond := goodIn_r _ [23, 24, 25, 5, 26, 30, 31, 32, 33, 34, 35, 36, 37] (by decide +kernel) (by decide +kernel)
set_option maxRecDepth 20000 in
theorem gX3_leadsTo_X1_beyond : GoodIn wsX3_leadsTo (wsV RX3 123 RX1 yX1_beyond wsX1_beyond) := goodIn_app (goodIn_of _ (by decide +kernel)) ggX3_leadsTo_X1_beyond
theorem dX3_leadsTo_0 : decode cX3_leadsTo 0 = .ok (.aload_n 0, 1) := by decide +kernel
theorem dX3_leadsTo_1 : decode cX3_leadsTo 1 = .ok (.getfield 12, 3) := by decide +kernel
theorem dX3_leadsTo_4 : decode cX3_leadsTo 4 = .ok (.aload_n 0, 1) := by decide +kernel
theorem dX3_leadsTo_5 : decode cX3_leadsTo 5 = .ok (.iload_n 1, 1) := by decide +kernel
theorem dX3_leadsTo_6 : decode cX3_leadsTo 6 = .ok (.iload_n 2, 1) := by decide +kernel
theorem dX3_leadsTo_7 : decode cX3_leadsTo 7 = .ok (.invokevirtual 62, 3) := by decide +kernel
theorem dX3_leadsTo_10 : decode cX3_leadsTo 10 = .ok (.invokevirtual 123, 3) := by decide +kernel
theorem dX3_leadsTo_13 : decode cX3_leadsTo 13 = .ok (.ireturn, 1) := by decide +kernel
set_option maxRecDepth 20000 in
theorem ggX3_milesOf_X3_checkedEnd : GoodIn wsX3_milesOf wsX3_checkedEnd := goodIn_ca (goodIn_r _ [6, 7, 8, 1, 9, 10, 11, 12, 13, 14, 15, 16, 17, 18, 19, 27, 28, 29, 30, 31, 32, 33, 34, 35, 36, 37] (by decide +kernel) (by decide +kernel)) (goodIn_sub (fun _ h => List.mem_cons_of_mem _ (List.mem_append_right _ h)) (by decide +kernel))
set_option maxRecDepth 20000 in
theorem gX3_milesOf_X3_checkedEnd : GoodIn wsX3_milesOf (wsV RX3 62 RX3 yX3_checkedEnd wsX3_checkedEnd) := goodIn_app (goodIn_of _ (by decide +kernel)) ggX3_milesOf_X3_checkedEnd
set_option maxRecDepth 20000 in
theorem ggX3_milesOf_X1_milesAt : GoodIn wsX3_milesOf wsX1_milesAt := goodIn_r _ [23, 24, 25, 5, 26, 30, 31, 32, 33, 34, 35, 36, 37] (by decide +kernel) (by decide +kernel)
set_option maxRecDepth 20000 in
theorem gX3_milesOf_X1_milesAt : GoodIn wsX3_milesOf (wsV RX3 126 RX1 yX1_milesAt wsX1_milesAt) := goodIn_app (goodIn_of _ (by decide +kernel)) ggX3_milesOf_X1_milesAt
theorem dX3_milesOf_0 : decode cX3_milesOf 0 = .ok (.aload_n 0, 1) := by decide +kernel
theorem dX3_milesOf_1 : decode cX3_milesOf 1 = .ok (.getfield 12, 3) := by decide +kernel
theorem dX3_milesOf_4 : decode cX3_milesOf 4 = .ok (.aload_n 0, 1) := by decide +kernel
theorem dX3_milesOf_5 : decode cX3_milesOf 5 = .ok (.iload_n 1, 1) := by decide +kernel
theorem dX3_milesOf_6 : decode cX3_milesOf 6 = .ok (.iload_n 2, 1) := by decide +kernel
theorem dX3_milesOf_7 : decode cX3_milesOf 7 = .ok (.invokevirtual 62, 3) := by decide +kernel
theorem dX3_milesOf_10 : decode cX3_milesOf 10 = .ok (.invokevirtual 126, 3) := by decide +kernel
theorem dX3_milesOf_13 : decode cX3_milesOf 13 = .ok (.ireturn, 1) := by decide +kernel
set_option maxRecDepth 20000 in
theorem ggX3_isOpen_X3_checkedEnd : GoodIn wsX3_isOpen wsX3_checkedEnd := goodIn_ca (goodIn_r _ [6, 7, 8, 1, 9, 10, 11, 12, 13, 14, 15, 16, 17, 18, 19, 27, 28, 29, 30, 31, 32, 33, 34, 35, 36, 37] (by decide +kernel) (by decide +kernel)) (goodIn_sub (fun _ h => List.mem_cons_of_mem _ (List.mem_append_right _ h)) (by decide +kernel))
set_option maxRecDepth 20000 in
theorem gX3_isOpen_X3_checkedEnd : GoodIn wsX3_isOpen (wsV RX3 62 RX3 yX3_checkedEnd wsX3_checkedEnd) := goodIn_app (goodIn_of _ (by decide +kernel)) ggX3_isOpen_X3_checkedEnd
set_option maxRecDepth 20000 in
theorem ggX3_isOpen_X1_opensAt : GoodIn wsX3_isOpen wsX1_opensAt := goodIn_r _ [23, 24, 25, 5, 26, 30, 31, 32, 33, 34, 35, 36, 37] (by decide +kernel) (by decide +kernel)
set_option maxRecDepth 20000 in
theorem gX3_isOpen_X1_opensAt : GoodIn wsX3_isOpen (wsV RX3 129 RX1 yX1_opensAt wsX1_opensAt) := goodIn_app (goodIn_of _ (by decide +kernel)) ggX3_isOpen_X1_opensAt
theorem dX3_isOpen_0 : decode cX3_isOpen 0 = .ok (.aload_n 0, 1) := by decide +kernel
theorem dX3_isOpen_1 : decode cX3_isOpen 1 = .ok (.getfield 12, 3) := by decide +kernel
theorem dX3_isOpen_4 : decode cX3_isOpen 4 = .ok (.aload_n 0, 1) := by decide +kernel
theorem dX3_isOpen_5 : decode cX3_isOpen 5 = .ok (.iload_n 1, 1) := by decide +kernel
theorem dX3_isOpen_6 : decode cX3_isOpen 6 = .ok (.iload_n 2, 1) := by decide +kernel
theorem dX3_isOpen_7 : decode cX3_isOpen 7 = .ok (.invokevirtual 62, 3) := by decide +kernel
theorem dX3_isOpen_10 : decode cX3_isOpen 10 = .ok (.invokevirtual 129, 3) := by decide +kernel
theorem dX3_isOpen_13 : decode cX3_isOpen 13 = .ok (.ireturn, 1) := by decide +kernel
set_option maxRecDepth 20000 in
theorem ggX3_hasShepherd_X3_checkPlace : GoodIn wsX3_hasShepherd wsX3_checkPlace := goodIn_ca (goodIn_r _ [6, 7, 8, 1, 9, 10, 11, 12, 13, 14, 15, 16, 17, 18, 19, 20, 21, 22, 23, 24, 25] (by decide +kernel) (by decide +kernel)) (goodIn_sub (fun _ h => List.mem_cons_of_mem _ (List.mem_append_right _ h)) (by decide +kernel))
set_option maxRecDepth 20000 in
theorem gX3_hasShepherd_X3_checkPlace : GoodIn wsX3_hasShepherd (wsV RX3 39 RX3 yX3_checkPlace wsX3_checkPlace) := goodIn_app (goodIn_of _ (by decide +kernel)) ggX3_hasShepherd_X3_checkPlace
theorem dX3_hasShepherd_0 : decode cX3_hasShepherd 0 = .ok (.aload_n 0, 1) := by decide +kernel
theorem dX3_hasShepherd_1 : decode cX3_hasShepherd 1 = .ok (.iload_n 1, 1) := by decide +kernel
theorem dX3_hasShepherd_2 : decode cX3_hasShepherd 2 = .ok (.invokevirtual 39, 3) := by decide +kernel
theorem dX3_hasShepherd_5 : decode cX3_hasShepherd 5 = .ok (.aload_n 0, 1) := by decide +kernel
theorem dX3_hasShepherd_6 : decode cX3_hasShepherd 6 = .ok (.getfield 12, 3) := by decide +kernel
theorem dX3_hasShepherd_9 : decode cX3_hasShepherd 9 = .ok (.getfield 69, 3) := by decide +kernel
theorem dX3_hasShepherd_12 : decode cX3_hasShepherd 12 = .ok (.iload_n 1, 1) := by decide +kernel
theorem dX3_hasShepherd_13 : decode cX3_hasShepherd 13 = .ok (.baload, 1) := by decide +kernel
theorem dX3_hasShepherd_14 : decode cX3_hasShepherd 14 = .ok (.ireturn, 1) := by decide +kernel
set_option maxRecDepth 20000 in
theorem ggX3_distance_X3_checkPlace : GoodIn wsX3_distance wsX3_checkPlace := goodIn_ca (goodIn_r _ [6, 7, 8, 1, 9, 10, 11, 12, 13, 14, 39, 40, 41, 42, 43, 44, 45, 46, 47, 48, 49] (by decide +kernel) (by decide +kernel)) (goodIn_sub (fun _ h => List.mem_cons_of_mem _ (List.mem_append_right _ h)) (by decide +kernel))
set_option maxRecDepth 20000 in
theorem gX3_distance_X3_checkPlace : GoodIn wsX3_distance (wsV RX3 39 RX3 yX3_checkPlace wsX3_checkPlace) := goodIn_app (goodIn_of _ (by decide +kernel)) ggX3_distance_X3_checkPlace
set_option maxRecDepth 20000 in
theorem ggX3_distance_X1_shortest : GoodIn wsX3_distance wsX1_shortest := goodIn_r _ [18, 19, 20, 21, 22, 23, 12, 24, 25, 26, 27, 28, 29, 10, 11, 13, 14, 30, 31, 32, 33, 34, 35, 36, 37, 5, 38, 42, 43, 44, 45, 46, 47, 48, 49] (by decide +kernel) (by decide +kernel)
set_option maxRecDepth 20000 in
theorem gX3_distance_X1_shortest : GoodIn wsX3_distance (wsV RX3 87 RX1 yX1_shortest wsX1_shortest) := goodIn_app (goodIn_of _ (by decide +kernel)) ggX3_distance_X1_shortest
theorem dX3_distance_0 : decode cX3_distance 0 = .ok (.aload_n 0, 1) := by decide +kernel
theorem dX3_distance_1 : decode cX3_distance 1 = .ok (.iload_n 1, 1) := by decide +kernel
theorem dX3_distance_2 : decode cX3_distance 2 = .ok (.invokevirtual 39, 3) := by decide +kernel
theorem dX3_distance_5 : decode cX3_distance 5 = .ok (.aload_n 0, 1) := by decide +kernel
theorem dX3_distance_6 : decode cX3_distance 6 = .ok (.iload_n 2, 1) := by decide +kernel
theorem dX3_distance_7 : decode cX3_distance 7 = .ok (.invokevirtual 39, 3) := by decide +kernel
theorem dX3_distance_10 : decode cX3_distance 10 = .ok (.aload_n 0, 1) := by decide +kernel
theorem dX3_distance_11 : decode cX3_distance 11 = .ok (.getfield 12, 3) := by decide +kernel
theorem dX3_distance_14 : decode cX3_distance 14 = .ok (.iload_n 1, 1) := by decide +kernel
theorem dX3_distance_15 : decode cX3_distance 15 = .ok (.iload_n 2, 1) := by decide +kernel
theorem dX3_distance_16 : decode cX3_distance 16 = .ok (.invokevirtual 87, 3) := by decide +kernel
theorem dX3_distance_19 : decode cX3_distance 19 = .ok (.ireturn, 1) := by decide +kernel
theorem dX3_whereIs_0 : decode cX3_whereIs 0 = .ok (.aload_n 0, 1) := by decide +kernel
theorem dX3_whereIs_1 : decode cX3_whereIs 1 = .ok (.getfield 12, 3) := by decide +kernel
theorem dX3_whereIs_4 : decode cX3_whereIs 4 = .ok (.getfield 28, 3) := by decide +kernel
theorem dX3_whereIs_7 : decode cX3_whereIs 7 = .ok (.ifCond .ne 7, 3) := by decide +kernel
theorem dX3_whereIs_10 : decode cX3_whereIs 10 = .ok (.iconst (-1), 1) := by decide +kernel
theorem dX3_whereIs_11 : decode cX3_whereIs 11 = .ok (.goto 10, 3) := by decide +kernel
theorem dX3_whereIs_14 : decode cX3_whereIs 14 = .ok (.aload_n 0, 1) := by decide +kernel
theorem dX3_whereIs_15 : decode cX3_whereIs 15 = .ok (.getfield 21, 3) := by decide +kernel
theorem dX3_whereIs_18 : decode cX3_whereIs 18 = .ok (.getfield 84, 3) := by decide +kernel
theorem dX3_whereIs_21 : decode cX3_whereIs 21 = .ok (.ireturn, 1) := by decide +kernel
theorem dX3_coins_0 : decode cX3_coins 0 = .ok (.aload_n 0, 1) := by decide +kernel
theorem dX3_coins_1 : decode cX3_coins 1 = .ok (.getfield 21, 3) := by decide +kernel
end
section
theorem dX3_coins_4 : decode cX3_coins 4 = .ok (.getfield 73, 3) := by decide +kernel
theorem dX3_coins_7 : decode cX3_coins 7 = .ok (.ireturn, 1) := by decide +kernel
theorem dX3_goal_0 : decode cX3_goal 0 = .ok (.aload_n 0, 1) := by decide +kernel
theorem dX3_goal_1 : decode cX3_goal 1 = .ok (.getfield 21, 3) := by decide +kernel
theorem dX3_goal_4 : decode cX3_goal 4 = .ok (.getfield 132, 3) := by decide +kernel
theorem dX3_goal_7 : decode cX3_goal 7 = .ok (.ireturn, 1) := by decide +kernel
theorem dX3_wayLength_0 : decode cX3_wayLength 0 = .ok (.aload_n 0, 1) := by decide +kernel
theorem dX3_wayLength_1 : decode cX3_wayLength 1 = .ok (.getfield 21, 3) := by decide +kernel
theorem dX3_wayLength_4 : decode cX3_wayLength 4 = .ok (.getfield 103, 3) := by decide +kernel
theorem dX3_wayLength_7 : decode cX3_wayLength 7 = .ok (.ireturn, 1) := by decide +kernel
set_option maxRecDepth 20000 in
theorem ggX3_isTried_X3_checkedEnd : GoodIn wsX3_isTried wsX3_checkedEnd := goodIn_ca (goodIn_r _ [6, 7, 8, 9, 10, 11, 12, 13, 14, 15, 16, 17, 18, 19, 20, 34, 35, 36, 37, 38, 39, 40, 41, 42, 43, 44] (by decide +kernel) (by decide +kernel)) (goodIn_sub (fun _ h => List.mem_cons_of_mem _ (List.mem_append_right _ h)) (by decide +kernel))
set_option maxRecDepth 20000 in
theorem gX3_isTried_X3_checkedEnd : GoodIn wsX3_isTried (wsV RX3 62 RX3 yX3_checkedEnd wsX3_checkedEnd) := goodIn_app (goodIn_of _ (by decide +kernel)) ggX3_isTried_X3_checkedEnd
set_option maxRecDepth 20000 in
theorem ggX3_isTried_X0_isUnderway : GoodIn wsX3_isTried wsX0_isUnderway := goodIn_r _ [25, 26, 45, 46, 47, 48, 49, 50, 51, 52, 53, 54, 55, 56, 57, 58, 59] (by decide +kernel) (by decide +kernel)
set_option maxRecDepth 20000 in
theorem gX3_isTried_X0_isUnderway : GoodIn wsX3_isTried (wsV RX3 96 RX0 yX0_isUnderway wsX0_isUnderway) := goodIn_app (goodIn_of _ (by decide +kernel)) ggX3_isTried_X0_isUnderway
set_option maxRecDepth 20000 in
theorem ggX3_isTried_X0_hasTried : GoodIn wsX3_isTried wsX0_hasTried := goodIn_r _ [30, 31, 32, 5, 33, 45, 46, 47, 48, 49, 50, 51, 52, 53, 54, 55, 56, 57, 58, 59] (by decide +kernel) (by decide +kernel)
set_option maxRecDepth 20000 in
theorem gX3_isTried_X0_hasTried : GoodIn wsX3_isTried (wsV RX3 135 RX0 yX0_hasTried wsX0_hasTried) := goodIn_app (goodIn_of _ (by decide +kernel)) ggX3_isTried_X0_hasTried
theorem dX3_isTried_0 : decode cX3_isTried 0 = .ok (.aload_n 0, 1) := by decide +kernel
theorem dX3_isTried_1 : decode cX3_isTried 1 = .ok (.iload_n 1, 1) := by decide +kernel
theorem dX3_isTried_2 : decode cX3_isTried 2 = .ok (.iload_n 2, 1) := by decide +kernel
theorem dX3_isTried_3 : decode cX3_isTried 3 = .ok (.invokevirtual 62, 3) := by decide +kernel
theorem dX3_isTried_6 : decode cX3_isTried 6 = .ok (.istore_n 3, 1) := by decide +kernel
theorem dX3_isTried_7 : decode cX3_isTried 7 = .ok (.aload_n 0, 1) := by decide +kernel
theorem dX3_isTried_8 : decode cX3_isTried 8 = .ok (.getfield 21, 3) := by decide +kernel
theorem dX3_isTried_11 : decode cX3_isTried 11 = .ok (.invokevirtual 96, 3) := by decide +kernel
theorem dX3_isTried_14 : decode cX3_isTried 14 = .ok (.ifCond .eq 18, 3) := by decide +kernel
theorem dX3_isTried_17 : decode cX3_isTried 17 = .ok (.aload_n 0, 1) := by decide +kernel
theorem dX3_isTried_18 : decode cX3_isTried 18 = .ok (.getfield 21, 3) := by decide +kernel
theorem dX3_isTried_21 : decode cX3_isTried 21 = .ok (.iload_n 3, 1) := by decide +kernel
theorem dX3_isTried_22 : decode cX3_isTried 22 = .ok (.invokevirtual 135, 3) := by decide +kernel
theorem dX3_isTried_25 : decode cX3_isTried 25 = .ok (.ifCond .eq 7, 3) := by decide +kernel
theorem dX3_isTried_28 : decode cX3_isTried 28 = .ok (.iconst 1, 1) := by decide +kernel
theorem dX3_isTried_29 : decode cX3_isTried 29 = .ok (.goto 4, 3) := by decide +kernel
theorem dX3_isTried_32 : decode cX3_isTried 32 = .ok (.iconst 0, 1) := by decide +kernel
theorem dX3_isTried_33 : decode cX3_isTried 33 = .ok (.ireturn, 1) := by decide +kernel
set_option maxRecDepth 20000 in
theorem ggX3_remembered_X3_checkPlace : GoodIn wsX3_remembered wsX3_checkPlace := goodIn_ca (goodIn_r _ [6, 7, 8, 9, 10, 11, 12, 13, 14, 15, 26, 27, 28, 44, 45, 46, 47, 48, 49, 50, 51] (by decide +kernel) (by decide +kernel)) (goodIn_sub (fun _ h => List.mem_cons_of_mem _ (List.mem_append_right _ h)) (by decide +kernel))
set_option maxRecDepth 20000 in
theorem gX3_remembered_X3_checkPlace : GoodIn wsX3_remembered (wsV RX3 39 RX3 yX3_checkPlace wsX3_checkPlace) := goodIn_app (goodIn_of _ (by decide +kernel)) ggX3_remembered_X3_checkPlace
set_option maxRecDepth 20000 in
theorem ggX3_remembered_X2_exitFor : GoodIn wsX3_remembered wsX2_exitFor := goodIn_r _ [20, 21, 22, 23, 24, 19, 25, 52, 53] (by decide +kernel) (by decide +kernel)
set_option maxRecDepth 20000 in
theorem gX3_remembered_X2_exitFor : GoodIn wsX3_remembered (wsV RX3 138 RX2 yX2_exitFor wsX2_exitFor) := goodIn_app (goodIn_of _ (by decide +kernel)) ggX3_remembered_X2_exitFor
theorem dX3_remembered_0 : decode cX3_remembered 0 = .ok (.aload_n 0, 1) := by decide +kernel
theorem dX3_remembered_1 : decode cX3_remembered 1 = .ok (.iload_n 1, 1) := by decide +kernel
theorem dX3_remembered_2 : decode cX3_remembered 2 = .ok (.invokevirtual 39, 3) := by decide +kernel
theorem dX3_remembered_5 : decode cX3_remembered 5 = .ok (.aload_n 0, 1) := by decide +kernel
theorem dX3_remembered_6 : decode cX3_remembered 6 = .ok (.iload_n 2, 1) := by decide +kernel
theorem dX3_remembered_7 : decode cX3_remembered 7 = .ok (.invokevirtual 39, 3) := by decide +kernel
theorem dX3_remembered_10 : decode cX3_remembered 10 = .ok (.aload_n 0, 1) := by decide +kernel
theorem dX3_remembered_11 : decode cX3_remembered 11 = .ok (.getfield 21, 3) := by decide +kernel
theorem dX3_remembered_14 : decode cX3_remembered 14 = .ok (.getfield 109, 3) := by decide +kernel
theorem dX3_remembered_17 : decode cX3_remembered 17 = .ok (.iload_n 1, 1) := by decide +kernel
theorem dX3_remembered_18 : decode cX3_remembered 18 = .ok (.iload_n 2, 1) := by decide +kernel
theorem dX3_remembered_19 : decode cX3_remembered 19 = .ok (.invokevirtual 138, 3) := by decide +kernel
theorem dX3_remembered_22 : decode cX3_remembered 22 = .ok (.ireturn, 1) := by decide +kernel
set_option maxRecDepth 20000 in
theorem ggX3_strength_X3_checkPlace : GoodIn wsX3_strength wsX3_checkPlace := goodIn_ca (goodIn_r _ [6, 7, 8, 9, 10, 11, 12, 13, 14, 15, 25, 26, 27, 43, 44, 45, 46, 47, 48, 49, 50] (by decide +kernel) (by decide +kernel)) (goodIn_sub (fun _ h => List.mem_cons_of_mem _ (List.mem_append_right _ h)) (by decide +kernel))
set_option maxRecDepth 20000 in
theorem gX3_strength_X3_checkPlace : GoodIn wsX3_strength (wsV RX3 39 RX3 yX3_checkPlace wsX3_checkPlace) := goodIn_app (goodIn_of _ (by decide +kernel)) ggX3_strength_X3_checkPlace
set_option maxRecDepth 20000 in
theorem ggX3_strength_X2_strengthFor : GoodIn wsX3_strength wsX2_strengthFor := goodIn_r _ [20, 21, 22, 23, 19, 24, 51, 52] (by decide +kernel) (by decide +kernel)
set_option maxRecDepth 20000 in
theorem gX3_strength_X2_strengthFor : GoodIn wsX3_strength (wsV RX3 141 RX2 yX2_strengthFor wsX2_strengthFor) := goodIn_app (goodIn_of _ (by decide +kernel)) ggX3_strength_X2_strengthFor
theorem dX3_strength_0 : decode cX3_strength 0 = .ok (.aload_n 0, 1) := by decide +kernel
theorem dX3_strength_1 : decode cX3_strength 1 = .ok (.iload_n 1, 1) := by decide +kernel
theorem dX3_strength_2 : decode cX3_strength 2 = .ok (.invokevirtual 39, 3) := by decide +kernel
theorem dX3_strength_5 : decode cX3_strength 5 = .ok (.aload_n 0, 1) := by decide +kernel
theorem dX3_strength_6 : decode cX3_strength 6 = .ok (.iload_n 2, 1) := by decide +kernel
theorem dX3_strength_7 : decode cX3_strength 7 = .ok (.invokevirtual 39, 3) := by decide +kernel
theorem dX3_strength_10 : decode cX3_strength 10 = .ok (.aload_n 0, 1) := by decide +kernel
theorem dX3_strength_11 : decode cX3_strength 11 = .ok (.getfield 21, 3) := by decide +kernel
theorem dX3_strength_14 : decode cX3_strength 14 = .ok (.getfield 109, 3) := by decide +kernel
theorem dX3_strength_17 : decode cX3_strength 17 = .ok (.iload_n 1, 1) := by decide +kernel
theorem dX3_strength_18 : decode cX3_strength 18 = .ok (.iload_n 2, 1) := by decide +kernel
theorem dX3_strength_19 : decode cX3_strength 19 = .ok (.invokevirtual 141, 3) := by decide +kernel
theorem dX3_strength_22 : decode cX3_strength 22 = .ok (.ireturn, 1) := by decide +kernel
set_option maxRecDepth 20000 in
theorem ggX3_knowsWay_X3_checkPlace : GoodIn wsX3_knowsWay wsX3_checkPlace := goodIn_ca (goodIn_r _ [6, 7, 8, 9, 10, 11, 12, 13, 14, 15, 52, 53, 54, 55, 56, 57, 58, 59, 60, 61, 62] (by decide +kernel) (by decide +kernel)) (goodIn_sub (fun _ h => List.mem_cons_of_mem _ (List.mem_append_right _ h)) (by decide +kernel))
set_option maxRecDepth 20000 in
theorem gX3_knowsWay_X3_checkPlace : GoodIn wsX3_knowsWay (wsV RX3 39 RX3 yX3_checkPlace wsX3_checkPlace) := goodIn_app (goodIn_of _ (by decide +kernel)) ggX3_knowsWay_X3_checkPlace
set_option maxRecDepth 20000 in
theorem ggX3_knowsWay_X0_findsByMemory : GoodIn wsX3_knowsWay wsX0_findsByMemory := goodIn_r _ [20, 21, 22, 23, 24, 25, 26, 27, 28, 29, 30, 31, 32, 33, 34, 35, 36, 13, 37, 38, 39, 11, 12, 14, 15, 40, 41, 42, 43, 44, 45, 5, 46, 47, 48, 49, 50, 51, 63, 64, 65, 66, 67, 68, 69, 70, 71, 72, 73, 74, 75, 76, 77, 78, 79, 55, 56, 57, 58, 59, 60, 61, 62] (by decide +kernel) (by decide +kernel)
set_option maxRecDepth 20000 in
theorem gX3_knowsWay_X0_findsByMemory : GoodIn wsX3_knowsWay (wsV RX3 144 RX0 yX0_findsByMemory wsX0_findsByMemory) := goodIn_app (goodIn_of _ (by decide +kernel)) ggX3_knowsWay_X0_findsByMemory
theorem dX3_knowsWay_0 : decode cX3_knowsWay 0 = .ok (.aload_n 0, 1) := by decide +kernel
theorem dX3_knowsWay_1 : decode cX3_knowsWay 1 = .ok (.iload_n 1, 1) := by decide +kernel
theorem dX3_knowsWay_2 : decode cX3_knowsWay 2 = .ok (.invokevirtual 39, 3) := by decide +kernel
theorem dX3_knowsWay_5 : decode cX3_knowsWay 5 = .ok (.aload_n 0, 1) := by decide +kernel
theorem dX3_knowsWay_6 : decode cX3_knowsWay 6 = .ok (.getfield 21, 3) := by decide +kernel
theorem dX3_knowsWay_9 : decode cX3_knowsWay 9 = .ok (.iload_n 1, 1) := by decide +kernel
theorem dX3_knowsWay_10 : decode cX3_knowsWay 10 = .ok (.invokevirtual 144, 3) := by decide +kernel
theorem dX3_knowsWay_13 : decode cX3_knowsWay 13 = .ok (.ireturn, 1) := by decide +kernel
theorem dX3_milesWalked_0 : decode cX3_milesWalked 0 = .ok (.aload_n 0, 1) := by decide +kernel
theorem dX3_milesWalked_1 : decode cX3_milesWalked 1 = .ok (.getfield 21, 3) := by decide +kernel
theorem dX3_milesWalked_4 : decode cX3_milesWalked 4 = .ok (.getfield 147, 3) := by decide +kernel
theorem dX3_milesWalked_7 : decode cX3_milesWalked 7 = .ok (.ireturn, 1) := by decide +kernel
theorem dX3_milesDoubled_0 : decode cX3_milesDoubled 0 = .ok (.aload_n 0, 1) := by decide +kernel
theorem dX3_milesDoubled_1 : decode cX3_milesDoubled 1 = .ok (.getfield 21, 3) := by decide +kernel
theorem dX3_milesDoubled_4 : decode cX3_milesDoubled 4 = .ok (.getfield 150, 3) := by decide +kernel
theorem dX3_milesDoubled_7 : decode cX3_milesDoubled 7 = .ok (.ireturn, 1) := by decide +kernel
theorem dX3_errandsDone_0 : decode cX3_errandsDone 0 = .ok (.aload_n 0, 1) := by decide +kernel
theorem dX3_errandsDone_1 : decode cX3_errandsDone 1 = .ok (.getfield 21, 3) := by decide +kernel
theorem dX3_errandsDone_4 : decode cX3_errandsDone 4 = .ok (.getfield 153, 3) := by decide +kernel
theorem dX3_errandsDone_7 : decode cX3_errandsDone 7 = .ok (.ireturn, 1) := by decide +kernel
theorem dX3_errandsInVain_0 : decode cX3_errandsInVain 0 = .ok (.aload_n 0, 1) := by decide +kernel
theorem dX3_errandsInVain_1 : decode cX3_errandsInVain 1 = .ok (.getfield 21, 3) := by decide +kernel
theorem dX3_errandsInVain_4 : decode cX3_errandsInVain 4 = .ok (.getfield 156, 3) := by decide +kernel
theorem dX3_errandsInVain_7 : decode cX3_errandsInVain 7 = .ok (.ireturn, 1) := by decide +kernel
theorem dX3_asked_0 : decode cX3_asked 0 = .ok (.aload_n 0, 1) := by decide +kernel
theorem dX3_asked_1 : decode cX3_asked 1 = .ok (.getfield 21, 3) := by decide +kernel
theorem dX3_asked_4 : decode cX3_asked 4 = .ok (.getfield 159, 3) := by decide +kernel
theorem dX3_asked_7 : decode cX3_asked 7 = .ok (.ireturn, 1) := by decide +kernel
set_option maxRecDepth 20000 in
theorem ggX3_wouldWalk_X3_checkPlace : GoodIn wsX3_wouldWalk wsX3_checkPlace := goodIn_ca (goodIn_r _ [5, 6, 7, 8, 9, 10, 11, 12, 13, 14, 168, 169, 170, 171, 172, 173, 174, 175, 176, 177, 178] (by decide +kernel) (by decide +kernel)) (goodIn_sub (fun _ h => List.mem_cons_of_mem _ (List.mem_append_left _ (List.mem_append_right _ h))) (by decide +kernel))
set_option maxRecDepth 20000 in
theorem gX3_wouldWalk_X3_checkPlace : GoodIn wsX3_wouldWalk (wsV RX3 39 RX3 yX3_checkPlace wsX3_checkPlace) := goodIn_app (goodIn_of _ (by decide +kernel)) ggX3_wouldWalk_X3_checkPlace
set_option maxRecDepth 20000 in
theorem ggX3_wouldWalk_X3_checkIdle : GoodIn wsX3_wouldWalk wsX3_checkIdle := goodIn_ca (goodIn_r _ [18, 19, 20, 21, 22, 23, 24, 25, 26, 27, 168, 169, 170, 179, 180, 181, 182, 183, 184, 185, 186, 187, 188, 189, 190, 191, 192, 193] (by decide +kernel) (by decide +kernel)) (goodIn_sub (fun _ h => List.mem_cons_of_mem _ (List.mem_append_right _ h)) (by decide +kernel))
set_option maxRecDepth 20000 in
theorem gX3_wouldWalk_X3_checkIdle : GoodIn wsX3_wouldWalk (wsV RX3 81 RX3 yX3_checkIdle wsX3_checkIdle) := goodIn_app (goodIn_of _ (by decide +kernel)) ggX3_wouldWalk_X3_checkIdle
set_option maxRecDepth 20000 in
theorem ggX3_wouldWalk_X3_trialMiles : GoodIn wsX3_wouldWalk wsX3_trialMiles := goodIn_r _ [31, 32, 21, 33, 34, 35, 25, 36, 37, 38, 39, 40, 41, 42, 43, 44, 45, 46, 47, 48, 49, 50, 51, 52, 53, 54, 55, 56, 57, 58, 59, 60, 27, 61, 62, 63, 64, 65, 66, 67, 68, 22, 23, 24, 26, 69, 70, 71, 72, 73, 74, 75, 76, 77, 78, 79, 80, 81, 82, 83, 84, 85, 86, 87, 12, 88, 89, 90, 10, 11, 13, 14, 91, 92, 93, 94, 95, 4, 96, 97, 98, 99, 100, 101, 102, 103, 104, 105, 106, 107, 108, 109, 110, 111, 112, 113, 114, 115, 116, 117, 118, 119, 120, 121, 122, 123, 124, 125, 126, 127, 128, 129, 130, 131, 132, 133, 134, 135, 136, 137, 138, 139, 140, 141, 142, 143, 144, 145, 146, 147, 148, 149, 150, 151, 152, 153, 154, 155, 156, 157, 158, 159, 160, 161, 162, 163, 164, 165, 166, 167, 168, 169, 170, 179, 180, 181, 182, 183, 184, 185, 186, 187, 188, 189, 190, 191, 192, 193, 194, 195, 171, 172, 173, 174, 175, 176, 177, 178] (by decide +kernel) (by decide +kernel)
set_option maxRecDepth 20000 in
theorem gX3_wouldWalk_X3_trialMiles : GoodIn wsX3_wouldWalk (wsV RX3 162 RX3 yX3_trialMiles wsX3_trialMiles) := goodIn_app (goodIn_of _ (by decide +kernel)) ggX3_wouldWalk_X3_trialMiles
theorem dX3_wouldWalk_0 : decode cX3_wouldWalk 0 = .ok (.aload_n 0, 1) := by decide +kernel
theorem dX3_wouldWalk_1 : decode cX3_wouldWalk 1 = .ok (.iload_n 1, 1) := by decide +kernel
theorem dX3_wouldWalk_2 : decode cX3_wouldWalk 2 = .ok (.invokevirtual 39, 3) := by decide +kernel
theorem dX3_wouldWalk_5 : decode cX3_wouldWalk 5 = .ok (.aload_n 0, 1) := by decide +kernel
theorem dX3_wouldWalk_6 : decode cX3_wouldWalk 6 = .ok (.invokevirtual 81, 3) := by decide +kernel
theorem dX3_wouldWalk_9 : decode cX3_wouldWalk 9 = .ok (.aload_n 0, 1) := by decide +kernel
theorem dX3_wouldWalk_10 : decode cX3_wouldWalk 10 = .ok (.iload_n 1, 1) := by decide +kernel
theorem dX3_wouldWalk_11 : decode cX3_wouldWalk 11 = .ok (.iconst (-1), 1) := by decide +kernel
theorem dX3_wouldWalk_12 : decode cX3_wouldWalk 12 = .ok (.invokevirtual 162, 3) := by decide +kernel
theorem dX3_wouldWalk_15 : decode cX3_wouldWalk 15 = .ok (.ireturn, 1) := by decide +kernel
set_option maxRecDepth 20000 in
theorem ggX3_bestShepherd_X3_checkPlace : GoodIn wsX3_bestShepherd wsX3_checkPlace := goodIn_ca (goodIn_r _ [6, 7, 8, 1, 9, 10, 11, 12, 13, 14, 168, 169, 170, 171, 172, 173, 174, 175, 176, 177, 178] (by decide +kernel) (by decide +kernel)) (goodIn_sub (fun _ h => List.mem_cons_of_mem _ (List.mem_append_left _ (List.mem_append_right _ h))) (by decide +kernel))
set_option maxRecDepth 20000 in
theorem gX3_bestShepherd_X3_checkPlace : GoodIn wsX3_bestShepherd (wsV RX3 39 RX3 yX3_checkPlace wsX3_checkPlace) := goodIn_app (goodIn_of _ (by decide +kernel)) ggX3_bestShepherd_X3_checkPlace
set_option maxRecDepth 20000 in
theorem ggX3_bestShepherd_X3_checkIdle : GoodIn wsX3_bestShepherd wsX3_checkIdle := goodIn_ca (goodIn_r _ [18, 19, 20, 21, 22, 23, 24, 25, 26, 27, 168, 169, 170, 179, 180, 181, 182, 183, 184, 185, 186, 187, 188, 189, 190, 191, 192, 193] (by decide +kernel) (by decide +kernel)) (goodIn_sub (fun _ h => List.mem_cons_of_mem _ (List.mem_append_right _ h)) (by decide +kernel))
set_option maxRecDepth 20000 in
theorem gX3_bestShepherd_X3_checkIdle : GoodIn wsX3_bestShepherd (wsV RX3 81 RX3 yX3_checkIdle wsX3_checkIdle) := goodIn_app (goodIn_of _ (by decide +kernel)) ggX3_bestShepherd_X3_checkIdle
set_option maxRecDepth 20000 in
theorem ggX3_bestShepherd_X3_trialMiles : GoodIn wsX3_bestShepherd wsX3_trialMiles := goodIn_r _ [31, 32, 21, 33, 34, 35, 25, 36, 37, 38, 39, 40, 41, 42, 43, 44, 45, 46, 47, 48, 49, 50, 51, 52, 53, 54, 55, 56, 57, 58, 59, 60, 27, 61, 62, 63, 64, 65, 66, 67, 68, 22, 23, 24, 26, 69, 70, 71, 72, 73, 74, 75, 76, 77, 78, 79, 80, 81, 82, 83, 84, 85, 86, 87, 12, 88, 89, 90, 10, 11, 13, 14, 91, 92, 93, 94, 95, 5, 96, 97, 98, 99, 100, 101, 102, 103, 104, 105, 106, 107, 108, 109, 110, 111, 112, 113, 114, 115, 116, 117, 118, 119, 120, 121, 122, 123, 124, 125, 126, 127, 128, 129, 130, 131, 132, 133, 134, 135, 136, 137, 138, 139, 140, 141, 142, 143, 144, 145, 146, 147, 148, 149, 150, 151, 152, 153, 154, 155, 156, 157, 158, 159, 160, 161, 162, 163, 164, 165, 166, 167, 168, 169, 170, 179, 180, 181, 182, 183, 184, 185, 186, 187, 188, 189, 190, 191, 192, 193, 194, 195, 171, 172, 173, 174, 175, 176, 177, 178] (by decide +kernel) (by decide +kernel)
set_option maxRecDepth 20000 in
theorem gX3_bestShepherd_X3_trialMiles : GoodIn wsX3_bestShepherd (wsV RX3 162 RX3 yX3_trialMiles wsX3_trialMiles) := goodIn_app (goodIn_of _ (by decide +kernel)) ggX3_bestShepherd_X3_trialMiles
theorem dX3_bestShepherd_0 : decode cX3_bestShepherd 0 = .ok (.aload_n 0, 1) := by decide +kernel
theorem dX3_bestShepherd_1 : decode cX3_bestShepherd 1 = .ok (.iload_n 1, 1) := by decide +kernel
theorem dX3_bestShepherd_2 : decode cX3_bestShepherd 2 = .ok (.invokevirtual 39, 3) := by decide +kernel
theorem dX3_bestShepherd_5 : decode cX3_bestShepherd 5 = .ok (.aload_n 0, 1) := by decide +kernel
theorem dX3_bestShepherd_6 : decode cX3_bestShepherd 6 = .ok (.invokevirtual 81, 3) := by decide +kernel
theorem dX3_bestShepherd_9 : decode cX3_bestShepherd 9 = .ok (.aload_n 0, 1) := by decide +kernel
theorem dX3_bestShepherd_10 : decode cX3_bestShepherd 10 = .ok (.iload_n 1, 1) := by decide +kernel
theorem dX3_bestShepherd_11 : decode cX3_bestShepherd 11 = .ok (.iconst (-1), 1) := by decide +kernel
theorem dX3_bestShepherd_12 : decode cX3_bestShepherd 12 = .ok (.invokevirtual 162, 3) := by decide +kernel
theorem dX3_bestShepherd_15 : decode cX3_bestShepherd 15 = .ok (.istore_n 2, 1) := by decide +kernel
theorem dX3_bestShepherd_16 : decode cX3_bestShepherd 16 = .ok (.iconst (-1), 1) := by decide +kernel
theorem dX3_bestShepherd_17 : decode cX3_bestShepherd 17 = .ok (.istore_n 3, 1) := by decide +kernel
theorem dX3_bestShepherd_18 : decode cX3_bestShepherd 18 = .ok (.iconst 0, 1) := by decide +kernel
theorem dX3_bestShepherd_19 : decode cX3_bestShepherd 19 = .ok (.istore 4, 2) := by decide +kernel
theorem dX3_bestShepherd_21 : decode cX3_bestShepherd 21 = .ok (.iload 4, 2) := by decide +kernel
theorem dX3_bestShepherd_23 : decode cX3_bestShepherd 23 = .ok (.aload_n 0, 1) := by decide +kernel
theorem dX3_bestShepherd_24 : decode cX3_bestShepherd 24 = .ok (.getfield 12, 3) := by decide +kernel
theorem dX3_bestShepherd_27 : decode cX3_bestShepherd 27 = .ok (.getfield 28, 3) := by decide +kernel
theorem dX3_bestShepherd_30 : decode cX3_bestShepherd 30 = .ok (.if_icmp .ge 58, 3) := by decide +kernel
theorem dX3_bestShepherd_33 : decode cX3_bestShepherd 33 = .ok (.aload_n 0, 1) := by decide +kernel
theorem dX3_bestShepherd_34 : decode cX3_bestShepherd 34 = .ok (.getfield 12, 3) := by decide +kernel
theorem dX3_bestShepherd_37 : decode cX3_bestShepherd 37 = .ok (.getfield 69, 3) := by decide +kernel
theorem dX3_bestShepherd_40 : decode cX3_bestShepherd 40 = .ok (.iload 4, 2) := by decide +kernel
theorem dX3_bestShepherd_42 : decode cX3_bestShepherd 42 = .ok (.baload, 1) := by decide +kernel
theorem dX3_bestShepherd_43 : decode cX3_bestShepherd 43 = .ok (.ifCond .eq 7, 3) := by decide +kernel
theorem dX3_bestShepherd_46 : decode cX3_bestShepherd 46 = .ok (.iconst (-1), 1) := by decide +kernel
theorem dX3_bestShepherd_47 : decode cX3_bestShepherd 47 = .ok (.goto 10, 3) := by decide +kernel
theorem dX3_bestShepherd_50 : decode cX3_bestShepherd 50 = .ok (.aload_n 0, 1) := by decide +kernel
theorem dX3_bestShepherd_51 : decode cX3_bestShepherd 51 = .ok (.iload_n 1, 1) := by decide +kernel
theorem dX3_bestShepherd_52 : decode cX3_bestShepherd 52 = .ok (.iload 4, 2) := by decide +kernel
theorem dX3_bestShepherd_54 : decode cX3_bestShepherd 54 = .ok (.invokevirtual 162, 3) := by decide +kernel
theorem dX3_bestShepherd_57 : decode cX3_bestShepherd 57 = .ok (.istore 5, 2) := by decide +kernel
theorem dX3_bestShepherd_59 : decode cX3_bestShepherd 59 = .ok (.iload 5, 2) := by decide +kernel
theorem dX3_bestShepherd_61 : decode cX3_bestShepherd 61 = .ok (.iconst (-1), 1) := by decide +kernel
theorem dX3_bestShepherd_62 : decode cX3_bestShepherd 62 = .ok (.if_icmp .eq 20, 3) := by decide +kernel
theorem dX3_bestShepherd_65 : decode cX3_bestShepherd 65 = .ok (.iload_n 2, 1) := by decide +kernel
theorem dX3_bestShepherd_66 : decode cX3_bestShepherd 66 = .ok (.iconst (-1), 1) := by decide +kernel
theorem dX3_bestShepherd_67 : decode cX3_bestShepherd 67 = .ok (.if_icmp .eq 9, 3) := by decide +kernel
theorem dX3_bestShepherd_70 : decode cX3_bestShepherd 70 = .ok (.iload 5, 2) := by decide +kernel
theorem dX3_bestShepherd_72 : decode cX3_bestShepherd 72 = .ok (.iload_n 2, 1) := by decide +kernel
theorem dX3_bestShepherd_73 : decode cX3_bestShepherd 73 = .ok (.if_icmp .ge 9, 3) := by decide +kernel
theorem dX3_bestShepherd_76 : decode cX3_bestShepherd 76 = .ok (.iload 5, 2) := by decide +kernel
theorem dX3_bestShepherd_78 : decode cX3_bestShepherd 78 = .ok (.istore_n 2, 1) := by decide +kernel
theorem dX3_bestShepherd_79 : decode cX3_bestShepherd 79 = .ok (.iload 4, 2) := by decide +kernel
theorem dX3_bestShepherd_81 : decode cX3_bestShepherd 81 = .ok (.istore_n 3, 1) := by decide +kernel
theorem dX3_bestShepherd_82 : decode cX3_bestShepherd 82 = .ok (.iinc 4 1, 3) := by decide +kernel
theorem dX3_bestShepherd_85 : decode cX3_bestShepherd 85 = .ok (.goto (-64), 3) := by decide +kernel
theorem dX3_bestShepherd_88 : decode cX3_bestShepherd 88 = .ok (.iload_n 3, 1) := by decide +kernel
theorem dX3_bestShepherd_89 : decode cX3_bestShepherd 89 = .ok (.ireturn, 1) := by decide +kernel
theorem dX3_meanMiles_0 : decode cX3_meanMiles 0 = .ok (.aload_n 0, 1) := by decide +kernel
theorem dX3_meanMiles_1 : decode cX3_meanMiles 1 = .ok (.getfield 21, 3) := by decide +kernel
theorem dX3_meanMiles_4 : decode cX3_meanMiles 4 = .ok (.getfield 153, 3) := by decide +kernel
theorem dX3_meanMiles_7 : decode cX3_meanMiles 7 = .ok (.aload_n 0, 1) := by decide +kernel
theorem dX3_meanMiles_8 : decode cX3_meanMiles 8 = .ok (.getfield 21, 3) := by decide +kernel
theorem dX3_meanMiles_11 : decode cX3_meanMiles 11 = .ok (.getfield 156, 3) := by decide +kernel
theorem dX3_meanMiles_14 : decode cX3_meanMiles 14 = .ok (.iadd, 1) := by decide +kernel
theorem dX3_meanMiles_15 : decode cX3_meanMiles 15 = .ok (.istore_n 1, 1) := by decide +kernel
theorem dX3_meanMiles_16 : decode cX3_meanMiles 16 = .ok (.iload_n 1, 1) := by decide +kernel
theorem dX3_meanMiles_17 : decode cX3_meanMiles 17 = .ok (.ifCond .ne 7, 3) := by decide +kernel
theorem dX3_meanMiles_20 : decode cX3_meanMiles 20 = .ok (.dconst 0, 1) := by decide +kernel
theorem dX3_meanMiles_21 : decode cX3_meanMiles 21 = .ok (.goto 14, 3) := by decide +kernel
theorem dX3_meanMiles_24 : decode cX3_meanMiles 24 = .ok (.aload_n 0, 1) := by decide +kernel
theorem dX3_meanMiles_25 : decode cX3_meanMiles 25 = .ok (.getfield 21, 3) := by decide +kernel
theorem dX3_meanMiles_28 : decode cX3_meanMiles 28 = .ok (.getfield 147, 3) := by decide +kernel
theorem dX3_meanMiles_31 : decode cX3_meanMiles 31 = .ok (.i2d, 1) := by decide +kernel
theorem dX3_meanMiles_32 : decode cX3_meanMiles 32 = .ok (.iload_n 1, 1) := by decide +kernel
theorem dX3_meanMiles_33 : decode cX3_meanMiles 33 = .ok (.i2d, 1) := by decide +kernel
theorem dX3_meanMiles_34 : decode cX3_meanMiles 34 = .ok (.ddiv, 1) := by decide +kernel
theorem dX3_meanMiles_35 : decode cX3_meanMiles 35 = .ok (.dreturn, 1) := by decide +kernel
set_option maxRecDepth 20000 in
theorem ggX3_digest_X3_places : GoodIn wsX3_digest wsX3_places := goodIn_r _ [6, 7, 156, 157, 158, 159, 160, 161, 162, 163, 164, 165, 166] (by decide +kernel) (by decide +kernel)
set_option maxRecDepth 20000 in
theorem gX3_digest_X3_places : GoodIn wsX3_digest (wsV RX3 167 RX3 yX3_places wsX3_places) := goodIn_app (goodIn_of _ (by decide +kernel)) ggX3_digest_X3_places
set_option maxRecDepth 20000 in
theorem ggX3_digest_X3_mix : GoodIn wsX3_digest wsX3_mix := goodIn_r _ [10, 11] (by decide +kernel) (by decide +kernel)
set_option maxRecDepth 20000 in
theorem gX3_digest_X3_mix : GoodIn wsX3_digest (va_wsS RX3 170 yX3_mix wsX3_mix) := goodIn_app (goodIn_of _ (by decide +kernel)) ggX3_digest_X3_mix
set_option maxRecDepth 20000 in
theorem ggX3_digest_X3_whereIs : GoodIn wsX3_digest wsX3_whereIs := goodIn_r _ [15, 7, 16, 156, 157, 158, 159, 160, 161, 162, 163, 164, 165, 166, 167, 168, 169, 170, 171, 172, 173, 174, 175, 176, 177, 178, 179, 180, 181] (by decide +kernel) (by decide +kernel)
set_option maxRecDepth 20000 in
theorem gX3_digest_X3_whereIs : GoodIn wsX3_digest (wsV RX3 174 RX3 yX3_whereIs wsX3_whereIs) := goodIn_app (goodIn_of _ (by decide +kernel)) ggX3_digest_X3_whereIs
set_option maxRecDepth 20000 in
theorem ggX3_digest_X3_coins : GoodIn wsX3_digest wsX3_coins := goodIn_r _ [20, 16, 156, 157, 158, 167, 168, 169, 170, 171, 172, 173, 174, 175, 176, 177, 178, 179, 180, 181] (by decide +kernel) (by decide +kernel)
set_option maxRecDepth 20000 in
theorem gX3_digest_X3_coins : GoodIn wsX3_digest (wsV RX3 177 RX3 yX3_coins wsX3_coins) := goodIn_app (goodIn_of _ (by decide +kernel)) ggX3_digest_X3_coins
set_option maxRecDepth 20000 in
theorem ggX3_digest_X3_goal : GoodIn wsX3_digest wsX3_goal := goodIn_r _ [24, 16, 156, 157, 158, 167, 168, 169, 170, 171, 172, 173, 174, 175, 176, 177, 178, 179, 180, 181] (by decide +kernel) (by decide +kernel)
set_option maxRecDepth 20000 in
theorem gX3_digest_X3_goal : GoodIn wsX3_digest (wsV RX3 179 RX3 yX3_goal wsX3_goal) := goodIn_app (goodIn_of _ (by decide +kernel)) ggX3_digest_X3_goal
set_option maxRecDepth 20000 in
theorem ggX3_digest_X3_wayLength : GoodIn wsX3_digest wsX3_wayLength := goodIn_r _ [28, 16, 156, 157, 158, 167, 168, 169, 170, 171, 172, 173, 174, 175, 176, 177, 178, 179, 180, 181] (by decide +kernel) (by decide +kernel)
set_option maxRecDepth 20000 in
theorem gX3_digest_X3_wayLength : GoodIn wsX3_digest (wsV RX3 181 RX3 yX3_wayLength wsX3_wayLength) := goodIn_app (goodIn_of _ (by decide +kernel)) ggX3_digest_X3_wayLength
set_option maxRecDepth 20000 in
theorem ggX3_digest_X3_milesWalked : GoodIn wsX3_digest wsX3_milesWalked := goodIn_r _ [32, 16, 156, 157, 158, 167, 168, 169, 170, 171, 172, 173, 174, 175, 176, 177, 178, 179, 180, 181] (by decide +kernel) (by decide +kernel)
set_option maxRecDepth 20000 in
theorem gX3_digest_X3_milesWalked : GoodIn wsX3_digest (wsV RX3 183 RX3 yX3_milesWalked wsX3_milesWalked) := goodIn_app (goodIn_of _ (by decide +kernel)) ggX3_digest_X3_milesWalked
set_option maxRecDepth 20000 in
theorem ggX3_digest_X3_milesDoubled : GoodIn wsX3_digest wsX3_milesDoubled := goodIn_r _ [36, 16, 156, 157, 158, 167, 168, 169, 170, 171, 172, 173, 174, 175, 176, 177, 178, 179, 180, 181] (by decide +kernel) (by decide +kernel)
set_option maxRecDepth 20000 in
theorem gX3_digest_X3_milesDoubled : GoodIn wsX3_digest (wsV RX3 186 RX3 yX3_milesDoubled wsX3_milesDoubled) := goodIn_app (goodIn_of _ (by decide +kernel)) ggX3_digest_X3_milesDoubled
set_option maxRecDepth 20000 in
theorem ggX3_digest_X3_errandsDone : GoodIn wsX3_digest wsX3_errandsDone := goodIn_r _ [40, 16, 156, 157, 158, 167, 168, 169, 170, 171, 172, 173, 174, 175, 176, 177, 178, 179, 180, 181] (by decide +kernel) (by decide +kernel)
set_option maxRecDepth 20000 in
theorem gX3_digest_X3_errandsDone : GoodIn wsX3_digest (wsV RX3 189 RX3 yX3_errandsDone wsX3_errandsDone) := goodIn_app (goodIn_of _ (by decide +kernel)) ggX3_digest_X3_errandsDone
set_option maxRecDepth 20000 in
theorem ggX3_digest_X3_errandsInVain : GoodIn wsX3_digest wsX3_errandsInVain := goodIn_r _ [44, 16, 156, 157, 158, 167, 168, 169, 170, 171, 172, 173, 174, 175, 176, 177, 178, 179, 180, 181] (by decide +kernel) (by decide +kernel)
set_option maxRecDepth 20000 in
theorem gX3_digest_X3_errandsInVain : GoodIn wsX3_digest (wsV RX3 192 RX3 yX3_errandsInVain wsX3_errandsInVain) := goodIn_app (goodIn_of _ (by decide +kernel)) ggX3_digest_X3_errandsInVain
set_option maxRecDepth 20000 in
theorem ggX3_digest_X3_asked : GoodIn wsX3_digest wsX3_asked := goodIn_r _ [48, 16, 156, 157, 158, 167, 168, 169, 170, 171, 172, 173, 174, 175, 176, 177, 178, 179, 180, 181] (by decide +kernel) (by decide +kernel)
set_option maxRecDepth 20000 in
theorem gX3_digest_X3_asked : GoodIn wsX3_digest (wsV RX3 195 RX3 yX3_asked wsX3_asked) := goodIn_app (goodIn_of _ (by decide +kernel)) ggX3_digest_X3_asked
set_option maxRecDepth 20000 in
theorem ggX3_digest_X3_mixPlaces : GoodIn wsX3_digest wsX3_mixPlaces := goodIn_ca (goodIn_r _ [52, 7, 53, 54, 55, 5, 56, 57, 58, 59, 60, 61, 62, 63, 64, 65, 66, 67, 68, 69, 70, 71, 8, 9, 10, 11, 72, 73, 74, 75, 76, 77, 78, 79, 80, 81, 82, 83, 84, 85, 86, 87, 88, 89, 90, 91, 92, 93, 94, 95, 96, 97, 98, 99, 100, 101, 102, 103, 104, 105, 106, 107, 108, 109, 110, 111, 112, 113, 114, 115, 116, 117, 118, 16, 119, 120, 121, 122, 123, 124, 125, 126, 127, 128, 129, 156, 157, 158, 159, 160, 161, 162, 163, 164, 165, 166, 167, 168, 169, 170, 171, 172, 173, 174, 175, 176, 177, 178, 179, 180, 181] (by decide +kernel) (by decide +kernel)) (goodIn_sub (fun _ h => List.mem_cons_of_mem _ (List.mem_append_right _ h)) (by decide +kernel))
set_option maxRecDepth 20000 in
theorem gX3_digest_X3_mixPlaces : GoodIn wsX3_digest (wsV RX3 198 RX3 yX3_mixPlaces wsX3_mixPlaces) := goodIn_app (goodIn_of _ (by decide +kernel)) ggX3_digest_X3_mixPlaces
set_option maxRecDepth 20000 in
theorem ggX3_digest_X3_mixMemory : GoodIn wsX3_digest wsX3_mixMemory := goodIn_ca (goodIn_r _ [133, 7, 134, 135, 136, 5, 137, 16, 57, 58, 59, 60, 61, 62, 63, 64, 65, 66, 67, 68, 138, 139, 140, 141, 142, 143, 144, 145, 146, 147, 8, 9, 10, 11, 148, 149, 150, 151, 152, 153, 154, 155, 156, 157, 158, 159, 160, 161, 162, 163, 164, 165, 166, 167, 168, 169, 170, 171, 172, 173, 174, 175, 176, 177, 178, 179, 180, 181, 182, 183] (by decide +kernel) (by decide +kernel)) (goodIn_sub (fun _ h => List.mem_cons_of_mem _ (List.mem_append_right _ h)) (by decide +kernel))
set_option maxRecDepth 20000 in
theorem gX3_digest_X3_mixMemory : GoodIn wsX3_digest (wsV RX3 202 RX3 yX3_mixMemory wsX3_mixMemory) := goodIn_app (goodIn_of _ (by decide +kernel)) ggX3_digest_X3_mixMemory
theorem dX3_digest_0 : decode cX3_digest 0 = .ok (.ldc2_w 165, 3) := by decide +kernel
theorem dX3_digest_3 : decode cX3_digest 3 = .ok (.lstore_n 1, 1) := by decide +kernel
theorem dX3_digest_4 : decode cX3_digest 4 = .ok (.lload_n 1, 1) := by decide +kernel
theorem dX3_digest_5 : decode cX3_digest 5 = .ok (.aload_n 0, 1) := by decide +kernel
theorem dX3_digest_6 : decode cX3_digest 6 = .ok (.invokevirtual 167, 3) := by decide +kernel
theorem dX3_digest_9 : decode cX3_digest 9 = .ok (.i2l, 1) := by decide +kernel
theorem dX3_digest_10 : decode cX3_digest 10 = .ok (.invokestatic 170, 3) := by decide +kernel
theorem dX3_digest_13 : decode cX3_digest 13 = .ok (.lstore_n 1, 1) := by decide +kernel
theorem dX3_digest_14 : decode cX3_digest 14 = .ok (.lload_n 1, 1) := by decide +kernel
theorem dX3_digest_15 : decode cX3_digest 15 = .ok (.aload_n 0, 1) := by decide +kernel
theorem dX3_digest_16 : decode cX3_digest 16 = .ok (.invokevirtual 174, 3) := by decide +kernel
theorem dX3_digest_19 : decode cX3_digest 19 = .ok (.i2l, 1) := by decide +kernel
theorem dX3_digest_20 : decode cX3_digest 20 = .ok (.invokestatic 170, 3) := by decide +kernel
theorem dX3_digest_23 : decode cX3_digest 23 = .ok (.lstore_n 1, 1) := by decide +kernel
theorem dX3_digest_24 : decode cX3_digest 24 = .ok (.lload_n 1, 1) := by decide +kernel
theorem dX3_digest_25 : decode cX3_digest 25 = .ok (.aload_n 0, 1) := by decide +kernel
theorem dX3_digest_26 : decode cX3_digest 26 = .ok (.invokevirtual 177, 3) := by decide +kernel
theorem dX3_digest_29 : decode cX3_digest 29 = .ok (.i2l, 1) := by decide +kernel
theorem dX3_digest_30 : decode cX3_digest 30 = .ok (.invokestatic 170, 3) := by decide +kernel
theorem dX3_digest_33 : decode cX3_digest 33 = .ok (.lstore_n 1, 1) := by decide +kernel
theorem dX3_digest_34 : decode cX3_digest 34 = .ok (.lload_n 1, 1) := by decide +kernel
theorem dX3_digest_35 : decode cX3_digest 35 = .ok (.aload_n 0, 1) := by decide +kernel
theorem dX3_digest_36 : decode cX3_digest 36 = .ok (.invokevirtual 179, 3) := by decide +kernel
theorem dX3_digest_39 : decode cX3_digest 39 = .ok (.i2l, 1) := by decide +kernel
theorem dX3_digest_40 : decode cX3_digest 40 = .ok (.invokestatic 170, 3) := by decide +kernel
theorem dX3_digest_43 : decode cX3_digest 43 = .ok (.lstore_n 1, 1) := by decide +kernel
theorem dX3_digest_44 : decode cX3_digest 44 = .ok (.lload_n 1, 1) := by decide +kernel
theorem dX3_digest_45 : decode cX3_digest 45 = .ok (.aload_n 0, 1) := by decide +kernel
theorem dX3_digest_46 : decode cX3_digest 46 = .ok (.invokevirtual 181, 3) := by decide +kernel
theorem dX3_digest_49 : decode cX3_digest 49 = .ok (.i2l, 1) := by decide +kernel
theorem dX3_digest_50 : decode cX3_digest 50 = .ok (.invokestatic 170, 3) := by decide +kernel
theorem dX3_digest_53 : decode cX3_digest 53 = .ok (.lstore_n 1, 1) := by decide +kernel
theorem dX3_digest_54 : decode cX3_digest 54 = .ok (.lload_n 1, 1) := by decide +kernel
theorem dX3_digest_55 : decode cX3_digest 55 = .ok (.aload_n 0, 1) := by decide +kernel
theorem dX3_digest_56 : decode cX3_digest 56 = .ok (.invokevirtual 183, 3) := by decide +kernel
theorem dX3_digest_59 : decode cX3_digest 59 = .ok (.i2l, 1) := by decide +kernel
theorem dX3_digest_60 : decode cX3_digest 60 = .ok (.invokestatic 170, 3) := by decide +kernel
theorem dX3_digest_63 : decode cX3_digest 63 = .ok (.lstore_n 1, 1) := by decide +kernel
theorem dX3_digest_64 : decode cX3_digest 64 = .ok (.lload_n 1, 1) := by decide +kernel
theorem dX3_digest_65 : decode cX3_digest 65 = .ok (.aload_n 0, 1) := by decide +kernel
theorem dX3_digest_66 : decode cX3_digest 66 = .ok (.invokevirtual 186, 3) := by decide +kernel
theorem dX3_digest_69 : decode cX3_digest 69 = .ok (.i2l, 1) := by decide +kernel
theorem dX3_digest_70 : decode cX3_digest 70 = .ok (.invokestatic 170, 3) := by decide +kernel
theorem dX3_digest_73 : decode cX3_digest 73 = .ok (.lstore_n 1, 1) := by decide +kernel
theorem dX3_digest_74 : decode cX3_digest 74 = .ok (.lload_n 1, 1) := by decide +kernel
theorem dX3_digest_75 : decode cX3_digest 75 = .ok (.aload_n 0, 1) := by decide +kernel
theorem dX3_digest_76 : decode cX3_digest 76 = .ok (.invokevirtual 189, 3) := by decide +kernel
theorem dX3_digest_79 : decode cX3_digest 79 = .ok (.i2l, 1) := by decide +kernel
theorem dX3_digest_80 : decode cX3_digest 80 = .ok (.invokestatic 170, 3) := by decide +kernel
theorem dX3_digest_83 : decode cX3_digest 83 = .ok (.lstore_n 1, 1) := by decide +kernel
theorem dX3_digest_84 : decode cX3_digest 84 = .ok (.lload_n 1, 1) := by decide +kernel
theorem dX3_digest_85 : decode cX3_digest 85 = .ok (.aload_n 0, 1) := by decide +kernel
theorem dX3_digest_86 : decode cX3_digest 86 = .ok (.invokevirtual 192, 3) := by decide +kernel
theorem dX3_digest_89 : decode cX3_digest 89 = .ok (.i2l, 1) := by decide +kernel
theorem dX3_digest_90 : decode cX3_digest 90 = .ok (.invokestatic 170, 3) := by decide +kernel
theorem dX3_digest_93 : decode cX3_digest 93 = .ok (.lstore_n 1, 1) := by decide +kernel
theorem dX3_digest_94 : decode cX3_digest 94 = .ok (.lload_n 1, 1) := by decide +kernel
theorem dX3_digest_95 : decode cX3_digest 95 = .ok (.aload_n 0, 1) := by decide +kernel
theorem dX3_digest_96 : decode cX3_digest 96 = .ok (.invokevirtual 195, 3) := by decide +kernel
theorem dX3_digest_99 : decode cX3_digest 99 = .ok (.i2l, 1) := by decide +kernel
theorem dX3_digest_100 : decode cX3_digest 100 = .ok (.invokestatic 170, 3) := by decide +kernel
theorem dX3_digest_103 : decode cX3_digest 103 = .ok (.lstore_n 1, 1) := by decide +kernel
theorem dX3_digest_104 : decode cX3_digest 104 = .ok (.aload_n 0, 1) := by decide +kernel
theorem dX3_digest_105 : decode cX3_digest 105 = .ok (.aload_n 0, 1) := by decide +kernel
theorem dX3_digest_106 : decode cX3_digest 106 = .ok (.lload_n 1, 1) := by decide +kernel
theorem dX3_digest_107 : decode cX3_digest 107 = .ok (.invokevirtual 198, 3) := by decide +kernel
theorem dX3_digest_110 : decode cX3_digest 110 = .ok (.invokevirtual 202, 3) := by decide +kernel
theorem dX3_digest_113 : decode cX3_digest 113 = .ok (.lreturn, 1) := by decide +kernel
set_option maxRecDepth 20000 in
theorem ggX3_checkPlace_X1_isPlace : GoodIn wsX3_checkPlace wsX1_isPlace := goodIn_r _ [8, 9, 13, 14, 15, 16, 17, 18, 19, 20] (by decide +kernel) (by decide +kernel)
set_option maxRecDepth 20000 in
theorem gX3_checkPlace_X1_isPlace : GoodIn wsX3_checkPlace (wsV RX3 205 RX1 yX1_isPlace wsX1_isPlace) := goodIn_app (goodIn_of _ (by decide +kernel)) ggX3_checkPlace_X1_isPlace
theorem dX3_checkPlace_0 : decode cX3_checkPlace 0 = .ok (.aload_n 0, 1) := by decide +kernel
theorem dX3_checkPlace_1 : decode cX3_checkPlace 1 = .ok (.getfield 12, 3) := by decide +kernel
theorem dX3_checkPlace_4 : decode cX3_checkPlace 4 = .ok (.iload_n 1, 1) := by decide +kernel
theorem dX3_checkPlace_5 : decode cX3_checkPlace 5 = .ok (.invokevirtual 205, 3) := by decide +kernel
theorem dX3_checkPlace_8 : decode cX3_checkPlace 8 = .ok (.ifCond .ne 13, 3) := by decide +kernel
theorem dX3_checkPlace_11 : decode cX3_checkPlace 11 = .ok (.new 208, 3) := by decide +kernel
theorem dX3_checkPlace_14 : decode cX3_checkPlace 14 = .ok (.dup, 1) := by decide +kernel
theorem dX3_checkPlace_15 : decode cX3_checkPlace 15 = .ok (.ldc 210, 2) := by decide +kernel
theorem dX3_checkPlace_17 : decode cX3_checkPlace 17 = .ok (.invokespecial 212, 3) := by decide +kernel
theorem dX3_checkPlace_20 : decode cX3_checkPlace 20 = .ok (.athrow, 1) := by decide +kernel
theorem dX3_checkPlace_21 : decode cX3_checkPlace 21 = .ok (.return_, 1) := by decide +kernel
set_option maxRecDepth 20000 in
theorem ggX3_checkedEnd_X1_endAt : GoodIn wsX3_checkedEnd wsX1_endAt := goodIn_r _ [8, 9, 10, 11, 12, 7, 13, 14, 18, 19, 20, 21, 22, 23, 24, 25] (by decide +kernel) (by decide +kernel)
set_option maxRecDepth 20000 in
theorem gX3_checkedEnd_X1_endAt : GoodIn wsX3_checkedEnd (wsV RX3 213 RX1 yX1_endAt wsX1_endAt) := goodIn_app (goodIn_of _ (by decide +kernel)) ggX3_checkedEnd_X1_endAt
theorem dX3_checkedEnd_0 : decode cX3_checkedEnd 0 = .ok (.aload_n 0, 1) := by decide +kernel
theorem dX3_checkedEnd_1 : decode cX3_checkedEnd 1 = .ok (.getfield 12, 3) := by decide +kernel
theorem dX3_checkedEnd_4 : decode cX3_checkedEnd 4 = .ok (.iload_n 1, 1) := by decide +kernel
theorem dX3_checkedEnd_5 : decode cX3_checkedEnd 5 = .ok (.iload_n 2, 1) := by decide +kernel
theorem dX3_checkedEnd_6 : decode cX3_checkedEnd 6 = .ok (.invokevirtual 213, 3) := by decide +kernel
theorem dX3_checkedEnd_9 : decode cX3_checkedEnd 9 = .ok (.istore_n 3, 1) := by decide +kernel
theorem dX3_checkedEnd_10 : decode cX3_checkedEnd 10 = .ok (.iload_n 3, 1) := by decide +kernel
theorem dX3_checkedEnd_11 : decode cX3_checkedEnd 11 = .ok (.iconst (-1), 1) := by decide +kernel
theorem dX3_checkedEnd_12 : decode cX3_checkedEnd 12 = .ok (.if_icmp .ne 13, 3) := by decide +kernel
theorem dX3_checkedEnd_15 : decode cX3_checkedEnd 15 = .ok (.new 208, 3) := by decide +kernel
theorem dX3_checkedEnd_18 : decode cX3_checkedEnd 18 = .ok (.dup, 1) := by decide +kernel
theorem dX3_checkedEnd_19 : decode cX3_checkedEnd 19 = .ok (.ldc 216, 2) := by decide +kernel
theorem dX3_checkedEnd_21 : decode cX3_checkedEnd 21 = .ok (.invokespecial 212, 3) := by decide +kernel
theorem dX3_checkedEnd_24 : decode cX3_checkedEnd 24 = .ok (.athrow, 1) := by decide +kernel
theorem dX3_checkedEnd_25 : decode cX3_checkedEnd 25 = .ok (.iload_n 3, 1) := by decide +kernel
theorem dX3_checkedEnd_26 : decode cX3_checkedEnd 26 = .ok (.ireturn, 1) := by decide +kernel
theorem dX3_checkRange_0 : decode cX3_checkRange 0 = .ok (.iload_n 1, 1) := by decide +kernel
theorem dX3_checkRange_1 : decode cX3_checkRange 1 = .ok (.iconst 1, 1) := by decide +kernel
theorem dX3_checkRange_2 : decode cX3_checkRange 2 = .ok (.if_icmp .lt 8, 3) := by decide +kernel
theorem dX3_checkRange_5 : decode cX3_checkRange 5 = .ok (.iload_n 1, 1) := by decide +kernel
theorem dX3_checkRange_6 : decode cX3_checkRange 6 = .ok (.iload_n 2, 1) := by decide +kernel
theorem dX3_checkRange_7 : decode cX3_checkRange 7 = .ok (.if_icmp .le 13, 3) := by decide +kernel
theorem dX3_checkRange_10 : decode cX3_checkRange 10 = .ok (.new 43, 3) := by decide +kernel
theorem dX3_checkRange_13 : decode cX3_checkRange 13 = .ok (.dup, 1) := by decide +kernel
theorem dX3_checkRange_14 : decode cX3_checkRange 14 = .ok (.ldc 218, 2) := by decide +kernel
theorem dX3_checkRange_16 : decode cX3_checkRange 16 = .ok (.invokespecial 47, 3) := by decide +kernel
theorem dX3_checkRange_19 : decode cX3_checkRange 19 = .ok (.athrow, 1) := by decide +kernel
theorem dX3_checkRange_20 : decode cX3_checkRange 20 = .ok (.return_, 1) := by decide +kernel
set_option maxRecDepth 20000 in
theorem ggX3_checkIdle_X0_isUnderway : GoodIn wsX3_checkIdle wsX0_isUnderway := goodIn_r _ [8, 9, 13, 14, 15, 16, 17, 18, 19, 20, 21, 22, 23, 24, 25, 26, 27] (by decide +kernel) (by decide +kernel)
set_option maxRecDepth 20000 in
theorem gX3_checkIdle_X0_isUnderway : GoodIn wsX3_checkIdle (wsV RX3 96 RX0 yX0_isUnderway wsX0_isUnderway) := goodIn_app (goodIn_of _ (by decide +kernel)) ggX3_checkIdle_X0_isUnderway
theorem dX3_checkIdle_0 : decode cX3_checkIdle 0 = .ok (.aload_n 0, 1) := by decide +kernel
theorem dX3_checkIdle_1 : decode cX3_checkIdle 1 = .ok (.getfield 21, 3) := by decide +kernel
theorem dX3_checkIdle_4 : decode cX3_checkIdle 4 = .ok (.invokevirtual 96, 3) := by decide +kernel
theorem dX3_checkIdle_7 : decode cX3_checkIdle 7 = .ok (.ifCond .eq 13, 3) := by decide +kernel
theorem dX3_checkIdle_10 : decode cX3_checkIdle 10 = .ok (.new 32, 3) := by decide +kernel
theorem dX3_checkIdle_13 : decode cX3_checkIdle 13 = .ok (.dup, 1) := by decide +kernel
theorem dX3_checkIdle_14 : decode cX3_checkIdle 14 = .ok (.ldc 220, 2) := by decide +kernel
theorem dX3_checkIdle_16 : decode cX3_checkIdle 16 = .ok (.invokespecial 36, 3) := by decide +kernel
theorem dX3_checkIdle_19 : decode cX3_checkIdle 19 = .ok (.athrow, 1) := by decide +kernel
theorem dX3_checkIdle_20 : decode cX3_checkIdle 20 = .ok (.return_, 1) := by decide +kernel
set_option maxRecDepth 20000 in
theorem ggX3_checkUnderway_X0_isUnderway : GoodIn wsX3_checkUnderway wsX0_isUnderway := goodIn_r _ [8, 9, 13, 14, 15, 16, 17, 18, 19, 20, 21, 22, 23, 24, 25, 26, 27] (by decide +kernel) (by decide +kernel)
set_option maxRecDepth 20000 in
theorem gX3_checkUnderway_X0_isUnderway : GoodIn wsX3_checkUnderway (wsV RX3 96 RX0 yX0_isUnderway wsX0_isUnderway) := goodIn_app (goodIn_of _ (by decide +kernel)) ggX3_checkUnderway_X0_isUnderway
theorem dX3_checkUnderway_0 : decode cX3_checkUnderway 0 = .ok (.aload_n 0, 1) := by decide +kernel
theorem dX3_checkUnderway_1 : decode cX3_checkUnderway 1 = .ok (.getfield 21, 3) := by decide +kernel
theorem dX3_checkUnderway_4 : decode cX3_checkUnderway 4 = .ok (.invokevirtual 96, 3) := by decide +kernel
theorem dX3_checkUnderway_7 : decode cX3_checkUnderway 7 = .ok (.ifCond .ne 13, 3) := by decide +kernel
theorem dX3_checkUnderway_10 : decode cX3_checkUnderway 10 = .ok (.new 32, 3) := by decide +kernel
theorem dX3_checkUnderway_13 : decode cX3_checkUnderway 13 = .ok (.dup, 1) := by decide +kernel
theorem dX3_checkUnderway_14 : decode cX3_checkUnderway 14 = .ok (.ldc 222, 2) := by decide +kernel
theorem dX3_checkUnderway_16 : decode cX3_checkUnderway 16 = .ok (.invokespecial 36, 3) := by decide +kernel
theorem dX3_checkUnderway_19 : decode cX3_checkUnderway 19 = .ok (.athrow, 1) := by decide +kernel
theorem dX3_checkUnderway_20 : decode cX3_checkUnderway 20 = .ok (.return_, 1) := by decide +kernel
set_option maxRecDepth 20000 in
theorem ggX3_trialMiles_X0_startLike : GoodIn wsX3_trialMiles wsX0_startLike := goodIn_r _ [7, 8, 9, 10, 11, 12, 13, 14, 15, 16, 17, 18, 19, 20, 21, 22, 23, 24, 153, 154, 155, 156, 157, 158, 159, 160, 161, 162, 163, 164, 165, 166, 167, 168, 169] (by decide +kernel) (by decide +kernel)
set_option maxRecDepth 20000 in
theorem gX3_trialMiles_X0_startLike : GoodIn wsX3_trialMiles (wsV RX3 224 RX0 yX0_startLike wsX0_startLike) := goodIn_app (goodIn_of _ (by decide +kernel)) ggX3_trialMiles_X0_startLike
set_option maxRecDepth 20000 in
theorem ggX3_trialMiles_X0_begin : GoodIn wsX3_trialMiles wsX0_begin := goodIn_r _ [28, 29, 30, 31, 32, 8, 33, 34, 35, 6, 36, 37, 38, 39, 40, 153, 154, 155, 156, 157, 158, 159, 160, 161, 162, 163, 164, 165, 166, 167] (by decide +kernel) (by decide +kernel)
set_option maxRecDepth 20000 in
theorem gX3_trialMiles_X0_begin : GoodIn wsX3_trialMiles (wsV RX3 90 RX0 yX0_begin wsX0_begin) := goodIn_app (goodIn_of _ (by decide +kernel)) ggX3_trialMiles_X0_begin
set_option maxRecDepth 20000 in
theorem ggX3_trialMiles_X0_isUnderway : GoodIn wsX3_trialMiles wsX0_isUnderway := goodIn_r _ [44, 32, 153, 154, 155, 156, 157, 158, 159, 160, 161, 162, 163, 164, 165, 166, 167] (by decide +kernel) (by decide +kernel)
set_option maxRecDepth 20000 in
theorem gX3_trialMiles_X0_isUnderway : GoodIn wsX3_trialMiles (wsV RX3 96 RX0 yX0_isUnderway wsX0_isUnderway) := goodIn_app (goodIn_of _ (by decide +kernel)) ggX3_trialMiles_X0_isUnderway
set_option maxRecDepth 20000 in
theorem ggX3_trialMiles_X0_step : GoodIn wsX3_trialMiles wsX0_step := goodIn_r _ [48, 31, 13, 8, 32, 33, 49, 50, 51, 6, 52, 53, 10, 54, 55, 56, 17, 57, 24, 19, 58, 59, 60, 61, 62, 63, 64, 65, 66, 67, 68, 69, 70, 71, 72, 73, 74, 75, 29, 76, 77, 78, 79, 80, 81, 82, 11, 30, 9, 83, 84, 85, 86, 87, 88, 89, 90, 91, 92, 93, 94, 95, 96, 97, 98, 99, 100, 101, 102, 103, 104, 105, 106, 107, 108, 109, 110, 111, 112, 113, 114, 115, 116, 117, 118, 119, 120, 121, 122, 12, 123, 124, 125, 126, 127, 128, 129, 130, 131, 132, 133, 134, 135, 136, 37, 38, 39, 40, 137, 138, 139, 140, 141, 142, 143, 144, 145, 146, 147, 148, 149, 153, 154, 155, 156, 157, 158, 159, 160, 161, 162, 163, 164, 165, 166, 167, 168, 169, 170, 171, 172, 173, 174, 175, 176, 177] (by decide +kernel) (by decide +kernel)
set_option maxRecDepth 20000 in
theorem gX3_trialMiles_X0_step : GoodIn wsX3_trialMiles (wsV RX3 100 RX0 yX0_step wsX0_step) := goodIn_app (goodIn_of _ (by decide +kernel)) ggX3_trialMiles_X0_step
theorem dX3_trialMiles_0 : decode cX3_trialMiles 0 = .ok (.aload_n 0, 1) := by decide +kernel
theorem dX3_trialMiles_1 : decode cX3_trialMiles 1 = .ok (.getfield 25, 3) := by decide +kernel
theorem dX3_trialMiles_4 : decode cX3_trialMiles 4 = .ok (.aload_n 0, 1) := by decide +kernel
theorem dX3_trialMiles_5 : decode cX3_trialMiles 5 = .ok (.getfield 21, 3) := by decide +kernel
theorem dX3_trialMiles_8 : decode cX3_trialMiles 8 = .ok (.iload_n 2, 1) := by decide +kernel
theorem dX3_trialMiles_9 : decode cX3_trialMiles 9 = .ok (.invokevirtual 224, 3) := by decide +kernel
theorem dX3_trialMiles_12 : decode cX3_trialMiles 12 = .ok (.aload_n 0, 1) := by decide +kernel
theorem dX3_trialMiles_13 : decode cX3_trialMiles 13 = .ok (.getfield 25, 3) := by decide +kernel
theorem dX3_trialMiles_16 : decode cX3_trialMiles 16 = .ok (.iload_n 1, 1) := by decide +kernel
theorem dX3_trialMiles_17 : decode cX3_trialMiles 17 = .ok (.invokevirtual 90, 3) := by decide +kernel
theorem dX3_trialMiles_20 : decode cX3_trialMiles 20 = .ok (.iconst 0, 1) := by decide +kernel
theorem dX3_trialMiles_21 : decode cX3_trialMiles 21 = .ok (.istore_n 3, 1) := by decide +kernel
theorem dX3_trialMiles_22 : decode cX3_trialMiles 22 = .ok (.iload_n 3, 1) := by decide +kernel
theorem dX3_trialMiles_23 : decode cX3_trialMiles 23 = .ok (.sipush 1000, 3) := by decide +kernel
theorem dX3_trialMiles_26 : decode cX3_trialMiles 26 = .ok (.if_icmp .ge 27, 3) := by decide +kernel
theorem dX3_trialMiles_29 : decode cX3_trialMiles 29 = .ok (.aload_n 0, 1) := by decide +kernel
theorem dX3_trialMiles_30 : decode cX3_trialMiles 30 = .ok (.getfield 25, 3) := by decide +kernel
theorem dX3_trialMiles_33 : decode cX3_trialMiles 33 = .ok (.invokevirtual 96, 3) := by decide +kernel
theorem dX3_trialMiles_36 : decode cX3_trialMiles 36 = .ok (.ifCond .eq 17, 3) := by decide +kernel
theorem dX3_trialMiles_39 : decode cX3_trialMiles 39 = .ok (.aload_n 0, 1) := by decide +kernel
theorem dX3_trialMiles_40 : decode cX3_trialMiles 40 = .ok (.getfield 25, 3) := by decide +kernel
theorem dX3_trialMiles_43 : decode cX3_trialMiles 43 = .ok (.invokevirtual 100, 3) := by decide +kernel
theorem dX3_trialMiles_46 : decode cX3_trialMiles 46 = .ok (.pop, 1) := by decide +kernel
theorem dX3_trialMiles_47 : decode cX3_trialMiles 47 = .ok (.iinc 3 1, 3) := by decide +kernel
theorem dX3_trialMiles_50 : decode cX3_trialMiles 50 = .ok (.goto (-28), 3) := by decide +kernel
theorem dX3_trialMiles_53 : decode cX3_trialMiles 53 = .ok (.aload_n 0, 1) := by decide +kernel
theorem dX3_trialMiles_54 : decode cX3_trialMiles 54 = .ok (.getfield 25, 3) := by decide +kernel
theorem dX3_trialMiles_57 : decode cX3_trialMiles 57 = .ok (.getfield 156, 3) := by decide +kernel
theorem dX3_trialMiles_60 : decode cX3_trialMiles 60 = .ok (.ifCond .le 7, 3) := by decide +kernel
theorem dX3_trialMiles_63 : decode cX3_trialMiles 63 = .ok (.iconst (-1), 1) := by decide +kernel
theorem dX3_trialMiles_64 : decode cX3_trialMiles 64 = .ok (.goto 10, 3) := by decide +kernel
theorem dX3_trialMiles_67 : decode cX3_trialMiles 67 = .ok (.aload_n 0, 1) := by decide +kernel
theorem dX3_trialMiles_68 : decode cX3_trialMiles 68 = .ok (.getfield 25, 3) := by decide +kernel
theorem dX3_trialMiles_71 : decode cX3_trialMiles 71 = .ok (.getfield 147, 3) := by decide +kernel
theorem dX3_trialMiles_74 : decode cX3_trialMiles 74 = .ok (.ireturn, 1) := by decide +kernel
theorem dX3_mix_0 : decode cX3_mix 0 = .ok (.lload_n 0, 1) := by decide +kernel
theorem dX3_mix_1 : decode cX3_mix 1 = .ok (.ldc2_w 228, 3) := by decide +kernel
theorem dX3_mix_4 : decode cX3_mix 4 = .ok (.lmul, 1) := by decide +kernel
theorem dX3_mix_5 : decode cX3_mix 5 = .ok (.lload_n 2, 1) := by decide +kernel
theorem dX3_mix_6 : decode cX3_mix 6 = .ok (.ladd, 1) := by decide +kernel
theorem dX3_mix_7 : decode cX3_mix 7 = .ok (.lreturn, 1) := by decide +kernel
set_option maxRecDepth 20000 in
theorem ggX3_mixFlag_X3_mix : GoodIn wsX3_mixFlag wsX3_mix := goodIn_r _ [4, 5] (by decide +kernel) (by decide +kernel)
set_option maxRecDepth 20000 in
theorem gX3_mixFlag_X3_mix : GoodIn wsX3_mixFlag (va_wsS RX3 170 yX3_mix wsX3_mix) := goodIn_app (goodIn_of _ (by decide +kernel)) ggX3_mixFlag_X3_mix
theorem dX3_mixFlag_0 : decode cX3_mixFlag 0 = .ok (.lload_n 0, 1) := by decide +kernel
theorem dX3_mixFlag_1 : decode cX3_mixFlag 1 = .ok (.iload_n 2, 1) := by decide +kernel
theorem dX3_mixFlag_2 : decode cX3_mixFlag 2 = .ok (.ifCond .eq 7, 3) := by decide +kernel
theorem dX3_mixFlag_5 : decode cX3_mixFlag 5 = .ok (.lconst 1, 1) := by decide +kernel
theorem dX3_mixFlag_6 : decode cX3_mixFlag 6 = .ok (.goto 4, 3) := by decide +kernel
theorem dX3_mixFlag_9 : decode cX3_mixFlag 9 = .ok (.lconst 0, 1) := by decide +kernel
theorem dX3_mixFlag_10 : decode cX3_mixFlag 10 = .ok (.invokestatic 170, 3) := by decide +kernel
theorem dX3_mixFlag_13 : decode cX3_mixFlag 13 = .ok (.lreturn, 1) := by decide +kernel
set_option maxRecDepth 20000 in
theorem ggX3_mixPlaces_X3_hasShepherd : GoodIn wsX3_mixPlaces wsX3_hasShepherd := goodIn_ca (goodIn_r _ [6, 1, 7, 8, 9, 5, 10, 11, 12, 13, 14, 15, 16, 17, 18, 85, 86, 87, 88, 89, 90, 91, 92, 93, 94, 95] (by decide +kernel) (by decide +kernel)) (goodIn_sub (fun _ h => List.mem_cons_of_mem _ (List.mem_append_right _ h)) (by decide +kernel))
set_option maxRecDepth 20000 in
theorem gX3_mixPlaces_X3_hasShepherd : GoodIn wsX3_mixPlaces (wsV RX3 230 RX3 yX3_hasShepherd wsX3_hasShepherd) := goodIn_app (goodIn_of _ (by decide +kernel)) ggX3_mixPlaces_X3_hasShepherd
set_option maxRecDepth 20000 in
theorem ggX3_mixPlaces_X3_mixFlag : GoodIn wsX3_mixPlaces wsX3_mixFlag := goodIn_r _ [21, 22, 23, 5, 24, 25] (by decide +kernel) (by decide +kernel)
set_option maxRecDepth 20000 in
theorem gX3_mixPlaces_X3_mixFlag : GoodIn wsX3_mixPlaces (va_wsS RX3 233 yX3_mixFlag wsX3_mixFlag) := goodIn_app (goodIn_of _ (by decide +kernel)) ggX3_mixPlaces_X3_mixFlag
set_option maxRecDepth 20000 in
theorem ggX3_mixPlaces_X3_exitsOf : GoodIn wsX3_mixPlaces wsX3_exitsOf := goodIn_ca (goodIn_r _ [29, 1, 7, 8, 9, 5, 10, 11, 12, 13, 14, 15, 16, 17, 18, 85, 86, 87, 88, 89, 90, 91, 92, 93, 94, 95] (by decide +kernel) (by decide +kernel)) (goodIn_sub (fun _ h => List.mem_cons_of_mem _ (List.mem_append_right _ h)) (by decide +kernel))
set_option maxRecDepth 20000 in
theorem gX3_mixPlaces_X3_exitsOf : GoodIn wsX3_mixPlaces (wsV RX3 237 RX3 yX3_exitsOf wsX3_exitsOf) := goodIn_app (goodIn_of _ (by decide +kernel)) ggX3_mixPlaces_X3_exitsOf
set_option maxRecDepth 20000 in
theorem ggX3_mixPlaces_X3_mix : GoodIn wsX3_mixPlaces wsX3_mix := goodIn_r _ [24, 25] (by decide +kernel) (by decide +kernel)
set_option maxRecDepth 20000 in
theorem gX3_mixPlaces_X3_mix : GoodIn wsX3_mixPlaces (va_wsS RX3 170 yX3_mix wsX3_mix) := goodIn_app (goodIn_of _ (by decide +kernel)) ggX3_mixPlaces_X3_mix
set_option maxRecDepth 20000 in
theorem ggX3_mixPlaces_X3_leadsTo : GoodIn wsX3_mixPlaces wsX3_leadsTo := goodIn_ca (goodIn_r _ [33, 1, 34, 35, 36, 5, 37, 11, 12, 38, 39, 40, 16, 41, 42, 43, 14, 15, 17, 18, 44, 45, 46, 47, 48, 49, 50, 85, 86, 87, 88, 89, 90, 91, 92, 93, 94, 95] (by decide +kernel) (by decide +kernel)) (goodIn_sub (fun _ h => List.mem_cons_of_mem _ (List.mem_append_right _ h)) (by decide +kernel))
set_option maxRecDepth 20000 in
theorem gX3_mixPlaces_X3_leadsTo : GoodIn wsX3_mixPlaces (wsV RX3 240 RX3 yX3_leadsTo wsX3_leadsTo) := goodIn_app (goodIn_of _ (by decide +kernel)) ggX3_mixPlaces_X3_leadsTo
set_option maxRecDepth 20000 in
theorem ggX3_mixPlaces_X3_milesOf : GoodIn wsX3_mixPlaces wsX3_milesOf := goodIn_ca (goodIn_r _ [54, 1, 34, 35, 36, 5, 37, 11, 12, 38, 39, 40, 16, 41, 42, 43, 14, 15, 17, 18, 55, 56, 57, 58, 59, 49, 50, 85, 86, 87, 88, 89, 90, 91, 92, 93, 94, 95] (by decide +kernel) (by decide +kernel)) (goodIn_sub (fun _ h => List.mem_cons_of_mem _ (List.mem_append_right _ h)) (by decide +kernel))
set_option maxRecDepth 20000 in
theorem gX3_mixPlaces_X3_milesOf : GoodIn wsX3_mixPlaces (wsV RX3 243 RX3 yX3_milesOf wsX3_milesOf) := goodIn_app (goodIn_of _ (by decide +kernel)) ggX3_mixPlaces_X3_milesOf
set_option maxRecDepth 20000 in
theorem ggX3_mixPlaces_X3_isOpen : GoodIn wsX3_mixPlaces wsX3_isOpen := goodIn_ca (goodIn_r _ [63, 1, 34, 35, 36, 5, 37, 11, 12, 38, 39, 40, 16, 41, 42, 43, 14, 15, 17, 18, 64, 65, 66, 67, 68, 49, 50, 85, 86, 87, 88, 89, 90, 91, 92, 93, 94, 95] (by decide +kernel) (by decide +kernel)) (goodIn_sub (fun _ h => List.mem_cons_of_mem _ (List.mem_append_right _ h)) (by decide +kernel))
set_option maxRecDepth 20000 in
theorem gX3_mixPlaces_X3_isOpen : GoodIn wsX3_mixPlaces (wsV RX3 246 RX3 yX3_isOpen wsX3_isOpen) := goodIn_app (goodIn_of _ (by decide +kernel)) ggX3_mixPlaces_X3_isOpen
set_option maxRecDepth 20000 in
theorem ggX3_mixPlaces_X3_isTried : GoodIn wsX3_mixPlaces wsX3_isTried := goodIn_ca (goodIn_r _ [72, 73, 34, 35, 36, 5, 37, 11, 12, 1, 38, 39, 40, 16, 41, 42, 43, 14, 15, 17, 18, 74, 75, 76, 77, 78, 79, 80, 81, 82, 83, 84, 49, 50, 85, 86, 87, 88, 89, 90, 91, 92, 93, 94, 95, 96, 97, 98, 99, 100, 101, 102, 103, 104, 105, 106, 107, 108, 109, 110] (by decide +kernel) (by decide +kernel)) (goodIn_sub (fun _ h => List.mem_cons_of_mem _ (List.mem_append_right _ h)) (by decide +kernel))
set_option maxRecDepth 20000 in
theorem gX3_mixPlaces_X3_isTried : GoodIn wsX3_mixPlaces (wsV RX3 250 RX3 yX3_isTried wsX3_isTried) := goodIn_app (goodIn_of _ (by decide +kernel)) ggX3_mixPlaces_X3_isTried
theorem dX3_mixPlaces_0 : decode cX3_mixPlaces 0 = .ok (.lload_n 1, 1) := by decide +kernel
theorem dX3_mixPlaces_1 : decode cX3_mixPlaces 1 = .ok (.lstore_n 3, 1) := by decide +kernel
theorem dX3_mixPlaces_2 : decode cX3_mixPlaces 2 = .ok (.iconst 0, 1) := by decide +kernel
theorem dX3_mixPlaces_3 : decode cX3_mixPlaces 3 = .ok (.istore 5, 2) := by decide +kernel
theorem dX3_mixPlaces_5 : decode cX3_mixPlaces 5 = .ok (.iload 5, 2) := by decide +kernel
theorem dX3_mixPlaces_7 : decode cX3_mixPlaces 7 = .ok (.aload_n 0, 1) := by decide +kernel
theorem dX3_mixPlaces_8 : decode cX3_mixPlaces 8 = .ok (.getfield 12, 3) := by decide +kernel
theorem dX3_mixPlaces_11 : decode cX3_mixPlaces 11 = .ok (.getfield 28, 3) := by decide +kernel
theorem dX3_mixPlaces_14 : decode cX3_mixPlaces 14 = .ok (.if_icmp .ge 106, 3) := by decide +kernel
theorem dX3_mixPlaces_17 : decode cX3_mixPlaces 17 = .ok (.lload_n 3, 1) := by decide +kernel
theorem dX3_mixPlaces_18 : decode cX3_mixPlaces 18 = .ok (.aload_n 0, 1) := by decide +kernel
theorem dX3_mixPlaces_19 : decode cX3_mixPlaces 19 = .ok (.iload 5, 2) := by decide +kernel
theorem dX3_mixPlaces_21 : decode cX3_mixPlaces 21 = .ok (.invokevirtual 230, 3) := by decide +kernel
theorem dX3_mixPlaces_24 : decode cX3_mixPlaces 24 = .ok (.invokestatic 233, 3) := by decide +kernel
theorem dX3_mixPlaces_27 : decode cX3_mixPlaces 27 = .ok (.lstore_n 3, 1) := by decide +kernel
theorem dX3_mixPlaces_28 : decode cX3_mixPlaces 28 = .ok (.lload_n 3, 1) := by decide +kernel
theorem dX3_mixPlaces_29 : decode cX3_mixPlaces 29 = .ok (.aload_n 0, 1) := by decide +kernel
theorem dX3_mixPlaces_30 : decode cX3_mixPlaces 30 = .ok (.iload 5, 2) := by decide +kernel
theorem dX3_mixPlaces_32 : decode cX3_mixPlaces 32 = .ok (.invokevirtual 237, 3) := by decide +kernel
theorem dX3_mixPlaces_35 : decode cX3_mixPlaces 35 = .ok (.i2l, 1) := by decide +kernel
theorem dX3_mixPlaces_36 : decode cX3_mixPlaces 36 = .ok (.invokestatic 170, 3) := by decide +kernel
theorem dX3_mixPlaces_39 : decode cX3_mixPlaces 39 = .ok (.lstore_n 3, 1) := by decide +kernel
theorem dX3_mixPlaces_40 : decode cX3_mixPlaces 40 = .ok (.iconst 0, 1) := by decide +kernel
theorem dX3_mixPlaces_41 : decode cX3_mixPlaces 41 = .ok (.istore 6, 2) := by decide +kernel
theorem dX3_mixPlaces_43 : decode cX3_mixPlaces 43 = .ok (.iload 6, 2) := by decide +kernel
theorem dX3_mixPlaces_45 : decode cX3_mixPlaces 45 = .ok (.aload_n 0, 1) := by decide +kernel
theorem dX3_mixPlaces_46 : decode cX3_mixPlaces 46 = .ok (.iload 5, 2) := by decide +kernel
theorem dX3_mixPlaces_48 : decode cX3_mixPlaces 48 = .ok (.invokevirtual 237, 3) := by decide +kernel
theorem dX3_mixPlaces_51 : decode cX3_mixPlaces 51 = .ok (.if_icmp .ge 63, 3) := by decide +kernel
theorem dX3_mixPlaces_54 : decode cX3_mixPlaces 54 = .ok (.lload_n 3, 1) := by decide +kernel
theorem dX3_mixPlaces_55 : decode cX3_mixPlaces 55 = .ok (.aload_n 0, 1) := by decide +kernel
theorem dX3_mixPlaces_56 : decode cX3_mixPlaces 56 = .ok (.iload 5, 2) := by decide +kernel
theorem dX3_mixPlaces_58 : decode cX3_mixPlaces 58 = .ok (.iload 6, 2) := by decide +kernel
theorem dX3_mixPlaces_60 : decode cX3_mixPlaces 60 = .ok (.invokevirtual 240, 3) := by decide +kernel
theorem dX3_mixPlaces_63 : decode cX3_mixPlaces 63 = .ok (.i2l, 1) := by decide +kernel
theorem dX3_mixPlaces_64 : decode cX3_mixPlaces 64 = .ok (.invokestatic 170, 3) := by decide +kernel
theorem dX3_mixPlaces_67 : decode cX3_mixPlaces 67 = .ok (.lstore_n 3, 1) := by decide +kernel
theorem dX3_mixPlaces_68 : decode cX3_mixPlaces 68 = .ok (.lload_n 3, 1) := by decide +kernel
theorem dX3_mixPlaces_69 : decode cX3_mixPlaces 69 = .ok (.aload_n 0, 1) := by decide +kernel
theorem dX3_mixPlaces_70 : decode cX3_mixPlaces 70 = .ok (.iload 5, 2) := by decide +kernel
theorem dX3_mixPlaces_72 : decode cX3_mixPlaces 72 = .ok (.iload 6, 2) := by decide +kernel
theorem dX3_mixPlaces_74 : decode cX3_mixPlaces 74 = .ok (.invokevirtual 243, 3) := by decide +kernel
theorem dX3_mixPlaces_77 : decode cX3_mixPlaces 77 = .ok (.i2l, 1) := by decide +kernel
theorem dX3_mixPlaces_78 : decode cX3_mixPlaces 78 = .ok (.invokestatic 170, 3) := by decide +kernel
theorem dX3_mixPlaces_81 : decode cX3_mixPlaces 81 = .ok (.lstore_n 3, 1) := by decide +kernel
theorem dX3_mixPlaces_82 : decode cX3_mixPlaces 82 = .ok (.lload_n 3, 1) := by decide +kernel
theorem dX3_mixPlaces_83 : decode cX3_mixPlaces 83 = .ok (.aload_n 0, 1) := by decide +kernel
theorem dX3_mixPlaces_84 : decode cX3_mixPlaces 84 = .ok (.iload 5, 2) := by decide +kernel
theorem dX3_mixPlaces_86 : decode cX3_mixPlaces 86 = .ok (.iload 6, 2) := by decide +kernel
theorem dX3_mixPlaces_88 : decode cX3_mixPlaces 88 = .ok (.invokevirtual 246, 3) := by decide +kernel
theorem dX3_mixPlaces_91 : decode cX3_mixPlaces 91 = .ok (.invokestatic 233, 3) := by decide +kernel
theorem dX3_mixPlaces_94 : decode cX3_mixPlaces 94 = .ok (.lstore_n 3, 1) := by decide +kernel
theorem dX3_mixPlaces_95 : decode cX3_mixPlaces 95 = .ok (.lload_n 3, 1) := by decide +kernel
theorem dX3_mixPlaces_96 : decode cX3_mixPlaces 96 = .ok (.aload_n 0, 1) := by decide +kernel
theorem dX3_mixPlaces_97 : decode cX3_mixPlaces 97 = .ok (.iload 5, 2) := by decide +kernel
theorem dX3_mixPlaces_99 : decode cX3_mixPlaces 99 = .ok (.iload 6, 2) := by decide +kernel
theorem dX3_mixPlaces_101 : decode cX3_mixPlaces 101 = .ok (.invokevirtual 250, 3) := by decide +kernel
theorem dX3_mixPlaces_104 : decode cX3_mixPlaces 104 = .ok (.invokestatic 233, 3) := by decide +kernel
theorem dX3_mixPlaces_107 : decode cX3_mixPlaces 107 = .ok (.lstore_n 3, 1) := by decide +kernel
theorem dX3_mixPlaces_108 : decode cX3_mixPlaces 108 = .ok (.iinc 6 1, 3) := by decide +kernel
theorem dX3_mixPlaces_111 : decode cX3_mixPlaces 111 = .ok (.goto (-68), 3) := by decide +kernel
theorem dX3_mixPlaces_114 : decode cX3_mixPlaces 114 = .ok (.iinc 5 1, 3) := by decide +kernel
theorem dX3_mixPlaces_117 : decode cX3_mixPlaces 117 = .ok (.goto (-112), 3) := by decide +kernel
theorem dX3_mixPlaces_120 : decode cX3_mixPlaces 120 = .ok (.lload_n 3, 1) := by decide +kernel
theorem dX3_mixPlaces_121 : decode cX3_mixPlaces 121 = .ok (.lreturn, 1) := by decide +kernel
set_option maxRecDepth 20000 in
theorem ggX3_mixMemory_X3_remembered : GoodIn wsX3_mixMemory wsX3_remembered := goodIn_ca (goodIn_r _ [6, 7, 8, 9, 10, 5, 11, 12, 13, 1, 14, 15, 16, 17, 18, 19, 20, 21, 22, 23, 24, 25, 26, 27, 28, 29, 42, 43, 44, 53, 54, 55, 56, 57, 58, 59, 60, 61, 62, 63, 64, 65, 66, 67, 45, 46, 47, 48, 49, 50, 51, 52, 68, 69] (by decide +kernel) (by decide +kernel)) (goodIn_sub (fun _ h => List.mem_cons_of_mem _ (List.mem_append_right _ h)) (by decide +kernel))
set_option maxRecDepth 20000 in
theorem gX3_mixMemory_X3_remembered : GoodIn wsX3_mixMemory (wsV RX3 253 RX3 yX3_remembered wsX3_remembered) := goodIn_app (goodIn_of _ (by decide +kernel)) ggX3_mixMemory_X3_remembered
set_option maxRecDepth 20000 in
theorem ggX3_mixMemory_X3_mix : GoodIn wsX3_mixMemory wsX3_mix := goodIn_r _ [32, 33] (by decide +kernel) (by decide +kernel)
set_option maxRecDepth 20000 in
theorem gX3_mixMemory_X3_mix : GoodIn wsX3_mixMemory (va_wsS RX3 170 yX3_mix wsX3_mix) := goodIn_app (goodIn_of _ (by decide +kernel)) ggX3_mixMemory_X3_mix
set_option maxRecDepth 20000 in
theorem ggX3_mixMemory_X3_strength : GoodIn wsX3_mixMemory wsX3_strength := goodIn_ca (goodIn_r _ [37, 7, 8, 9, 10, 5, 11, 12, 13, 1, 14, 15, 16, 17, 18, 19, 38, 39, 40, 23, 41, 25, 27, 28, 29, 42, 43, 44, 53, 54, 55, 56, 57, 58, 59, 60, 61, 62, 63, 64, 65, 66, 67, 45, 46, 47, 48, 49, 50, 51, 52, 68, 69] (by decide +kernel) (by decide +kernel)) (goodIn_sub (fun _ h => List.mem_cons_of_mem _ (List.mem_append_right _ h)) (by decide +kernel))
set_option maxRecDepth 20000 in
theorem gX3_mixMemory_X3_strength : GoodIn wsX3_mixMemory (wsV RX3 256 RX3 yX3_strength wsX3_strength) := goodIn_app (goodIn_of _ (by decide +kernel)) ggX3_mixMemory_X3_strength
theorem dX3_mixMemory_0 : decode cX3_mixMemory 0 = .ok (.lload_n 1, 1) := by decide +kernel
theorem dX3_mixMemory_1 : decode cX3_mixMemory 1 = .ok (.lstore_n 3, 1) := by decide +kernel
theorem dX3_mixMemory_2 : decode cX3_mixMemory 2 = .ok (.iconst 0, 1) := by decide +kernel
theorem dX3_mixMemory_3 : decode cX3_mixMemory 3 = .ok (.istore 5, 2) := by decide +kernel
theorem dX3_mixMemory_5 : decode cX3_mixMemory 5 = .ok (.iload 5, 2) := by decide +kernel
theorem dX3_mixMemory_7 : decode cX3_mixMemory 7 = .ok (.aload_n 0, 1) := by decide +kernel
theorem dX3_mixMemory_8 : decode cX3_mixMemory 8 = .ok (.getfield 12, 3) := by decide +kernel
theorem dX3_mixMemory_11 : decode cX3_mixMemory 11 = .ok (.getfield 28, 3) := by decide +kernel
theorem dX3_mixMemory_14 : decode cX3_mixMemory 14 = .ok (.if_icmp .ge 58, 3) := by decide +kernel
theorem dX3_mixMemory_17 : decode cX3_mixMemory 17 = .ok (.iconst 0, 1) := by decide +kernel
theorem dX3_mixMemory_18 : decode cX3_mixMemory 18 = .ok (.istore 6, 2) := by decide +kernel
theorem dX3_mixMemory_20 : decode cX3_mixMemory 20 = .ok (.iload 6, 2) := by decide +kernel
theorem dX3_mixMemory_22 : decode cX3_mixMemory 22 = .ok (.aload_n 0, 1) := by decide +kernel
theorem dX3_mixMemory_23 : decode cX3_mixMemory 23 = .ok (.getfield 12, 3) := by decide +kernel
theorem dX3_mixMemory_26 : decode cX3_mixMemory 26 = .ok (.getfield 28, 3) := by decide +kernel
theorem dX3_mixMemory_29 : decode cX3_mixMemory 29 = .ok (.if_icmp .ge 37, 3) := by decide +kernel
theorem dX3_mixMemory_32 : decode cX3_mixMemory 32 = .ok (.lload_n 3, 1) := by decide +kernel
theorem dX3_mixMemory_33 : decode cX3_mixMemory 33 = .ok (.aload_n 0, 1) := by decide +kernel
theorem dX3_mixMemory_34 : decode cX3_mixMemory 34 = .ok (.iload 5, 2) := by decide +kernel
theorem dX3_mixMemory_36 : decode cX3_mixMemory 36 = .ok (.iload 6, 2) := by decide +kernel
theorem dX3_mixMemory_38 : decode cX3_mixMemory 38 = .ok (.invokevirtual 253, 3) := by decide +kernel
theorem dX3_mixMemory_41 : decode cX3_mixMemory 41 = .ok (.i2l, 1) := by decide +kernel
theorem dX3_mixMemory_42 : decode cX3_mixMemory 42 = .ok (.invokestatic 170, 3) := by decide +kernel
theorem dX3_mixMemory_45 : decode cX3_mixMemory 45 = .ok (.lstore_n 3, 1) := by decide +kernel
theorem dX3_mixMemory_46 : decode cX3_mixMemory 46 = .ok (.lload_n 3, 1) := by decide +kernel
theorem dX3_mixMemory_47 : decode cX3_mixMemory 47 = .ok (.aload_n 0, 1) := by decide +kernel
theorem dX3_mixMemory_48 : decode cX3_mixMemory 48 = .ok (.iload 5, 2) := by decide +kernel
theorem dX3_mixMemory_50 : decode cX3_mixMemory 50 = .ok (.iload 6, 2) := by decide +kernel
theorem dX3_mixMemory_52 : decode cX3_mixMemory 52 = .ok (.invokevirtual 256, 3) := by decide +kernel
theorem dX3_mixMemory_55 : decode cX3_mixMemory 55 = .ok (.i2l, 1) := by decide +kernel
theorem dX3_mixMemory_56 : decode cX3_mixMemory 56 = .ok (.invokestatic 170, 3) := by decide +kernel
theorem dX3_mixMemory_59 : decode cX3_mixMemory 59 = .ok (.lstore_n 3, 1) := by decide +kernel
theorem dX3_mixMemory_60 : decode cX3_mixMemory 60 = .ok (.iinc 6 1, 3) := by decide +kernel
theorem dX3_mixMemory_63 : decode cX3_mixMemory 63 = .ok (.goto (-43), 3) := by decide +kernel
theorem dX3_mixMemory_66 : decode cX3_mixMemory 66 = .ok (.iinc 5 1, 3) := by decide +kernel
theorem dX3_mixMemory_69 : decode cX3_mixMemory 69 = .ok (.goto (-64), 3) := by decide +kernel
theorem dX3_mixMemory_72 : decode cX3_mixMemory 72 = .ok (.lload_n 3, 1) := by decide +kernel
theorem dX3_mixMemory_73 : decode cX3_mixMemory 73 = .ok (.lreturn, 1) := by decide +kernel
theorem dX3_isEnd_0 : decode cX3_isEnd 0 = .ok (.iload_n 0, 1) := by decide +kernel
theorem dX3_isEnd_1 : decode cX3_isEnd 1 = .ok (.ifCond .lt 13, 3) := by decide +kernel
theorem dX3_isEnd_4 : decode cX3_isEnd 4 = .ok (.iload_n 0, 1) := by decide +kernel
theorem dX3_isEnd_5 : decode cX3_isEnd 5 = .ok (.bipush 40, 2) := by decide +kernel
theorem dX3_isEnd_7 : decode cX3_isEnd 7 = .ok (.if_icmp .ge 7, 3) := by decide +kernel
theorem dX3_isEnd_10 : decode cX3_isEnd 10 = .ok (.iconst 1, 1) := by decide +kernel
theorem dX3_isEnd_11 : decode cX3_isEnd 11 = .ok (.goto 4, 3) := by decide +kernel
theorem dX3_isEnd_14 : decode cX3_isEnd 14 = .ok (.iconst 0, 1) := by decide +kernel
theorem dX3_isEnd_15 : decode cX3_isEnd 15 = .ok (.ireturn, 1) := by decide +kernel
theorem dX3_placeOfEnd_0 : decode cX3_placeOfEnd 0 = .ok (.iload_n 0, 1) := by decide +kernel
theorem dX3_placeOfEnd_1 : decode cX3_placeOfEnd 1 = .ok (.iconst 4, 1) := by decide +kernel
theorem dX3_placeOfEnd_2 : decode cX3_placeOfEnd 2 = .ok (.idiv, 1) := by decide +kernel
theorem dX3_placeOfEnd_3 : decode cX3_placeOfEnd 3 = .ok (.ireturn, 1) := by decide +kernel
theorem dX3_exitOfEnd_0 : decode cX3_exitOfEnd 0 = .ok (.iload_n 0, 1) := by decide +kernel
theorem dX3_exitOfEnd_1 : decode cX3_exitOfEnd 1 = .ok (.iconst 4, 1) := by decide +kernel
theorem dX3_exitOfEnd_2 : decode cX3_exitOfEnd 2 = .ok (.irem, 1) := by decide +kernel
theorem dX3_exitOfEnd_3 : decode cX3_exitOfEnd 3 = .ok (.ireturn, 1) := by decide +kernel
theorem dX4_init_0 : decode cX4_init 0 = .ok (.aload_n 0, 1) := by decide +kernel
theorem dX4_init_1 : decode cX4_init 1 = .ok (.invokespecial 1, 3) := by decide +kernel
theorem dX4_init_4 : decode cX4_init 4 = .ok (.aload_n 0, 1) := by decide +kernel
theorem dX4_init_5 : decode cX4_init 5 = .ok (.iconst 0, 1) := by decide +kernel
theorem dX4_init_6 : decode cX4_init 6 = .ok (.anewarray 7, 3) := by decide +kernel
theorem dX4_init_9 : decode cX4_init 9 = .ok (.putfield 9, 3) := by decide +kernel
theorem dX4_init_12 : decode cX4_init 12 = .ok (.aload_n 0, 1) := by decide +kernel
theorem dX4_init_13 : decode cX4_init 13 = .ok (.iconst 0, 1) := by decide +kernel
theorem dX4_init_14 : decode cX4_init 14 = .ok (.anewarray 7, 3) := by decide +kernel
theorem dX4_init_17 : decode cX4_init 17 = .ok (.putfield 15, 3) := by decide +kernel
theorem dX4_init_20 : decode cX4_init 20 = .ok (.aload_n 0, 1) := by decide +kernel
theorem dX4_init_21 : decode cX4_init 21 = .ok (.bipush 10, 2) := by decide +kernel
theorem dX4_init_23 : decode cX4_init 23 = .ok (.newarray .boolean, 2) := by decide +kernel
theorem dX4_init_25 : decode cX4_init 25 = .ok (.putfield 18, 3) := by decide +kernel
theorem dX4_init_28 : decode cX4_init 28 = .ok (.aload_n 0, 1) := by decide +kernel
theorem dX4_init_29 : decode cX4_init 29 = .ok (.bipush 10, 2) := by decide +kernel
theorem dX4_init_31 : decode cX4_init 31 = .ok (.newarray .boolean, 2) := by decide +kernel
theorem dX4_init_33 : decode cX4_init 33 = .ok (.putfield 22, 3) := by decide +kernel
theorem dX4_init_36 : decode cX4_init 36 = .ok (.aload_n 0, 1) := by decide +kernel
theorem dX4_init_37 : decode cX4_init 37 = .ok (.iconst (-1), 1) := by decide +kernel
theorem dX4_init_38 : decode cX4_init 38 = .ok (.putfield 25, 3) := by decide +kernel
theorem dX4_init_41 : decode cX4_init 41 = .ok (.aload_n 0, 1) := by decide +kernel
theorem dX4_init_42 : decode cX4_init 42 = .ok (.iconst (-1), 1) := by decide +kernel
theorem dX4_init_43 : decode cX4_init 43 = .ok (.putfield 29, 3) := by decide +kernel
theorem dX4_init_46 : decode cX4_init 46 = .ok (.aload_n 0, 1) := by decide +kernel
theorem dX4_init_47 : decode cX4_init 47 = .ok (.iconst 0, 1) := by decide +kernel
theorem dX4_init_48 : decode cX4_init 48 = .ok (.anewarray 7, 3) := by decide +kernel
theorem dX4_init_51 : decode cX4_init 51 = .ok (.putfield 32, 3) := by decide +kernel
theorem dX4_init_54 : decode cX4_init 54 = .ok (.aload_n 0, 1) := by decide +kernel
theorem dX4_init_55 : decode cX4_init 55 = .ok (.bipush 10, 2) := by decide +kernel
theorem dX4_init_57 : decode cX4_init 57 = .ok (.bipush 10, 2) := by decide +kernel
theorem dX4_init_59 : decode cX4_init 59 = .ok (.multianewarray 35 2, 4) := by decide +kernel
theorem dX4_init_63 : decode cX4_init 63 = .ok (.putfield 37, 3) := by decide +kernel
theorem dX4_init_66 : decode cX4_init 66 = .ok (.return_, 1) := by decide +kernel
theorem dX4_more_0 : decode cX4_more 0 = .ok (.aload_n 0, 1) := by decide +kernel
theorem dX4_more_1 : decode cX4_more 1 = .ok (.arraylength, 1) := by decide +kernel
theorem dX4_more_2 : decode cX4_more 2 = .ok (.iconst 1, 1) := by decide +kernel
theorem dX4_more_3 : decode cX4_more 3 = .ok (.iadd, 1) := by decide +kernel
theorem dX4_more_4 : decode cX4_more 4 = .ok (.anewarray 7, 3) := by decide +kernel
theorem dX4_more_7 : decode cX4_more 7 = .ok (.astore_n 2, 1) := by decide +kernel
theorem dX4_more_8 : decode cX4_more 8 = .ok (.iconst 0, 1) := by decide +kernel
theorem dX4_more_9 : decode cX4_more 9 = .ok (.istore_n 3, 1) := by decide +kernel
theorem dX4_more_10 : decode cX4_more 10 = .ok (.iload_n 3, 1) := by decide +kernel
theorem dX4_more_11 : decode cX4_more 11 = .ok (.aload_n 0, 1) := by decide +kernel
theorem dX4_more_12 : decode cX4_more 12 = .ok (.arraylength, 1) := by decide +kernel
theorem dX4_more_13 : decode cX4_more 13 = .ok (.if_icmp .ge 15, 3) := by decide +kernel
theorem dX4_more_16 : decode cX4_more 16 = .ok (.aload_n 2, 1) := by decide +kernel
theorem dX4_more_17 : decode cX4_more 17 = .ok (.iload_n 3, 1) := by decide +kernel
theorem dX4_more_18 : decode cX4_more 18 = .ok (.aload_n 0, 1) := by decide +kernel
theorem dX4_more_19 : decode cX4_more 19 = .ok (.iload_n 3, 1) := by decide +kernel
theorem dX4_more_20 : decode cX4_more 20 = .ok (.aaload, 1) := by decide +kernel
theorem dX4_more_21 : decode cX4_more 21 = .ok (.aastore, 1) := by decide +kernel
theorem dX4_more_22 : decode cX4_more 22 = .ok (.iinc 3 1, 3) := by decide +kernel
theorem dX4_more_25 : decode cX4_more 25 = .ok (.goto (-15), 3) := by decide +kernel
theorem dX4_more_28 : decode cX4_more 28 = .ok (.aload_n 2, 1) := by decide +kernel
theorem dX4_more_29 : decode cX4_more 29 = .ok (.aload_n 0, 1) := by decide +kernel
theorem dX4_more_30 : decode cX4_more 30 = .ok (.arraylength, 1) := by decide +kernel
theorem dX4_more_31 : decode cX4_more 31 = .ok (.aload_n 1, 1) := by decide +kernel
theorem dX4_more_32 : decode cX4_more 32 = .ok (.aastore, 1) := by decide +kernel
theorem dX4_more_33 : decode cX4_more 33 = .ok (.aload_n 2, 1) := by decide +kernel
theorem dX4_more_34 : decode cX4_more 34 = .ok (.areturn, 1) := by decide +kernel
theorem dX4_more__0 : decode cX4_more_ 0 = .ok (.aload_n 0, 1) := by decide +kernel
theorem dX4_more__1 : decode cX4_more_ 1 = .ok (.arraylength, 1) := by decide +kernel
theorem dX4_more__2 : decode cX4_more_ 2 = .ok (.iconst 1, 1) := by decide +kernel
theorem dX4_more__3 : decode cX4_more_ 3 = .ok (.iadd, 1) := by decide +kernel
theorem dX4_more__4 : decode cX4_more_ 4 = .ok (.newarray .int, 2) := by decide +kernel
theorem dX4_more__6 : decode cX4_more_ 6 = .ok (.astore_n 2, 1) := by decide +kernel
theorem dX4_more__7 : decode cX4_more_ 7 = .ok (.iconst 0, 1) := by decide +kernel
theorem dX4_more__8 : decode cX4_more_ 8 = .ok (.istore_n 3, 1) := by decide +kernel
theorem dX4_more__9 : decode cX4_more_ 9 = .ok (.iload_n 3, 1) := by decide +kernel
theorem dX4_more__10 : decode cX4_more_ 10 = .ok (.aload_n 0, 1) := by decide +kernel
theorem dX4_more__11 : decode cX4_more_ 11 = .ok (.arraylength, 1) := by decide +kernel
theorem dX4_more__12 : decode cX4_more_ 12 = .ok (.if_icmp .ge 15, 3) := by decide +kernel
theorem dX4_more__15 : decode cX4_more_ 15 = .ok (.aload_n 2, 1) := by decide +kernel
theorem dX4_more__16 : decode cX4_more_ 16 = .ok (.iload_n 3, 1) := by decide +kernel
theorem dX4_more__17 : decode cX4_more_ 17 = .ok (.aload_n 0, 1) := by decide +kernel
theorem dX4_more__18 : decode cX4_more_ 18 = .ok (.iload_n 3, 1) := by decide +kernel
theorem dX4_more__19 : decode cX4_more_ 19 = .ok (.iaload, 1) := by decide +kernel
theorem dX4_more__20 : decode cX4_more_ 20 = .ok (.iastore, 1) := by decide +kernel
theorem dX4_more__21 : decode cX4_more_ 21 = .ok (.iinc 3 1, 3) := by decide +kernel
theorem dX4_more__24 : decode cX4_more_ 24 = .ok (.goto (-15), 3) := by decide +kernel
theorem dX4_more__27 : decode cX4_more_ 27 = .ok (.aload_n 2, 1) := by decide +kernel
theorem dX4_more__28 : decode cX4_more_ 28 = .ok (.aload_n 0, 1) := by decide +kernel
theorem dX4_more__29 : decode cX4_more_ 29 = .ok (.arraylength, 1) := by decide +kernel
theorem dX4_more__30 : decode cX4_more_ 30 = .ok (.iload_n 1, 1) := by decide +kernel
theorem dX4_more__31 : decode cX4_more_ 31 = .ok (.iastore, 1) := by decide +kernel
theorem dX4_more__32 : decode cX4_more_ 32 = .ok (.aload_n 2, 1) := by decide +kernel
theorem dX4_more__33 : decode cX4_more_ 33 = .ok (.areturn, 1) := by decide +kernel
set_option maxRecDepth 20000 in
theorem ggX4_place_X4_more : GoodIn wsX4_place wsX4_more := goodIn_r _ [7, 8] (by decide +kernel) (by decide +kernel)
set_option maxRecDepth 20000 in
theorem gX4_place_X4_more : GoodIn wsX4_place (va_wsS RX4 69 yX4_more wsX4_more) := goodIn_app (goodIn_of _ (by decide +kernel)) ggX4_place_X4_more
theorem dX4_place_0 : decode cX4_place 0 = .ok (.aload_n 0, 1) := by decide +kernel
theorem dX4_place_1 : decode cX4_place 1 = .ok (.aload_n 0, 1) := by decide +kernel
theorem dX4_place_2 : decode cX4_place 2 = .ok (.getfield 15, 3) := by decide +kernel
theorem dX4_place_5 : decode cX4_place 5 = .ok (.iconst 0, 1) := by decide +kernel
theorem dX4_place_6 : decode cX4_place 6 = .ok (.newarray .int, 2) := by decide +kernel
theorem dX4_place_8 : decode cX4_place 8 = .ok (.invokestatic 69, 3) := by decide +kernel
theorem dX4_place_11 : decode cX4_place 11 = .ok (.putfield 15, 3) := by decide +kernel
theorem dX4_place_14 : decode cX4_place 14 = .ok (.aload_n 0, 1) := by decide +kernel
theorem dX4_place_15 : decode cX4_place 15 = .ok (.getfield 25, 3) := by decide +kernel
theorem dX4_place_18 : decode cX4_place 18 = .ok (.ifCond .ge 8, 3) := by decide +kernel
theorem dX4_place_21 : decode cX4_place 21 = .ok (.aload_n 0, 1) := by decide +kernel
theorem dX4_place_22 : decode cX4_place 22 = .ok (.iconst 0, 1) := by decide +kernel
theorem dX4_place_23 : decode cX4_place 23 = .ok (.putfield 25, 3) := by decide +kernel
theorem dX4_place_26 : decode cX4_place 26 = .ok (.return_, 1) := by decide +kernel
set_option maxRecDepth 20000 in
theorem ggX4_road_X4_more : GoodIn wsX4_road wsX4_more := goodIn_r _ [7, 8] (by decide +kernel) (by decide +kernel)
set_option maxRecDepth 20000 in
theorem gX4_road_X4_more : GoodIn wsX4_road (va_wsS RX4 69 yX4_more wsX4_more) := goodIn_app (goodIn_of _ (by decide +kernel)) ggX4_road_X4_more
set_option maxRecDepth 20000 in
theorem ggX4_road_X4_more_ : GoodIn wsX4_road wsX4_more_ := goodIn_r _ [11, 2] (by decide +kernel) (by decide +kernel)
set_option maxRecDepth 20000 in
theorem gX4_road_X4_more_ : GoodIn wsX4_road (va_wsS RX4 73 yX4_more_ wsX4_more_) := goodIn_app (goodIn_of _ (by decide +kernel)) ggX4_road_X4_more_
theorem dX4_road_0 : decode cX4_road 0 = .ok (.aload_n 0, 1) := by decide +kernel
theorem dX4_road_1 : decode cX4_road 1 = .ok (.aload_n 0, 1) := by decide +kernel
theorem dX4_road_2 : decode cX4_road 2 = .ok (.getfield 9, 3) := by decide +kernel
theorem dX4_road_5 : decode cX4_road 5 = .ok (.iconst 5, 1) := by decide +kernel
theorem dX4_road_6 : decode cX4_road 6 = .ok (.newarray .int, 2) := by decide +kernel
theorem dX4_road_8 : decode cX4_road 8 = .ok (.dup, 1) := by decide +kernel
theorem dX4_road_9 : decode cX4_road 9 = .ok (.iconst 0, 1) := by decide +kernel
theorem dX4_road_10 : decode cX4_road 10 = .ok (.iload_n 1, 1) := by decide +kernel
theorem dX4_road_11 : decode cX4_road 11 = .ok (.iastore, 1) := by decide +kernel
theorem dX4_road_12 : decode cX4_road 12 = .ok (.dup, 1) := by decide +kernel
theorem dX4_road_13 : decode cX4_road 13 = .ok (.iconst 1, 1) := by decide +kernel
theorem dX4_road_14 : decode cX4_road 14 = .ok (.iload_n 2, 1) := by decide +kernel
theorem dX4_road_15 : decode cX4_road 15 = .ok (.iastore, 1) := by decide +kernel
theorem dX4_road_16 : decode cX4_road 16 = .ok (.dup, 1) := by decide +kernel
theorem dX4_road_17 : decode cX4_road 17 = .ok (.iconst 2, 1) := by decide +kernel
theorem dX4_road_18 : decode cX4_road 18 = .ok (.iload_n 3, 1) := by decide +kernel
theorem dX4_road_19 : decode cX4_road 19 = .ok (.iastore, 1) := by decide +kernel
theorem dX4_road_20 : decode cX4_road 20 = .ok (.dup, 1) := by decide +kernel
theorem dX4_road_21 : decode cX4_road 21 = .ok (.iconst 3, 1) := by decide +kernel
theorem dX4_road_22 : decode cX4_road 22 = .ok (.iconst 1, 1) := by decide +kernel
theorem dX4_road_23 : decode cX4_road 23 = .ok (.iastore, 1) := by decide +kernel
theorem dX4_road_24 : decode cX4_road 24 = .ok (.dup, 1) := by decide +kernel
theorem dX4_road_25 : decode cX4_road 25 = .ok (.iconst 4, 1) := by decide +kernel
theorem dX4_road_26 : decode cX4_road 26 = .ok (.iconst 0, 1) := by decide +kernel
theorem dX4_road_27 : decode cX4_road 27 = .ok (.iastore, 1) := by decide +kernel
theorem dX4_road_28 : decode cX4_road 28 = .ok (.invokestatic 69, 3) := by decide +kernel
theorem dX4_road_31 : decode cX4_road 31 = .ok (.putfield 9, 3) := by decide +kernel
theorem dX4_road_34 : decode cX4_road 34 = .ok (.aload_n 0, 1) := by decide +kernel
theorem dX4_road_35 : decode cX4_road 35 = .ok (.getfield 15, 3) := by decide +kernel
theorem dX4_road_38 : decode cX4_road 38 = .ok (.iload_n 1, 1) := by decide +kernel
theorem dX4_road_39 : decode cX4_road 39 = .ok (.aload_n 0, 1) := by decide +kernel
theorem dX4_road_40 : decode cX4_road 40 = .ok (.getfield 15, 3) := by decide +kernel
theorem dX4_road_43 : decode cX4_road 43 = .ok (.iload_n 1, 1) := by decide +kernel
theorem dX4_road_44 : decode cX4_road 44 = .ok (.aaload, 1) := by decide +kernel
theorem dX4_road_45 : decode cX4_road 45 = .ok (.aload_n 0, 1) := by decide +kernel
theorem dX4_road_46 : decode cX4_road 46 = .ok (.getfield 9, 3) := by decide +kernel
theorem dX4_road_49 : decode cX4_road 49 = .ok (.arraylength, 1) := by decide +kernel
theorem dX4_road_50 : decode cX4_road 50 = .ok (.iconst 1, 1) := by decide +kernel
theorem dX4_road_51 : decode cX4_road 51 = .ok (.isub, 1) := by decide +kernel
theorem dX4_road_52 : decode cX4_road 52 = .ok (.invokestatic 73, 3) := by decide +kernel
theorem dX4_road_55 : decode cX4_road 55 = .ok (.aastore, 1) := by decide +kernel
theorem dX4_road_56 : decode cX4_road 56 = .ok (.aload_n 0, 1) := by decide +kernel
theorem dX4_road_57 : decode cX4_road 57 = .ok (.getfield 15, 3) := by decide +kernel
theorem dX4_road_60 : decode cX4_road 60 = .ok (.iload_n 2, 1) := by decide +kernel
theorem dX4_road_61 : decode cX4_road 61 = .ok (.aload_n 0, 1) := by decide +kernel
theorem dX4_road_62 : decode cX4_road 62 = .ok (.getfield 15, 3) := by decide +kernel
theorem dX4_road_65 : decode cX4_road 65 = .ok (.iload_n 2, 1) := by decide +kernel
theorem dX4_road_66 : decode cX4_road 66 = .ok (.aaload, 1) := by decide +kernel
theorem dX4_road_67 : decode cX4_road 67 = .ok (.aload_n 0, 1) := by decide +kernel
theorem dX4_road_68 : decode cX4_road 68 = .ok (.getfield 9, 3) := by decide +kernel
theorem dX4_road_71 : decode cX4_road 71 = .ok (.arraylength, 1) := by decide +kernel
theorem dX4_road_72 : decode cX4_road 72 = .ok (.iconst 1, 1) := by decide +kernel
theorem dX4_road_73 : decode cX4_road 73 = .ok (.isub, 1) := by decide +kernel
theorem dX4_road_74 : decode cX4_road 74 = .ok (.invokestatic 73, 3) := by decide +kernel
theorem dX4_road_77 : decode cX4_road 77 = .ok (.aastore, 1) := by decide +kernel
theorem dX4_road_78 : decode cX4_road 78 = .ok (.aload_n 0, 1) := by decide +kernel
theorem dX4_road_79 : decode cX4_road 79 = .ok (.getfield 15, 3) := by decide +kernel
theorem dX4_road_82 : decode cX4_road 82 = .ok (.iload_n 1, 1) := by decide +kernel
theorem dX4_road_83 : decode cX4_road 83 = .ok (.aaload, 1) := by decide +kernel
theorem dX4_road_84 : decode cX4_road 84 = .ok (.arraylength, 1) := by decide +kernel
theorem dX4_road_85 : decode cX4_road 85 = .ok (.iconst 1, 1) := by decide +kernel
theorem dX4_road_86 : decode cX4_road 86 = .ok (.isub, 1) := by decide +kernel
theorem dX4_road_87 : decode cX4_road 87 = .ok (.ireturn, 1) := by decide +kernel
theorem dX4_to_0 : decode cX4_to 0 = .ok (.aload_n 0, 1) := by decide +kernel
theorem dX4_to_1 : decode cX4_to 1 = .ok (.getfield 9, 3) := by decide +kernel
theorem dX4_to_4 : decode cX4_to 4 = .ok (.aload_n 0, 1) := by decide +kernel
theorem dX4_to_5 : decode cX4_to 5 = .ok (.getfield 15, 3) := by decide +kernel
theorem dX4_to_8 : decode cX4_to 8 = .ok (.iload_n 1, 1) := by decide +kernel
theorem dX4_to_9 : decode cX4_to 9 = .ok (.aaload, 1) := by decide +kernel
theorem dX4_to_10 : decode cX4_to 10 = .ok (.iload_n 2, 1) := by decide +kernel
theorem dX4_to_11 : decode cX4_to 11 = .ok (.iaload, 1) := by decide +kernel
theorem dX4_to_12 : decode cX4_to 12 = .ok (.aaload, 1) := by decide +kernel
theorem dX4_to_13 : decode cX4_to 13 = .ok (.astore_n 3, 1) := by decide +kernel
theorem dX4_to_14 : decode cX4_to 14 = .ok (.aload_n 3, 1) := by decide +kernel
theorem dX4_to_15 : decode cX4_to 15 = .ok (.iconst 0, 1) := by decide +kernel
theorem dX4_to_16 : decode cX4_to 16 = .ok (.iaload, 1) := by decide +kernel
theorem dX4_to_17 : decode cX4_to 17 = .ok (.iload_n 1, 1) := by decide +kernel
theorem dX4_to_18 : decode cX4_to 18 = .ok (.if_icmp .ne 9, 3) := by decide +kernel
theorem dX4_to_21 : decode cX4_to 21 = .ok (.aload_n 3, 1) := by decide +kernel
theorem dX4_to_22 : decode cX4_to 22 = .ok (.iconst 1, 1) := by decide +kernel
theorem dX4_to_23 : decode cX4_to 23 = .ok (.iaload, 1) := by decide +kernel
theorem dX4_to_24 : decode cX4_to 24 = .ok (.goto 6, 3) := by decide +kernel
theorem dX4_to_27 : decode cX4_to 27 = .ok (.aload_n 3, 1) := by decide +kernel
theorem dX4_to_28 : decode cX4_to 28 = .ok (.iconst 0, 1) := by decide +kernel
theorem dX4_to_29 : decode cX4_to 29 = .ok (.iaload, 1) := by decide +kernel
theorem dX4_to_30 : decode cX4_to 30 = .ok (.ireturn, 1) := by decide +kernel
theorem dX4_far_0 : decode cX4_far 0 = .ok (.aload_n 0, 1) := by decide +kernel
theorem dX4_far_1 : decode cX4_far 1 = .ok (.getfield 15, 3) := by decide +kernel
theorem dX4_far_4 : decode cX4_far 4 = .ok (.arraylength, 1) := by decide +kernel
theorem dX4_far_5 : decode cX4_far 5 = .ok (.newarray .int, 2) := by decide +kernel
theorem dX4_far_7 : decode cX4_far 7 = .ok (.astore_n 3, 1) := by decide +kernel
theorem dX4_far_8 : decode cX4_far 8 = .ok (.iconst 0, 1) := by decide +kernel
theorem dX4_far_9 : decode cX4_far 9 = .ok (.istore 4, 2) := by decide +kernel
theorem dX4_far_11 : decode cX4_far 11 = .ok (.iload 4, 2) := by decide +kernel
theorem dX4_far_13 : decode cX4_far 13 = .ok (.aload_n 3, 1) := by decide +kernel
theorem dX4_far_14 : decode cX4_far 14 = .ok (.arraylength, 1) := by decide +kernel
theorem dX4_far_15 : decode cX4_far 15 = .ok (.if_icmp .ge 26, 3) := by decide +kernel
theorem dX4_far_18 : decode cX4_far 18 = .ok (.aload_n 3, 1) := by decide +kernel
theorem dX4_far_19 : decode cX4_far 19 = .ok (.iload 4, 2) := by decide +kernel
theorem dX4_far_21 : decode cX4_far 21 = .ok (.iload 4, 2) := by decide +kernel
theorem dX4_far_23 : decode cX4_far 23 = .ok (.iload_n 1, 1) := by decide +kernel
theorem dX4_far_24 : decode cX4_far 24 = .ok (.if_icmp .ne 7, 3) := by decide +kernel
theorem dX4_far_27 : decode cX4_far 27 = .ok (.iconst 0, 1) := by decide +kernel
theorem dX4_far_28 : decode cX4_far 28 = .ok (.goto 6, 3) := by decide +kernel
theorem dX4_far_31 : decode cX4_far 31 = .ok (.sipush 9999, 3) := by decide +kernel
theorem dX4_far_34 : decode cX4_far 34 = .ok (.iastore, 1) := by decide +kernel
theorem dX4_far_35 : decode cX4_far 35 = .ok (.iinc 4 1, 3) := by decide +kernel
theorem dX4_far_38 : decode cX4_far 38 = .ok (.goto (-27), 3) := by decide +kernel
theorem dX4_far_41 : decode cX4_far 41 = .ok (.iconst 0, 1) := by decide +kernel
theorem dX4_far_42 : decode cX4_far 42 = .ok (.istore 4, 2) := by decide +kernel
theorem dX4_far_44 : decode cX4_far 44 = .ok (.iload 4, 2) := by decide +kernel
theorem dX4_far_46 : decode cX4_far 46 = .ok (.aload_n 3, 1) := by decide +kernel
theorem dX4_far_47 : decode cX4_far 47 = .ok (.arraylength, 1) := by decide +kernel
theorem dX4_far_48 : decode cX4_far 48 = .ok (.if_icmp .ge 105, 3) := by decide +kernel
theorem dX4_far_51 : decode cX4_far 51 = .ok (.aload_n 0, 1) := by decide +kernel
theorem dX4_far_52 : decode cX4_far 52 = .ok (.getfield 9, 3) := by decide +kernel
theorem dX4_far_55 : decode cX4_far 55 = .ok (.astore 5, 2) := by decide +kernel
theorem dX4_far_57 : decode cX4_far 57 = .ok (.aload 5, 2) := by decide +kernel
theorem dX4_far_59 : decode cX4_far 59 = .ok (.arraylength, 1) := by decide +kernel
theorem dX4_far_60 : decode cX4_far 60 = .ok (.istore 6, 2) := by decide +kernel
theorem dX4_far_62 : decode cX4_far 62 = .ok (.iconst 0, 1) := by decide +kernel
theorem dX4_far_63 : decode cX4_far 63 = .ok (.istore 7, 2) := by decide +kernel
theorem dX4_far_65 : decode cX4_far 65 = .ok (.iload 7, 2) := by decide +kernel
theorem dX4_far_67 : decode cX4_far 67 = .ok (.iload 6, 2) := by decide +kernel
theorem dX4_far_69 : decode cX4_far 69 = .ok (.if_icmp .ge 78, 3) := by decide +kernel
theorem dX4_far_72 : decode cX4_far 72 = .ok (.aload 5, 2) := by decide +kernel
theorem dX4_far_74 : decode cX4_far 74 = .ok (.iload 7, 2) := by decide +kernel
theorem dX4_far_76 : decode cX4_far 76 = .ok (.aaload, 1) := by decide +kernel
theorem dX4_far_77 : decode cX4_far 77 = .ok (.astore 8, 2) := by decide +kernel
theorem dX4_far_79 : decode cX4_far 79 = .ok (.aload 8, 2) := by decide +kernel
theorem dX4_far_81 : decode cX4_far 81 = .ok (.iconst 3, 1) := by decide +kernel
theorem dX4_far_82 : decode cX4_far 82 = .ok (.iaload, 1) := by decide +kernel
theorem dX4_far_83 : decode cX4_far 83 = .ok (.ifCond .ne 6, 3) := by decide +kernel
theorem dX4_far_86 : decode cX4_far 86 = .ok (.goto 55, 3) := by decide +kernel
theorem dX4_far_89 : decode cX4_far 89 = .ok (.aload_n 3, 1) := by decide +kernel
theorem dX4_far_90 : decode cX4_far 90 = .ok (.aload 8, 2) := by decide +kernel
theorem dX4_far_92 : decode cX4_far 92 = .ok (.iconst 0, 1) := by decide +kernel
theorem dX4_far_93 : decode cX4_far 93 = .ok (.iaload, 1) := by decide +kernel
theorem dX4_far_94 : decode cX4_far 94 = .ok (.aload_n 3, 1) := by decide +kernel
theorem dX4_far_95 : decode cX4_far 95 = .ok (.aload 8, 2) := by decide +kernel
theorem dX4_far_97 : decode cX4_far 97 = .ok (.iconst 0, 1) := by decide +kernel
theorem dX4_far_98 : decode cX4_far 98 = .ok (.iaload, 1) := by decide +kernel
theorem dX4_far_99 : decode cX4_far 99 = .ok (.iaload, 1) := by decide +kernel
theorem dX4_far_100 : decode cX4_far 100 = .ok (.aload_n 3, 1) := by decide +kernel
theorem dX4_far_101 : decode cX4_far 101 = .ok (.aload 8, 2) := by decide +kernel
theorem dX4_far_103 : decode cX4_far 103 = .ok (.iconst 1, 1) := by decide +kernel
theorem dX4_far_104 : decode cX4_far 104 = .ok (.iaload, 1) := by decide +kernel
theorem dX4_far_105 : decode cX4_far 105 = .ok (.iaload, 1) := by decide +kernel
theorem dX4_far_106 : decode cX4_far 106 = .ok (.aload 8, 2) := by decide +kernel
theorem dX4_far_108 : decode cX4_far 108 = .ok (.iconst 2, 1) := by decide +kernel
theorem dX4_far_109 : decode cX4_far 109 = .ok (.iaload, 1) := by decide +kernel
theorem dX4_far_110 : decode cX4_far 110 = .ok (.iadd, 1) := by decide +kernel
theorem dX4_far_111 : decode cX4_far 111 = .ok (.invokestatic 76, 3) := by decide +kernel
theorem dX4_far_114 : decode cX4_far 114 = .ok (.iastore, 1) := by decide +kernel
theorem dX4_far_115 : decode cX4_far 115 = .ok (.aload_n 3, 1) := by decide +kernel
theorem dX4_far_116 : decode cX4_far 116 = .ok (.aload 8, 2) := by decide +kernel
theorem dX4_far_118 : decode cX4_far 118 = .ok (.iconst 1, 1) := by decide +kernel
theorem dX4_far_119 : decode cX4_far 119 = .ok (.iaload, 1) := by decide +kernel
theorem dX4_far_120 : decode cX4_far 120 = .ok (.aload_n 3, 1) := by decide +kernel
theorem dX4_far_121 : decode cX4_far 121 = .ok (.aload 8, 2) := by decide +kernel
theorem dX4_far_123 : decode cX4_far 123 = .ok (.iconst 1, 1) := by decide +kernel
theorem dX4_far_124 : decode cX4_far 124 = .ok (.iaload, 1) := by decide +kernel
theorem dX4_far_125 : decode cX4_far 125 = .ok (.iaload, 1) := by decide +kernel
theorem dX4_far_126 : decode cX4_far 126 = .ok (.aload_n 3, 1) := by decide +kernel
theorem dX4_far_127 : decode cX4_far 127 = .ok (.aload 8, 2) := by decide +kernel
theorem dX4_far_129 : decode cX4_far 129 = .ok (.iconst 0, 1) := by decide +kernel
theorem dX4_far_130 : decode cX4_far 130 = .ok (.iaload, 1) := by decide +kernel
theorem dX4_far_131 : decode cX4_far 131 = .ok (.iaload, 1) := by decide +kernel
theorem dX4_far_132 : decode cX4_far 132 = .ok (.aload 8, 2) := by decide +kernel
theorem dX4_far_134 : decode cX4_far 134 = .ok (.iconst 2, 1) := by decide +kernel
theorem dX4_far_135 : decode cX4_far 135 = .ok (.iaload, 1) := by decide +kernel
theorem dX4_far_136 : decode cX4_far 136 = .ok (.iadd, 1) := by decide +kernel
theorem dX4_far_137 : decode cX4_far 137 = .ok (.invokestatic 76, 3) := by decide +kernel
theorem dX4_far_140 : decode cX4_far 140 = .ok (.iastore, 1) := by decide +kernel
theorem dX4_far_141 : decode cX4_far 141 = .ok (.iinc 7 1, 3) := by decide +kernel
theorem dX4_far_144 : decode cX4_far 144 = .ok (.goto (-79), 3) := by decide +kernel
theorem dX4_far_147 : decode cX4_far 147 = .ok (.iinc 4 1, 3) := by decide +kernel
theorem dX4_far_150 : decode cX4_far 150 = .ok (.goto (-106), 3) := by decide +kernel
theorem dX4_far_153 : decode cX4_far 153 = .ok (.sipush 9999, 3) := by decide +kernel
theorem dX4_far_156 : decode cX4_far 156 = .ok (.aload_n 3, 1) := by decide +kernel
theorem dX4_far_157 : decode cX4_far 157 = .ok (.iload_n 2, 1) := by decide +kernel
theorem dX4_far_158 : decode cX4_far 158 = .ok (.iaload, 1) := by decide +kernel
theorem dX4_far_159 : decode cX4_far 159 = .ok (.invokestatic 76, 3) := by decide +kernel
theorem dX4_far_162 : decode cX4_far 162 = .ok (.ireturn, 1) := by decide +kernel
theorem dX4_over_0 : decode cX4_over 0 = .ok (.aload_n 0, 1) := by decide +kernel
theorem dX4_over_1 : decode cX4_over 1 = .ok (.iconst (-1), 1) := by decide +kernel
theorem dX4_over_2 : decode cX4_over 2 = .ok (.putfield 29, 3) := by decide +kernel
theorem dX4_over_5 : decode cX4_over 5 = .ok (.aload_n 0, 1) := by decide +kernel
theorem dX4_over_6 : decode cX4_over 6 = .ok (.iconst 0, 1) := by decide +kernel
theorem dX4_over_7 : decode cX4_over 7 = .ok (.anewarray 7, 3) := by decide +kernel
theorem dX4_over_10 : decode cX4_over 10 = .ok (.putfield 32, 3) := by decide +kernel
theorem dX4_over_13 : decode cX4_over 13 = .ok (.aload_n 0, 1) := by decide +kernel
theorem dX4_over_14 : decode cX4_over 14 = .ok (.bipush 10, 2) := by decide +kernel
theorem dX4_over_16 : decode cX4_over 16 = .ok (.newarray .boolean, 2) := by decide +kernel
theorem dX4_over_18 : decode cX4_over 18 = .ok (.putfield 22, 3) := by decide +kernel
theorem dX4_over_21 : decode cX4_over 21 = .ok (.aload_n 0, 1) := by decide +kernel
theorem dX4_over_22 : decode cX4_over 22 = .ok (.getfield 9, 3) := by decide +kernel
theorem dX4_over_25 : decode cX4_over 25 = .ok (.astore_n 1, 1) := by decide +kernel
theorem dX4_over_26 : decode cX4_over 26 = .ok (.aload_n 1, 1) := by decide +kernel
theorem dX4_over_27 : decode cX4_over 27 = .ok (.arraylength, 1) := by decide +kernel
theorem dX4_over_28 : decode cX4_over 28 = .ok (.istore_n 2, 1) := by decide +kernel
theorem dX4_over_29 : decode cX4_over 29 = .ok (.iconst 0, 1) := by decide +kernel
theorem dX4_over_30 : decode cX4_over 30 = .ok (.istore_n 3, 1) := by decide +kernel
theorem dX4_over_31 : decode cX4_over 31 = .ok (.iload_n 3, 1) := by decide +kernel
theorem dX4_over_32 : decode cX4_over 32 = .ok (.iload_n 2, 1) := by decide +kernel
theorem dX4_over_33 : decode cX4_over 33 = .ok (.if_icmp .ge 19, 3) := by decide +kernel
theorem dX4_over_36 : decode cX4_over 36 = .ok (.aload_n 1, 1) := by decide +kernel
theorem dX4_over_37 : decode cX4_over 37 = .ok (.iload_n 3, 1) := by decide +kernel
theorem dX4_over_38 : decode cX4_over 38 = .ok (.aaload, 1) := by decide +kernel
theorem dX4_over_39 : decode cX4_over 39 = .ok (.astore 4, 2) := by decide +kernel
theorem dX4_over_41 : decode cX4_over 41 = .ok (.aload 4, 2) := by decide +kernel
theorem dX4_over_43 : decode cX4_over 43 = .ok (.iconst 4, 1) := by decide +kernel
theorem dX4_over_44 : decode cX4_over 44 = .ok (.iconst 0, 1) := by decide +kernel
theorem dX4_over_45 : decode cX4_over 45 = .ok (.iastore, 1) := by decide +kernel
theorem dX4_over_46 : decode cX4_over 46 = .ok (.iinc 3 1, 3) := by decide +kernel
theorem dX4_over_49 : decode cX4_over 49 = .ok (.goto (-18), 3) := by decide +kernel
theorem dX4_over_52 : decode cX4_over 52 = .ok (.return_, 1) := by decide +kernel
set_option maxRecDepth 20000 in
theorem ggX4_begin_X4_over : GoodIn wsX4_begin wsX4_over := goodIn_r _ [8, 3, 9, 10, 11, 12, 13, 14, 15, 16, 17, 18, 19, 20, 21, 22, 23, 24, 25, 26, 27] (by decide +kernel) (by decide +kernel)
set_option maxRecDepth 20000 in
theorem gX4_begin_X4_over : GoodIn wsX4_begin (wsV RX4 82 RX4 yX4_over wsX4_over) := goodIn_app (goodIn_of _ (by decide +kernel)) ggX4_begin_X4_over
theorem dX4_begin_0 : decode cX4_begin 0 = .ok (.iload_n 1, 1) := by decide +kernel
theorem dX4_begin_1 : decode cX4_begin 1 = .ok (.aload_n 0, 1) := by decide +kernel
theorem dX4_begin_2 : decode cX4_begin 2 = .ok (.getfield 25, 3) := by decide +kernel
theorem dX4_begin_5 : decode cX4_begin 5 = .ok (.if_icmp .ne 15, 3) := by decide +kernel
theorem dX4_begin_8 : decode cX4_begin 8 = .ok (.aload_n 0, 1) := by decide +kernel
theorem dX4_begin_9 : decode cX4_begin 9 = .ok (.dup, 1) := by decide +kernel
theorem dX4_begin_10 : decode cX4_begin 10 = .ok (.getfield 59, 3) := by decide +kernel
theorem dX4_begin_13 : decode cX4_begin 13 = .ok (.iconst 1, 1) := by decide +kernel
theorem dX4_begin_14 : decode cX4_begin 14 = .ok (.iadd, 1) := by decide +kernel
theorem dX4_begin_15 : decode cX4_begin 15 = .ok (.putfield 59, 3) := by decide +kernel
theorem dX4_begin_18 : decode cX4_begin 18 = .ok (.iconst 0, 1) := by decide +kernel
theorem dX4_begin_19 : decode cX4_begin 19 = .ok (.ireturn, 1) := by decide +kernel
theorem dX4_begin_20 : decode cX4_begin 20 = .ok (.aload_n 0, 1) := by decide +kernel
theorem dX4_begin_21 : decode cX4_begin 21 = .ok (.invokevirtual 82, 3) := by decide +kernel
theorem dX4_begin_24 : decode cX4_begin 24 = .ok (.aload_n 0, 1) := by decide +kernel
theorem dX4_begin_25 : decode cX4_begin 25 = .ok (.iload_n 1, 1) := by decide +kernel
theorem dX4_begin_26 : decode cX4_begin 26 = .ok (.putfield 29, 3) := by decide +kernel
theorem dX4_begin_29 : decode cX4_begin 29 = .ok (.iconst 1, 1) := by decide +kernel
theorem dX4_begin_30 : decode cX4_begin 30 = .ok (.ireturn, 1) := by decide +kernel
theorem dX4_isFree_0 : decode cX4_isFree 0 = .ok (.aload_n 0, 1) := by decide +kernel
theorem dX4_isFree_1 : decode cX4_isFree 1 = .ok (.getfield 9, 3) := by decide +kernel
theorem dX4_isFree_4 : decode cX4_isFree 4 = .ok (.aload_n 0, 1) := by decide +kernel
theorem dX4_isFree_5 : decode cX4_isFree 5 = .ok (.getfield 15, 3) := by decide +kernel
theorem dX4_isFree_8 : decode cX4_isFree 8 = .ok (.aload_n 0, 1) := by decide +kernel
theorem dX4_isFree_9 : decode cX4_isFree 9 = .ok (.getfield 25, 3) := by decide +kernel
theorem dX4_isFree_12 : decode cX4_isFree 12 = .ok (.aaload, 1) := by decide +kernel
theorem dX4_isFree_13 : decode cX4_isFree 13 = .ok (.iload_n 1, 1) := by decide +kernel
theorem dX4_isFree_14 : decode cX4_isFree 14 = .ok (.iaload, 1) := by decide +kernel
theorem dX4_isFree_15 : decode cX4_isFree 15 = .ok (.aaload, 1) := by decide +kernel
theorem dX4_isFree_16 : decode cX4_isFree 16 = .ok (.iconst 3, 1) := by decide +kernel
theorem dX4_isFree_17 : decode cX4_isFree 17 = .ok (.iaload, 1) := by decide +kernel
theorem dX4_isFree_18 : decode cX4_isFree 18 = .ok (.iconst 1, 1) := by decide +kernel
theorem dX4_isFree_19 : decode cX4_isFree 19 = .ok (.if_icmp .ne 28, 3) := by decide +kernel
theorem dX4_isFree_22 : decode cX4_isFree 22 = .ok (.aload_n 0, 1) := by decide +kernel
theorem dX4_isFree_23 : decode cX4_isFree 23 = .ok (.getfield 9, 3) := by decide +kernel
theorem dX4_isFree_26 : decode cX4_isFree 26 = .ok (.aload_n 0, 1) := by decide +kernel
theorem dX4_isFree_27 : decode cX4_isFree 27 = .ok (.getfield 15, 3) := by decide +kernel
theorem dX4_isFree_30 : decode cX4_isFree 30 = .ok (.aload_n 0, 1) := by decide +kernel
theorem dX4_isFree_31 : decode cX4_isFree 31 = .ok (.getfield 25, 3) := by decide +kernel
theorem dX4_isFree_34 : decode cX4_isFree 34 = .ok (.aaload, 1) := by decide +kernel
theorem dX4_isFree_35 : decode cX4_isFree 35 = .ok (.iload_n 1, 1) := by decide +kernel
theorem dX4_isFree_36 : decode cX4_isFree 36 = .ok (.iaload, 1) := by decide +kernel
theorem dX4_isFree_37 : decode cX4_isFree 37 = .ok (.aaload, 1) := by decide +kernel
theorem dX4_isFree_38 : decode cX4_isFree 38 = .ok (.iconst 4, 1) := by decide +kernel
theorem dX4_isFree_39 : decode cX4_isFree 39 = .ok (.iaload, 1) := by decide +kernel
theorem dX4_isFree_40 : decode cX4_isFree 40 = .ok (.ifCond .ne 7, 3) := by decide +kernel
theorem dX4_isFree_43 : decode cX4_isFree 43 = .ok (.iconst 1, 1) := by decide +kernel
theorem dX4_isFree_44 : decode cX4_isFree 44 = .ok (.goto 4, 3) := by decide +kernel
theorem dX4_isFree_47 : decode cX4_isFree 47 = .ok (.iconst 0, 1) := by decide +kernel
theorem dX4_isFree_48 : decode cX4_isFree 48 = .ok (.ireturn, 1) := by decide +kernel
set_option maxRecDepth 20000 in
theorem ggX4_chosen_X4_isFree : GoodIn wsX4_chosen wsX4_isFree := goodIn_r _ [15, 9, 8, 3, 28, 29, 30, 31, 32, 33, 34, 35, 36, 37, 38, 39, 40, 41] (by decide +kernel) (by decide +kernel)
set_option maxRecDepth 20000 in
theorem gX4_chosen_X4_isFree : GoodIn wsX4_chosen (wsV RX4 85 RX4 yX4_isFree wsX4_isFree) := goodIn_app (goodIn_of _ (by decide +kernel)) ggX4_chosen_X4_isFree
set_option maxRecDepth 20000 in
theorem ggX4_chosen_X4_to : GoodIn wsX4_chosen wsX4_to := goodIn_r _ [19, 9, 8, 28, 29, 30, 31, 32, 33, 34, 35, 36, 37, 38, 39, 40, 41] (by decide +kernel) (by decide +kernel)
set_option maxRecDepth 20000 in
theorem gX4_chosen_X4_to : GoodIn wsX4_chosen (wsV RX4 89 RX4 yX4_to wsX4_to) := goodIn_app (goodIn_of _ (by decide +kernel)) ggX4_chosen_X4_to
set_option maxRecDepth 20000 in
theorem ggX4_chosen_X4_far : GoodIn wsX4_chosen wsX4_far := goodIn_r _ [23, 8, 10, 9, 24, 25, 26, 27, 28, 29, 30, 31, 32, 33, 34, 35, 36, 37, 38, 39, 40, 41] (by decide +kernel) (by decide +kernel)
set_option maxRecDepth 20000 in
theorem gX4_chosen_X4_far : GoodIn wsX4_chosen (wsV RX4 92 RX4 yX4_far wsX4_far) := goodIn_app (goodIn_of _ (by decide +kernel)) ggX4_chosen_X4_far
theorem dX4_chosen_0 : decode cX4_chosen 0 = .ok (.aload_n 0, 1) := by decide +kernel
theorem dX4_chosen_1 : decode cX4_chosen 1 = .ok (.getfield 37, 3) := by decide +kernel
theorem dX4_chosen_4 : decode cX4_chosen 4 = .ok (.aload_n 0, 1) := by decide +kernel
theorem dX4_chosen_5 : decode cX4_chosen 5 = .ok (.getfield 29, 3) := by decide +kernel
theorem dX4_chosen_8 : decode cX4_chosen 8 = .ok (.aaload, 1) := by decide +kernel
theorem dX4_chosen_9 : decode cX4_chosen 9 = .ok (.aload_n 0, 1) := by decide +kernel
theorem dX4_chosen_10 : decode cX4_chosen 10 = .ok (.getfield 25, 3) := by decide +kernel
theorem dX4_chosen_13 : decode cX4_chosen 13 = .ok (.aaload, 1) := by decide +kernel
theorem dX4_chosen_14 : decode cX4_chosen 14 = .ok (.astore_n 1, 1) := by decide +kernel
theorem dX4_chosen_15 : decode cX4_chosen 15 = .ok (.aload_n 1, 1) := by decide +kernel
theorem dX4_chosen_16 : decode cX4_chosen 16 = .ok (.ifnull 17, 3) := by decide +kernel
theorem dX4_chosen_19 : decode cX4_chosen 19 = .ok (.aload_n 0, 1) := by decide +kernel
theorem dX4_chosen_20 : decode cX4_chosen 20 = .ok (.aload_n 1, 1) := by decide +kernel
theorem dX4_chosen_21 : decode cX4_chosen 21 = .ok (.iconst 0, 1) := by decide +kernel
theorem dX4_chosen_22 : decode cX4_chosen 22 = .ok (.iaload, 1) := by decide +kernel
theorem dX4_chosen_23 : decode cX4_chosen 23 = .ok (.invokevirtual 85, 3) := by decide +kernel
theorem dX4_chosen_26 : decode cX4_chosen 26 = .ok (.ifCond .eq 7, 3) := by decide +kernel
theorem dX4_chosen_29 : decode cX4_chosen 29 = .ok (.aload_n 1, 1) := by decide +kernel
theorem dX4_chosen_30 : decode cX4_chosen 30 = .ok (.iconst 0, 1) := by decide +kernel
theorem dX4_chosen_31 : decode cX4_chosen 31 = .ok (.iaload, 1) := by decide +kernel
theorem dX4_chosen_32 : decode cX4_chosen 32 = .ok (.ireturn, 1) := by decide +kernel
theorem dX4_chosen_33 : decode cX4_chosen 33 = .ok (.aload_n 0, 1) := by decide +kernel
theorem dX4_chosen_34 : decode cX4_chosen 34 = .ok (.getfield 18, 3) := by decide +kernel
theorem dX4_chosen_37 : decode cX4_chosen 37 = .ok (.aload_n 0, 1) := by decide +kernel
theorem dX4_chosen_38 : decode cX4_chosen 38 = .ok (.getfield 25, 3) := by decide +kernel
theorem dX4_chosen_41 : decode cX4_chosen 41 = .ok (.baload, 1) := by decide +kernel
theorem dX4_chosen_42 : decode cX4_chosen 42 = .ok (.ifCond .eq 206, 3) := by decide +kernel
theorem dX4_chosen_45 : decode cX4_chosen 45 = .ok (.aload_n 0, 1) := by decide +kernel
theorem dX4_chosen_46 : decode cX4_chosen 46 = .ok (.getfield 22, 3) := by decide +kernel
theorem dX4_chosen_49 : decode cX4_chosen 49 = .ok (.aload_n 0, 1) := by decide +kernel
theorem dX4_chosen_50 : decode cX4_chosen 50 = .ok (.getfield 25, 3) := by decide +kernel
theorem dX4_chosen_53 : decode cX4_chosen 53 = .ok (.baload, 1) := by decide +kernel
theorem dX4_chosen_54 : decode cX4_chosen 54 = .ok (.ifCond .ne 194, 3) := by decide +kernel
theorem dX4_chosen_57 : decode cX4_chosen 57 = .ok (.aload_n 0, 1) := by decide +kernel
theorem dX4_chosen_58 : decode cX4_chosen 58 = .ok (.getfield 50, 3) := by decide +kernel
theorem dX4_chosen_61 : decode cX4_chosen 61 = .ok (.ifCond .le 187, 3) := by decide +kernel
theorem dX4_chosen_64 : decode cX4_chosen 64 = .ok (.aload_n 0, 1) := by decide +kernel
theorem dX4_chosen_65 : decode cX4_chosen 65 = .ok (.dup, 1) := by decide +kernel
theorem dX4_chosen_66 : decode cX4_chosen 66 = .ok (.getfield 50, 3) := by decide +kernel
theorem dX4_chosen_69 : decode cX4_chosen 69 = .ok (.iconst 1, 1) := by decide +kernel
theorem dX4_chosen_70 : decode cX4_chosen 70 = .ok (.isub, 1) := by decide +kernel
theorem dX4_chosen_71 : decode cX4_chosen 71 = .ok (.putfield 50, 3) := by decide +kernel
theorem dX4_chosen_74 : decode cX4_chosen 74 = .ok (.aload_n 0, 1) := by decide +kernel
theorem dX4_chosen_75 : decode cX4_chosen 75 = .ok (.dup, 1) := by decide +kernel
theorem dX4_chosen_76 : decode cX4_chosen 76 = .ok (.getfield 65, 3) := by decide +kernel
theorem dX4_chosen_79 : decode cX4_chosen 79 = .ok (.iconst 1, 1) := by decide +kernel
theorem dX4_chosen_80 : decode cX4_chosen 80 = .ok (.iadd, 1) := by decide +kernel
theorem dX4_chosen_81 : decode cX4_chosen 81 = .ok (.putfield 65, 3) := by decide +kernel
theorem dX4_chosen_84 : decode cX4_chosen 84 = .ok (.aload_n 0, 1) := by decide +kernel
theorem dX4_chosen_85 : decode cX4_chosen 85 = .ok (.getfield 22, 3) := by decide +kernel
theorem dX4_chosen_88 : decode cX4_chosen 88 = .ok (.aload_n 0, 1) := by decide +kernel
theorem dX4_chosen_89 : decode cX4_chosen 89 = .ok (.getfield 25, 3) := by decide +kernel
theorem dX4_chosen_92 : decode cX4_chosen 92 = .ok (.iconst 1, 1) := by decide +kernel
theorem dX4_chosen_93 : decode cX4_chosen 93 = .ok (.bastore, 1) := by decide +kernel
theorem dX4_chosen_94 : decode cX4_chosen 94 = .ok (.iconst (-1), 1) := by decide +kernel
theorem dX4_chosen_95 : decode cX4_chosen 95 = .ok (.istore_n 2, 1) := by decide +kernel
theorem dX4_chosen_96 : decode cX4_chosen 96 = .ok (.sipush 9999, 3) := by decide +kernel
theorem dX4_chosen_99 : decode cX4_chosen 99 = .ok (.istore_n 3, 1) := by decide +kernel
theorem dX4_chosen_100 : decode cX4_chosen 100 = .ok (.aload_n 0, 1) := by decide +kernel
theorem dX4_chosen_101 : decode cX4_chosen 101 = .ok (.getfield 15, 3) := by decide +kernel
theorem dX4_chosen_104 : decode cX4_chosen 104 = .ok (.aload_n 0, 1) := by decide +kernel
theorem dX4_chosen_105 : decode cX4_chosen 105 = .ok (.getfield 25, 3) := by decide +kernel
theorem dX4_chosen_108 : decode cX4_chosen 108 = .ok (.aaload, 1) := by decide +kernel
theorem dX4_chosen_109 : decode cX4_chosen 109 = .ok (.arraylength, 1) := by decide +kernel
theorem dX4_chosen_110 : decode cX4_chosen 110 = .ok (.iconst 1, 1) := by decide +kernel
theorem dX4_chosen_111 : decode cX4_chosen 111 = .ok (.isub, 1) := by decide +kernel
theorem dX4_chosen_112 : decode cX4_chosen 112 = .ok (.istore 4, 2) := by decide +kernel
theorem dX4_chosen_114 : decode cX4_chosen 114 = .ok (.iload 4, 2) := by decide +kernel
theorem dX4_chosen_116 : decode cX4_chosen 116 = .ok (.ifCond .lt 89, 3) := by decide +kernel
theorem dX4_chosen_119 : decode cX4_chosen 119 = .ok (.aload_n 0, 1) := by decide +kernel
theorem dX4_chosen_120 : decode cX4_chosen 120 = .ok (.getfield 9, 3) := by decide +kernel
theorem dX4_chosen_123 : decode cX4_chosen 123 = .ok (.aload_n 0, 1) := by decide +kernel
theorem dX4_chosen_124 : decode cX4_chosen 124 = .ok (.getfield 15, 3) := by decide +kernel
theorem dX4_chosen_127 : decode cX4_chosen 127 = .ok (.aload_n 0, 1) := by decide +kernel
theorem dX4_chosen_128 : decode cX4_chosen 128 = .ok (.getfield 25, 3) := by decide +kernel
theorem dX4_chosen_131 : decode cX4_chosen 131 = .ok (.aaload, 1) := by decide +kernel
theorem dX4_chosen_132 : decode cX4_chosen 132 = .ok (.iload 4, 2) := by decide +kernel
theorem dX4_chosen_134 : decode cX4_chosen 134 = .ok (.iaload, 1) := by decide +kernel
theorem dX4_chosen_135 : decode cX4_chosen 135 = .ok (.aaload, 1) := by decide +kernel
theorem dX4_chosen_136 : decode cX4_chosen 136 = .ok (.astore 5, 2) := by decide +kernel
theorem dX4_chosen_138 : decode cX4_chosen 138 = .ok (.aload 5, 2) := by decide +kernel
theorem dX4_chosen_140 : decode cX4_chosen 140 = .ok (.iconst 3, 1) := by decide +kernel
theorem dX4_chosen_141 : decode cX4_chosen 141 = .ok (.iaload, 1) := by decide +kernel
theorem dX4_chosen_142 : decode cX4_chosen 142 = .ok (.ifCond .ne 9, 3) := by decide +kernel
theorem dX4_chosen_145 : decode cX4_chosen 145 = .ok (.sipush 9999, 3) := by decide +kernel
theorem dX4_chosen_148 : decode cX4_chosen 148 = .ok (.goto 26, 3) := by decide +kernel
theorem dX4_chosen_151 : decode cX4_chosen 151 = .ok (.aload 5, 2) := by decide +kernel
theorem dX4_chosen_153 : decode cX4_chosen 153 = .ok (.iconst 2, 1) := by decide +kernel
theorem dX4_chosen_154 : decode cX4_chosen 154 = .ok (.iaload, 1) := by decide +kernel
theorem dX4_chosen_155 : decode cX4_chosen 155 = .ok (.aload_n 0, 1) := by decide +kernel
theorem dX4_chosen_156 : decode cX4_chosen 156 = .ok (.aload_n 0, 1) := by decide +kernel
theorem dX4_chosen_157 : decode cX4_chosen 157 = .ok (.aload_n 0, 1) := by decide +kernel
theorem dX4_chosen_158 : decode cX4_chosen 158 = .ok (.getfield 25, 3) := by decide +kernel
theorem dX4_chosen_161 : decode cX4_chosen 161 = .ok (.iload 4, 2) := by decide +kernel
theorem dX4_chosen_163 : decode cX4_chosen 163 = .ok (.invokevirtual 89, 3) := by decide +kernel
theorem dX4_chosen_166 : decode cX4_chosen 166 = .ok (.aload_n 0, 1) := by decide +kernel
theorem dX4_chosen_167 : decode cX4_chosen 167 = .ok (.getfield 29, 3) := by decide +kernel
theorem dX4_chosen_170 : decode cX4_chosen 170 = .ok (.invokevirtual 92, 3) := by decide +kernel
theorem dX4_chosen_173 : decode cX4_chosen 173 = .ok (.iadd, 1) := by decide +kernel
theorem dX4_chosen_174 : decode cX4_chosen 174 = .ok (.istore 6, 2) := by decide +kernel
theorem dX4_chosen_176 : decode cX4_chosen 176 = .ok (.iload 6, 2) := by decide +kernel
theorem dX4_chosen_178 : decode cX4_chosen 178 = .ok (.sipush 9999, 3) := by decide +kernel
theorem dX4_chosen_181 : decode cX4_chosen 181 = .ok (.if_icmp .ge 18, 3) := by decide +kernel
theorem dX4_chosen_184 : decode cX4_chosen 184 = .ok (.iload 6, 2) := by decide +kernel
theorem dX4_chosen_186 : decode cX4_chosen 186 = .ok (.iload_n 3, 1) := by decide +kernel
theorem dX4_chosen_187 : decode cX4_chosen 187 = .ok (.if_icmp .le 6, 3) := by decide +kernel
theorem dX4_chosen_190 : decode cX4_chosen 190 = .ok (.goto 9, 3) := by decide +kernel
theorem dX4_chosen_193 : decode cX4_chosen 193 = .ok (.iload 4, 2) := by decide +kernel
theorem dX4_chosen_195 : decode cX4_chosen 195 = .ok (.istore_n 2, 1) := by decide +kernel
theorem dX4_chosen_196 : decode cX4_chosen 196 = .ok (.iload 6, 2) := by decide +kernel
theorem dX4_chosen_198 : decode cX4_chosen 198 = .ok (.istore_n 3, 1) := by decide +kernel
theorem dX4_chosen_199 : decode cX4_chosen 199 = .ok (.iinc 4 (-1), 3) := by decide +kernel
theorem dX4_chosen_202 : decode cX4_chosen 202 = .ok (.goto (-88), 3) := by decide +kernel
theorem dX4_chosen_205 : decode cX4_chosen 205 = .ok (.iload_n 2, 1) := by decide +kernel
theorem dX4_chosen_206 : decode cX4_chosen 206 = .ok (.ifCond .lt 28, 3) := by decide +kernel
theorem dX4_chosen_209 : decode cX4_chosen 209 = .ok (.aload_n 0, 1) := by decide +kernel
theorem dX4_chosen_210 : decode cX4_chosen 210 = .ok (.getfield 37, 3) := by decide +kernel
theorem dX4_chosen_213 : decode cX4_chosen 213 = .ok (.aload_n 0, 1) := by decide +kernel
theorem dX4_chosen_214 : decode cX4_chosen 214 = .ok (.getfield 29, 3) := by decide +kernel
theorem dX4_chosen_217 : decode cX4_chosen 217 = .ok (.aaload, 1) := by decide +kernel
theorem dX4_chosen_218 : decode cX4_chosen 218 = .ok (.aload_n 0, 1) := by decide +kernel
theorem dX4_chosen_219 : decode cX4_chosen 219 = .ok (.getfield 25, 3) := by decide +kernel
theorem dX4_chosen_222 : decode cX4_chosen 222 = .ok (.iconst 2, 1) := by decide +kernel
theorem dX4_chosen_223 : decode cX4_chosen 223 = .ok (.newarray .int, 2) := by decide +kernel
theorem dX4_chosen_225 : decode cX4_chosen 225 = .ok (.dup, 1) := by decide +kernel
theorem dX4_chosen_226 : decode cX4_chosen 226 = .ok (.iconst 0, 1) := by decide +kernel
theorem dX4_chosen_227 : decode cX4_chosen 227 = .ok (.iload_n 2, 1) := by decide +kernel
theorem dX4_chosen_228 : decode cX4_chosen 228 = .ok (.iastore, 1) := by decide +kernel
theorem dX4_chosen_229 : decode cX4_chosen 229 = .ok (.dup, 1) := by decide +kernel
theorem dX4_chosen_230 : decode cX4_chosen 230 = .ok (.iconst 1, 1) := by decide +kernel
theorem dX4_chosen_231 : decode cX4_chosen 231 = .ok (.iconst 3, 1) := by decide +kernel
theorem dX4_chosen_232 : decode cX4_chosen 232 = .ok (.iastore, 1) := by decide +kernel
theorem dX4_chosen_233 : decode cX4_chosen 233 = .ok (.aastore, 1) := by decide +kernel
theorem dX4_chosen_234 : decode cX4_chosen 234 = .ok (.iload_n 2, 1) := by decide +kernel
theorem dX4_chosen_235 : decode cX4_chosen 235 = .ok (.ifCond .lt 13, 3) := by decide +kernel
theorem dX4_chosen_238 : decode cX4_chosen 238 = .ok (.aload_n 0, 1) := by decide +kernel
theorem dX4_chosen_239 : decode cX4_chosen 239 = .ok (.iload_n 2, 1) := by decide +kernel
theorem dX4_chosen_240 : decode cX4_chosen 240 = .ok (.invokevirtual 85, 3) := by decide +kernel
theorem dX4_chosen_243 : decode cX4_chosen 243 = .ok (.ifCond .eq 5, 3) := by decide +kernel
theorem dX4_chosen_246 : decode cX4_chosen 246 = .ok (.iload_n 2, 1) := by decide +kernel
theorem dX4_chosen_247 : decode cX4_chosen 247 = .ok (.ireturn, 1) := by decide +kernel
theorem dX4_chosen_248 : decode cX4_chosen 248 = .ok (.iconst 0, 1) := by decide +kernel
theorem dX4_chosen_249 : decode cX4_chosen 249 = .ok (.istore_n 2, 1) := by decide +kernel
theorem dX4_chosen_250 : decode cX4_chosen 250 = .ok (.iload_n 2, 1) := by decide +kernel
theorem dX4_chosen_251 : decode cX4_chosen 251 = .ok (.aload_n 0, 1) := by decide +kernel
theorem dX4_chosen_252 : decode cX4_chosen 252 = .ok (.getfield 15, 3) := by decide +kernel
theorem dX4_chosen_255 : decode cX4_chosen 255 = .ok (.aload_n 0, 1) := by decide +kernel
theorem dX4_chosen_256 : decode cX4_chosen 256 = .ok (.getfield 25, 3) := by decide +kernel
theorem dX4_chosen_259 : decode cX4_chosen 259 = .ok (.aaload, 1) := by decide +kernel
theorem dX4_chosen_260 : decode cX4_chosen 260 = .ok (.arraylength, 1) := by decide +kernel
theorem dX4_chosen_261 : decode cX4_chosen 261 = .ok (.if_icmp .ge 19, 3) := by decide +kernel
theorem dX4_chosen_264 : decode cX4_chosen 264 = .ok (.aload_n 0, 1) := by decide +kernel
theorem dX4_chosen_265 : decode cX4_chosen 265 = .ok (.iload_n 2, 1) := by decide +kernel
theorem dX4_chosen_266 : decode cX4_chosen 266 = .ok (.invokevirtual 85, 3) := by decide +kernel
theorem dX4_chosen_269 : decode cX4_chosen 269 = .ok (.ifCond .eq 5, 3) := by decide +kernel
theorem dX4_chosen_272 : decode cX4_chosen 272 = .ok (.iload_n 2, 1) := by decide +kernel
theorem dX4_chosen_273 : decode cX4_chosen 273 = .ok (.ireturn, 1) := by decide +kernel
theorem dX4_chosen_274 : decode cX4_chosen 274 = .ok (.iinc 2 1, 3) := by decide +kernel
theorem dX4_chosen_277 : decode cX4_chosen 277 = .ok (.goto (-27), 3) := by decide +kernel
theorem dX4_chosen_280 : decode cX4_chosen 280 = .ok (.iconst (-1), 1) := by decide +kernel
theorem dX4_chosen_281 : decode cX4_chosen 281 = .ok (.ireturn, 1) := by decide +kernel
set_option maxRecDepth 20000 in
theorem ggX4_step_X4_chosen : GoodIn wsX4_step wsX4_chosen := goodIn_r _ [21, 11, 10, 3, 22, 23, 24, 25, 2, 1, 5, 26, 27, 28, 20, 29, 30, 31, 32, 33, 34, 35, 36, 37, 12, 13, 14, 15, 46, 47, 48, 49, 50, 51, 52, 53, 54, 55, 56, 57, 58, 59] (by decide +kernel) (by decide +kernel)
set_option maxRecDepth 20000 in
theorem gX4_step_X4_chosen : GoodIn wsX4_step (wsV RX4 95 RX4 yX4_chosen wsX4_chosen) := goodIn_app (goodIn_of _ (by decide +kernel)) ggX4_step_X4_chosen
set_option maxRecDepth 20000 in
theorem ggX4_step_X4_more : GoodIn wsX4_step wsX4_more := goodIn_r _ [40, 8] (by decide +kernel) (by decide +kernel)
set_option maxRecDepth 20000 in
theorem gX4_step_X4_more : GoodIn wsX4_step (va_wsS RX4 69 yX4_more wsX4_more) := goodIn_app (goodIn_of _ (by decide +kernel)) ggX4_step_X4_more
set_option maxRecDepth 20000 in
theorem ggX4_step_X4_to : GoodIn wsX4_step wsX4_to := goodIn_r _ [33, 1, 2, 46, 47, 48, 49, 50, 51, 52, 53, 54, 55, 56, 57, 58, 59] (by decide +kernel) (by decide +kernel)
set_option maxRecDepth 20000 in
theorem gX4_step_X4_to : GoodIn wsX4_step (wsV RX4 89 RX4 yX4_to wsX4_to) := goodIn_app (goodIn_of _ (by decide +kernel)) ggX4_step_X4_to
set_option maxRecDepth 20000 in
theorem ggX4_step_X4_over : GoodIn wsX4_step wsX4_over := goodIn_r _ [44, 10, 8, 4, 45, 23, 1, 46, 47, 48, 49, 50, 51, 52, 53, 54, 55, 56, 57, 58, 59] (by decide +kernel) (by decide +kernel)
set_option maxRecDepth 20000 in
theorem gX4_step_X4_over : GoodIn wsX4_step (wsV RX4 82 RX4 yX4_over wsX4_over) := goodIn_app (goodIn_of _ (by decide +kernel)) ggX4_step_X4_over
theorem dX4_step_0 : decode cX4_step 0 = .ok (.aload_n 0, 1) := by decide +kernel
theorem dX4_step_1 : decode cX4_step 1 = .ok (.invokevirtual 95, 3) := by decide +kernel
theorem dX4_step_4 : decode cX4_step 4 = .ok (.istore_n 1, 1) := by decide +kernel
theorem dX4_step_5 : decode cX4_step 5 = .ok (.iload_n 1, 1) := by decide +kernel
theorem dX4_step_6 : decode cX4_step 6 = .ok (.ifCond .lt 77, 3) := by decide +kernel
theorem dX4_step_9 : decode cX4_step 9 = .ok (.aload_n 0, 1) := by decide +kernel
theorem dX4_step_10 : decode cX4_step 10 = .ok (.getfield 9, 3) := by decide +kernel
theorem dX4_step_13 : decode cX4_step 13 = .ok (.aload_n 0, 1) := by decide +kernel
theorem dX4_step_14 : decode cX4_step 14 = .ok (.getfield 15, 3) := by decide +kernel
theorem dX4_step_17 : decode cX4_step 17 = .ok (.aload_n 0, 1) := by decide +kernel
theorem dX4_step_18 : decode cX4_step 18 = .ok (.getfield 25, 3) := by decide +kernel
theorem dX4_step_21 : decode cX4_step 21 = .ok (.aaload, 1) := by decide +kernel
theorem dX4_step_22 : decode cX4_step 22 = .ok (.iload_n 1, 1) := by decide +kernel
theorem dX4_step_23 : decode cX4_step 23 = .ok (.iaload, 1) := by decide +kernel
theorem dX4_step_24 : decode cX4_step 24 = .ok (.aaload, 1) := by decide +kernel
theorem dX4_step_25 : decode cX4_step 25 = .ok (.astore_n 2, 1) := by decide +kernel
theorem dX4_step_26 : decode cX4_step 26 = .ok (.aload_n 2, 1) := by decide +kernel
theorem dX4_step_27 : decode cX4_step 27 = .ok (.iconst 4, 1) := by decide +kernel
theorem dX4_step_28 : decode cX4_step 28 = .ok (.iconst 1, 1) := by decide +kernel
theorem dX4_step_29 : decode cX4_step 29 = .ok (.iastore, 1) := by decide +kernel
theorem dX4_step_30 : decode cX4_step 30 = .ok (.aload_n 0, 1) := by decide +kernel
theorem dX4_step_31 : decode cX4_step 31 = .ok (.aload_n 0, 1) := by decide +kernel
theorem dX4_step_32 : decode cX4_step 32 = .ok (.getfield 32, 3) := by decide +kernel
theorem dX4_step_35 : decode cX4_step 35 = .ok (.iconst 2, 1) := by decide +kernel
theorem dX4_step_36 : decode cX4_step 36 = .ok (.newarray .int, 2) := by decide +kernel
theorem dX4_step_38 : decode cX4_step 38 = .ok (.dup, 1) := by decide +kernel
theorem dX4_step_39 : decode cX4_step 39 = .ok (.iconst 0, 1) := by decide +kernel
theorem dX4_step_40 : decode cX4_step 40 = .ok (.aload_n 0, 1) := by decide +kernel
theorem dX4_step_41 : decode cX4_step 41 = .ok (.getfield 25, 3) := by decide +kernel
theorem dX4_step_44 : decode cX4_step 44 = .ok (.iastore, 1) := by decide +kernel
theorem dX4_step_45 : decode cX4_step 45 = .ok (.dup, 1) := by decide +kernel
theorem dX4_step_46 : decode cX4_step 46 = .ok (.iconst 1, 1) := by decide +kernel
theorem dX4_step_47 : decode cX4_step 47 = .ok (.iload_n 1, 1) := by decide +kernel
theorem dX4_step_48 : decode cX4_step 48 = .ok (.iastore, 1) := by decide +kernel
theorem dX4_step_49 : decode cX4_step 49 = .ok (.invokestatic 69, 3) := by decide +kernel
theorem dX4_step_52 : decode cX4_step 52 = .ok (.putfield 32, 3) := by decide +kernel
theorem dX4_step_55 : decode cX4_step 55 = .ok (.aload_n 0, 1) := by decide +kernel
theorem dX4_step_56 : decode cX4_step 56 = .ok (.aload_n 0, 1) := by decide +kernel
theorem dX4_step_57 : decode cX4_step 57 = .ok (.aload_n 0, 1) := by decide +kernel
theorem dX4_step_58 : decode cX4_step 58 = .ok (.getfield 25, 3) := by decide +kernel
theorem dX4_step_61 : decode cX4_step 61 = .ok (.iload_n 1, 1) := by decide +kernel
theorem dX4_step_62 : decode cX4_step 62 = .ok (.invokevirtual 89, 3) := by decide +kernel
theorem dX4_step_65 : decode cX4_step 65 = .ok (.putfield 25, 3) := by decide +kernel
theorem dX4_step_68 : decode cX4_step 68 = .ok (.aload_n 0, 1) := by decide +kernel
theorem dX4_step_69 : decode cX4_step 69 = .ok (.dup, 1) := by decide +kernel
theorem dX4_step_70 : decode cX4_step 70 = .ok (.getfield 53, 3) := by decide +kernel
theorem dX4_step_73 : decode cX4_step 73 = .ok (.aload_n 2, 1) := by decide +kernel
theorem dX4_step_74 : decode cX4_step 74 = .ok (.iconst 2, 1) := by decide +kernel
theorem dX4_step_75 : decode cX4_step 75 = .ok (.iaload, 1) := by decide +kernel
theorem dX4_step_76 : decode cX4_step 76 = .ok (.iadd, 1) := by decide +kernel
theorem dX4_step_77 : decode cX4_step 77 = .ok (.putfield 53, 3) := by decide +kernel
theorem dX4_step_80 : decode cX4_step 80 = .ok (.goto 133, 3) := by decide +kernel
theorem dX4_step_83 : decode cX4_step 83 = .ok (.aload_n 0, 1) := by decide +kernel
theorem dX4_step_84 : decode cX4_step 84 = .ok (.getfield 32, 3) := by decide +kernel
theorem dX4_step_87 : decode cX4_step 87 = .ok (.arraylength, 1) := by decide +kernel
theorem dX4_step_88 : decode cX4_step 88 = .ok (.ifCond .ne 19, 3) := by decide +kernel
theorem dX4_step_91 : decode cX4_step 91 = .ok (.aload_n 0, 1) := by decide +kernel
theorem dX4_step_92 : decode cX4_step 92 = .ok (.dup, 1) := by decide +kernel
theorem dX4_step_93 : decode cX4_step 93 = .ok (.getfield 62, 3) := by decide +kernel
theorem dX4_step_96 : decode cX4_step 96 = .ok (.iconst 1, 1) := by decide +kernel
theorem dX4_step_97 : decode cX4_step 97 = .ok (.iadd, 1) := by decide +kernel
theorem dX4_step_98 : decode cX4_step 98 = .ok (.putfield 62, 3) := by decide +kernel
theorem dX4_step_101 : decode cX4_step 101 = .ok (.aload_n 0, 1) := by decide +kernel
theorem dX4_step_102 : decode cX4_step 102 = .ok (.invokevirtual 82, 3) := by decide +kernel
theorem dX4_step_105 : decode cX4_step 105 = .ok (.iconst 0, 1) := by decide +kernel
theorem dX4_step_106 : decode cX4_step 106 = .ok (.ireturn, 1) := by decide +kernel
theorem dX4_step_107 : decode cX4_step 107 = .ok (.aload_n 0, 1) := by decide +kernel
theorem dX4_step_108 : decode cX4_step 108 = .ok (.getfield 32, 3) := by decide +kernel
theorem dX4_step_111 : decode cX4_step 111 = .ok (.aload_n 0, 1) := by decide +kernel
theorem dX4_step_112 : decode cX4_step 112 = .ok (.getfield 32, 3) := by decide +kernel
theorem dX4_step_115 : decode cX4_step 115 = .ok (.arraylength, 1) := by decide +kernel
theorem dX4_step_116 : decode cX4_step 116 = .ok (.iconst 1, 1) := by decide +kernel
theorem dX4_step_117 : decode cX4_step 117 = .ok (.isub, 1) := by decide +kernel
theorem dX4_step_118 : decode cX4_step 118 = .ok (.aaload, 1) := by decide +kernel
theorem dX4_step_119 : decode cX4_step 119 = .ok (.astore_n 2, 1) := by decide +kernel
theorem dX4_step_120 : decode cX4_step 120 = .ok (.aload_n 0, 1) := by decide +kernel
theorem dX4_step_121 : decode cX4_step 121 = .ok (.getfield 32, 3) := by decide +kernel
theorem dX4_step_124 : decode cX4_step 124 = .ok (.arraylength, 1) := by decide +kernel
theorem dX4_step_125 : decode cX4_step 125 = .ok (.iconst 1, 1) := by decide +kernel
theorem dX4_step_126 : decode cX4_step 126 = .ok (.isub, 1) := by decide +kernel
theorem dX4_step_127 : decode cX4_step 127 = .ok (.anewarray 7, 3) := by decide +kernel
theorem dX4_step_130 : decode cX4_step 130 = .ok (.astore_n 3, 1) := by decide +kernel
theorem dX4_step_131 : decode cX4_step 131 = .ok (.iconst 0, 1) := by decide +kernel
theorem dX4_step_132 : decode cX4_step 132 = .ok (.istore 4, 2) := by decide +kernel
theorem dX4_step_134 : decode cX4_step 134 = .ok (.iload 4, 2) := by decide +kernel
theorem dX4_step_136 : decode cX4_step 136 = .ok (.aload_n 3, 1) := by decide +kernel
theorem dX4_step_137 : decode cX4_step 137 = .ok (.arraylength, 1) := by decide +kernel
theorem dX4_step_138 : decode cX4_step 138 = .ok (.if_icmp .ge 20, 3) := by decide +kernel
theorem dX4_step_141 : decode cX4_step 141 = .ok (.aload_n 3, 1) := by decide +kernel
theorem dX4_step_142 : decode cX4_step 142 = .ok (.iload 4, 2) := by decide +kernel
theorem dX4_step_144 : decode cX4_step 144 = .ok (.aload_n 0, 1) := by decide +kernel
theorem dX4_step_145 : decode cX4_step 145 = .ok (.getfield 32, 3) := by decide +kernel
theorem dX4_step_148 : decode cX4_step 148 = .ok (.iload 4, 2) := by decide +kernel
theorem dX4_step_150 : decode cX4_step 150 = .ok (.aaload, 1) := by decide +kernel
theorem dX4_step_151 : decode cX4_step 151 = .ok (.aastore, 1) := by decide +kernel
theorem dX4_step_152 : decode cX4_step 152 = .ok (.iinc 4 1, 3) := by decide +kernel
theorem dX4_step_155 : decode cX4_step 155 = .ok (.goto (-21), 3) := by decide +kernel
theorem dX4_step_158 : decode cX4_step 158 = .ok (.aload_n 0, 1) := by decide +kernel
theorem dX4_step_159 : decode cX4_step 159 = .ok (.aload_n 3, 1) := by decide +kernel
theorem dX4_step_160 : decode cX4_step 160 = .ok (.putfield 32, 3) := by decide +kernel
theorem dX4_step_163 : decode cX4_step 163 = .ok (.aload_n 0, 1) := by decide +kernel
theorem dX4_step_164 : decode cX4_step 164 = .ok (.aload_n 2, 1) := by decide +kernel
theorem dX4_step_165 : decode cX4_step 165 = .ok (.iconst 0, 1) := by decide +kernel
theorem dX4_step_166 : decode cX4_step 166 = .ok (.iaload, 1) := by decide +kernel
theorem dX4_step_167 : decode cX4_step 167 = .ok (.putfield 25, 3) := by decide +kernel
theorem dX4_step_170 : decode cX4_step 170 = .ok (.aload_n 0, 1) := by decide +kernel
theorem dX4_step_171 : decode cX4_step 171 = .ok (.getfield 9, 3) := by decide +kernel
theorem dX4_step_174 : decode cX4_step 174 = .ok (.aload_n 0, 1) := by decide +kernel
theorem dX4_step_175 : decode cX4_step 175 = .ok (.getfield 15, 3) := by decide +kernel
theorem dX4_step_178 : decode cX4_step 178 = .ok (.aload_n 2, 1) := by decide +kernel
theorem dX4_step_179 : decode cX4_step 179 = .ok (.iconst 0, 1) := by decide +kernel
theorem dX4_step_180 : decode cX4_step 180 = .ok (.iaload, 1) := by decide +kernel
theorem dX4_step_181 : decode cX4_step 181 = .ok (.aaload, 1) := by decide +kernel
theorem dX4_step_182 : decode cX4_step 182 = .ok (.aload_n 2, 1) := by decide +kernel
theorem dX4_step_183 : decode cX4_step 183 = .ok (.iconst 1, 1) := by decide +kernel
theorem dX4_step_184 : decode cX4_step 184 = .ok (.iaload, 1) := by decide +kernel
theorem dX4_step_185 : decode cX4_step 185 = .ok (.iaload, 1) := by decide +kernel
theorem dX4_step_186 : decode cX4_step 186 = .ok (.aaload, 1) := by decide +kernel
theorem dX4_step_187 : decode cX4_step 187 = .ok (.iconst 2, 1) := by decide +kernel
theorem dX4_step_188 : decode cX4_step 188 = .ok (.iaload, 1) := by decide +kernel
theorem dX4_step_189 : decode cX4_step 189 = .ok (.istore 4, 2) := by decide +kernel
theorem dX4_step_191 : decode cX4_step 191 = .ok (.aload_n 0, 1) := by decide +kernel
theorem dX4_step_192 : decode cX4_step 192 = .ok (.dup, 1) := by decide +kernel
theorem dX4_step_193 : decode cX4_step 193 = .ok (.getfield 53, 3) := by decide +kernel
theorem dX4_step_196 : decode cX4_step 196 = .ok (.iload 4, 2) := by decide +kernel
theorem dX4_step_198 : decode cX4_step 198 = .ok (.iadd, 1) := by decide +kernel
theorem dX4_step_199 : decode cX4_step 199 = .ok (.putfield 53, 3) := by decide +kernel
theorem dX4_step_202 : decode cX4_step 202 = .ok (.aload_n 0, 1) := by decide +kernel
theorem dX4_step_203 : decode cX4_step 203 = .ok (.dup, 1) := by decide +kernel
theorem dX4_step_204 : decode cX4_step 204 = .ok (.getfield 56, 3) := by decide +kernel
theorem dX4_step_207 : decode cX4_step 207 = .ok (.iload 4, 2) := by decide +kernel
theorem dX4_step_209 : decode cX4_step 209 = .ok (.iadd, 1) := by decide +kernel
theorem dX4_step_210 : decode cX4_step 210 = .ok (.putfield 56, 3) := by decide +kernel
theorem dX4_step_213 : decode cX4_step 213 = .ok (.aload_n 0, 1) := by decide +kernel
theorem dX4_step_214 : decode cX4_step 214 = .ok (.getfield 25, 3) := by decide +kernel
theorem dX4_step_217 : decode cX4_step 217 = .ok (.aload_n 0, 1) := by decide +kernel
theorem dX4_step_218 : decode cX4_step 218 = .ok (.getfield 29, 3) := by decide +kernel
theorem dX4_step_221 : decode cX4_step 221 = .ok (.if_icmp .eq 5, 3) := by decide +kernel
theorem dX4_step_224 : decode cX4_step 224 = .ok (.iconst 1, 1) := by decide +kernel
theorem dX4_step_225 : decode cX4_step 225 = .ok (.ireturn, 1) := by decide +kernel
theorem dX4_step_226 : decode cX4_step 226 = .ok (.aload_n 0, 1) := by decide +kernel
theorem dX4_step_227 : decode cX4_step 227 = .ok (.getfield 32, 3) := by decide +kernel
theorem dX4_step_230 : decode cX4_step 230 = .ok (.astore_n 2, 1) := by decide +kernel
theorem dX4_step_231 : decode cX4_step 231 = .ok (.aload_n 2, 1) := by decide +kernel
theorem dX4_step_232 : decode cX4_step 232 = .ok (.arraylength, 1) := by decide +kernel
theorem dX4_step_233 : decode cX4_step 233 = .ok (.istore_n 3, 1) := by decide +kernel
theorem dX4_step_234 : decode cX4_step 234 = .ok (.iconst 0, 1) := by decide +kernel
theorem dX4_step_235 : decode cX4_step 235 = .ok (.istore 4, 2) := by decide +kernel
theorem dX4_step_237 : decode cX4_step 237 = .ok (.iload 4, 2) := by decide +kernel
theorem dX4_step_239 : decode cX4_step 239 = .ok (.iload_n 3, 1) := by decide +kernel
theorem dX4_step_240 : decode cX4_step 240 = .ok (.if_icmp .ge 89, 3) := by decide +kernel
theorem dX4_step_243 : decode cX4_step 243 = .ok (.aload_n 2, 1) := by decide +kernel
theorem dX4_step_244 : decode cX4_step 244 = .ok (.iload 4, 2) := by decide +kernel
theorem dX4_step_246 : decode cX4_step 246 = .ok (.aaload, 1) := by decide +kernel
theorem dX4_step_247 : decode cX4_step 247 = .ok (.astore 5, 2) := by decide +kernel
theorem dX4_step_249 : decode cX4_step 249 = .ok (.aload_n 0, 1) := by decide +kernel
theorem dX4_step_250 : decode cX4_step 250 = .ok (.getfield 37, 3) := by decide +kernel
theorem dX4_step_253 : decode cX4_step 253 = .ok (.aload_n 0, 1) := by decide +kernel
theorem dX4_step_254 : decode cX4_step 254 = .ok (.getfield 29, 3) := by decide +kernel
theorem dX4_step_257 : decode cX4_step 257 = .ok (.aaload, 1) := by decide +kernel
theorem dX4_step_258 : decode cX4_step 258 = .ok (.aload 5, 2) := by decide +kernel
theorem dX4_step_260 : decode cX4_step 260 = .ok (.iconst 0, 1) := by decide +kernel
theorem dX4_step_261 : decode cX4_step 261 = .ok (.iaload, 1) := by decide +kernel
theorem dX4_step_262 : decode cX4_step 262 = .ok (.aaload, 1) := by decide +kernel
theorem dX4_step_263 : decode cX4_step 263 = .ok (.astore 6, 2) := by decide +kernel
theorem dX4_step_265 : decode cX4_step 265 = .ok (.aload_n 0, 1) := by decide +kernel
theorem dX4_step_266 : decode cX4_step 266 = .ok (.getfield 37, 3) := by decide +kernel
theorem dX4_step_269 : decode cX4_step 269 = .ok (.aload_n 0, 1) := by decide +kernel
theorem dX4_step_270 : decode cX4_step 270 = .ok (.getfield 29, 3) := by decide +kernel
theorem dX4_step_273 : decode cX4_step 273 = .ok (.aaload, 1) := by decide +kernel
theorem dX4_step_274 : decode cX4_step 274 = .ok (.aload 5, 2) := by decide +kernel
theorem dX4_step_276 : decode cX4_step 276 = .ok (.iconst 0, 1) := by decide +kernel
theorem dX4_step_277 : decode cX4_step 277 = .ok (.iaload, 1) := by decide +kernel
theorem dX4_step_278 : decode cX4_step 278 = .ok (.iconst 2, 1) := by decide +kernel
theorem dX4_step_279 : decode cX4_step 279 = .ok (.newarray .int, 2) := by decide +kernel
theorem dX4_step_281 : decode cX4_step 281 = .ok (.dup, 1) := by decide +kernel
theorem dX4_step_282 : decode cX4_step 282 = .ok (.iconst 0, 1) := by decide +kernel
theorem dX4_step_283 : decode cX4_step 283 = .ok (.aload 5, 2) := by decide +kernel
theorem dX4_step_285 : decode cX4_step 285 = .ok (.iconst 1, 1) := by decide +kernel
theorem dX4_step_286 : decode cX4_step 286 = .ok (.iaload, 1) := by decide +kernel
theorem dX4_step_287 : decode cX4_step 287 = .ok (.iastore, 1) := by decide +kernel
theorem dX4_step_288 : decode cX4_step 288 = .ok (.dup, 1) := by decide +kernel
theorem dX4_step_289 : decode cX4_step 289 = .ok (.iconst 1, 1) := by decide +kernel
theorem dX4_step_290 : decode cX4_step 290 = .ok (.aload 6, 2) := by decide +kernel
theorem dX4_step_292 : decode cX4_step 292 = .ok (.ifnull 28, 3) := by decide +kernel
theorem dX4_step_295 : decode cX4_step 295 = .ok (.aload 6, 2) := by decide +kernel
theorem dX4_step_297 : decode cX4_step 297 = .ok (.iconst 0, 1) := by decide +kernel
theorem dX4_step_298 : decode cX4_step 298 = .ok (.iaload, 1) := by decide +kernel
theorem dX4_step_299 : decode cX4_step 299 = .ok (.aload 5, 2) := by decide +kernel
theorem dX4_step_301 : decode cX4_step 301 = .ok (.iconst 1, 1) := by decide +kernel
theorem dX4_step_302 : decode cX4_step 302 = .ok (.iaload, 1) := by decide +kernel
theorem dX4_step_303 : decode cX4_step 303 = .ok (.if_icmp .ne 17, 3) := by decide +kernel
theorem dX4_step_306 : decode cX4_step 306 = .ok (.bipush 9, 2) := by decide +kernel
theorem dX4_step_308 : decode cX4_step 308 = .ok (.aload 6, 2) := by decide +kernel
theorem dX4_step_310 : decode cX4_step 310 = .ok (.iconst 1, 1) := by decide +kernel
theorem dX4_step_311 : decode cX4_step 311 = .ok (.iaload, 1) := by decide +kernel
theorem dX4_step_312 : decode cX4_step 312 = .ok (.iconst 3, 1) := by decide +kernel
theorem dX4_step_313 : decode cX4_step 313 = .ok (.iadd, 1) := by decide +kernel
theorem dX4_step_314 : decode cX4_step 314 = .ok (.invokestatic 76, 3) := by decide +kernel
theorem dX4_step_317 : decode cX4_step 317 = .ok (.goto 4, 3) := by decide +kernel
theorem dX4_step_320 : decode cX4_step 320 = .ok (.iconst 3, 1) := by decide +kernel
theorem dX4_step_321 : decode cX4_step 321 = .ok (.iastore, 1) := by decide +kernel
theorem dX4_step_322 : decode cX4_step 322 = .ok (.aastore, 1) := by decide +kernel
theorem dX4_step_323 : decode cX4_step 323 = .ok (.iinc 4 1, 3) := by decide +kernel
theorem dX4_step_326 : decode cX4_step 326 = .ok (.goto (-89), 3) := by decide +kernel
theorem dX4_step_329 : decode cX4_step 329 = .ok (.aload_n 0, 1) := by decide +kernel
theorem dX4_step_330 : decode cX4_step 330 = .ok (.dup, 1) := by decide +kernel
theorem dX4_step_331 : decode cX4_step 331 = .ok (.getfield 59, 3) := by decide +kernel
theorem dX4_step_334 : decode cX4_step 334 = .ok (.iconst 1, 1) := by decide +kernel
theorem dX4_step_335 : decode cX4_step 335 = .ok (.iadd, 1) := by decide +kernel
theorem dX4_step_336 : decode cX4_step 336 = .ok (.putfield 59, 3) := by decide +kernel
theorem dX4_step_339 : decode cX4_step 339 = .ok (.aload_n 0, 1) := by decide +kernel
theorem dX4_step_340 : decode cX4_step 340 = .ok (.invokevirtual 82, 3) := by decide +kernel
theorem dX4_step_343 : decode cX4_step 343 = .ok (.iconst 1, 1) := by decide +kernel
theorem dX4_step_344 : decode cX4_step 344 = .ok (.ireturn, 1) := by decide +kernel
set_option maxRecDepth 20000 in
theorem ggX4_go_X4_step : GoodIn wsX4_go wsX4_step := goodIn_r _ [6, 7, 8, 9, 10, 11, 12, 13, 14, 15, 1, 16, 17, 18, 19, 20, 21, 22, 23, 24, 5, 25, 26, 27, 28, 29, 30, 31, 32, 33, 34, 35, 36, 37, 38, 39, 40, 41, 42, 43, 44, 45, 46, 47, 48, 49, 50, 51, 52, 53, 54, 55, 56, 57, 58, 59, 60, 61, 62, 63] (by decide +kernel) (by decide +kernel)
set_option maxRecDepth 20000 in
theorem gX4_go_X4_step : GoodIn wsX4_go (wsV RX4 99 RX4 yX4_step wsX4_step) := goodIn_app (goodIn_of _ (by decide +kernel)) ggX4_go_X4_step
theorem dX4_go_0 : decode cX4_go 0 = .ok (.iconst 0, 1) := by decide +kernel
theorem dX4_go_1 : decode cX4_go 1 = .ok (.istore_n 2, 1) := by decide +kernel
theorem dX4_go_2 : decode cX4_go 2 = .ok (.iload_n 2, 1) := by decide +kernel
theorem dX4_go_3 : decode cX4_go 3 = .ok (.iload_n 1, 1) := by decide +kernel
theorem dX4_go_4 : decode cX4_go 4 = .ok (.if_icmp .ge 23, 3) := by decide +kernel
theorem dX4_go_7 : decode cX4_go 7 = .ok (.aload_n 0, 1) := by decide +kernel
theorem dX4_go_8 : decode cX4_go 8 = .ok (.getfield 29, 3) := by decide +kernel
theorem dX4_go_11 : decode cX4_go 11 = .ok (.ifCond .lt 16, 3) := by decide +kernel
theorem dX4_go_14 : decode cX4_go 14 = .ok (.aload_n 0, 1) := by decide +kernel
theorem dX4_go_15 : decode cX4_go 15 = .ok (.invokevirtual 99, 3) := by decide +kernel
theorem dX4_go_18 : decode cX4_go 18 = .ok (.ifCond .eq 9, 3) := by decide +kernel
theorem dX4_go_21 : decode cX4_go 21 = .ok (.iinc 2 1, 3) := by decide +kernel
theorem dX4_go_24 : decode cX4_go 24 = .ok (.goto (-22), 3) := by decide +kernel
theorem dX4_go_27 : decode cX4_go 27 = .ok (.iload_n 2, 1) := by decide +kernel
theorem dX4_go_28 : decode cX4_go 28 = .ok (.ireturn, 1) := by decide +kernel
theorem dX4_night_0 : decode cX4_night 0 = .ok (.iconst 0, 1) := by decide +kernel
theorem dX4_night_1 : decode cX4_night 1 = .ok (.istore_n 1, 1) := by decide +kernel
theorem dX4_night_2 : decode cX4_night 2 = .ok (.aload_n 0, 1) := by decide +kernel
theorem dX4_night_3 : decode cX4_night 3 = .ok (.getfield 37, 3) := by decide +kernel
theorem dX4_night_6 : decode cX4_night 6 = .ok (.astore_n 2, 1) := by decide +kernel
theorem dX4_night_7 : decode cX4_night 7 = .ok (.aload_n 2, 1) := by decide +kernel
theorem dX4_night_8 : decode cX4_night 8 = .ok (.arraylength, 1) := by decide +kernel
theorem dX4_night_9 : decode cX4_night 9 = .ok (.istore_n 3, 1) := by decide +kernel
theorem dX4_night_10 : decode cX4_night 10 = .ok (.iconst 0, 1) := by decide +kernel
theorem dX4_night_11 : decode cX4_night 11 = .ok (.istore 4, 2) := by decide +kernel
theorem dX4_night_13 : decode cX4_night 13 = .ok (.iload 4, 2) := by decide +kernel
theorem dX4_night_15 : decode cX4_night 15 = .ok (.iload_n 3, 1) := by decide +kernel
theorem dX4_night_16 : decode cX4_night 16 = .ok (.if_icmp .ge 112, 3) := by decide +kernel
theorem dX4_night_19 : decode cX4_night 19 = .ok (.aload_n 2, 1) := by decide +kernel
theorem dX4_night_20 : decode cX4_night 20 = .ok (.iload 4, 2) := by decide +kernel
theorem dX4_night_22 : decode cX4_night 22 = .ok (.aaload, 1) := by decide +kernel
theorem dX4_night_23 : decode cX4_night 23 = .ok (.astore 5, 2) := by decide +kernel
theorem dX4_night_25 : decode cX4_night 25 = .ok (.iconst 0, 1) := by decide +kernel
theorem dX4_night_26 : decode cX4_night 26 = .ok (.istore 6, 2) := by decide +kernel
theorem dX4_night_28 : decode cX4_night 28 = .ok (.iload 6, 2) := by decide +kernel
theorem dX4_night_30 : decode cX4_night 30 = .ok (.bipush 10, 2) := by decide +kernel
theorem dX4_night_32 : decode cX4_night 32 = .ok (.if_icmp .ge 90, 3) := by decide +kernel
theorem dX4_night_35 : decode cX4_night 35 = .ok (.aload 5, 2) := by decide +kernel
theorem dX4_night_37 : decode cX4_night 37 = .ok (.iload 6, 2) := by decide +kernel
theorem dX4_night_39 : decode cX4_night 39 = .ok (.aaload, 1) := by decide +kernel
theorem dX4_night_40 : decode cX4_night 40 = .ok (.ifnonnull 6, 3) := by decide +kernel
theorem dX4_night_43 : decode cX4_night 43 = .ok (.goto 73, 3) := by decide +kernel
theorem dX4_night_46 : decode cX4_night 46 = .ok (.aload 5, 2) := by decide +kernel
theorem dX4_night_48 : decode cX4_night 48 = .ok (.iload 6, 2) := by decide +kernel
theorem dX4_night_50 : decode cX4_night 50 = .ok (.aaload, 1) := by decide +kernel
theorem dX4_night_51 : decode cX4_night 51 = .ok (.iconst 1, 1) := by decide +kernel
theorem dX4_night_52 : decode cX4_night 52 = .ok (.iaload, 1) := by decide +kernel
theorem dX4_night_53 : decode cX4_night 53 = .ok (.iconst 1, 1) := by decide +kernel
theorem dX4_night_54 : decode cX4_night 54 = .ok (.if_icmp .ne 7, 3) := by decide +kernel
theorem dX4_night_57 : decode cX4_night 57 = .ok (.iconst 1, 1) := by decide +kernel
theorem dX4_night_58 : decode cX4_night 58 = .ok (.goto 4, 3) := by decide +kernel
theorem dX4_night_61 : decode cX4_night 61 = .ok (.iconst 0, 1) := by decide +kernel
theorem dX4_night_62 : decode cX4_night 62 = .ok (.istore 7, 2) := by decide +kernel
theorem dX4_night_64 : decode cX4_night 64 = .ok (.aload 5, 2) := by decide +kernel
theorem dX4_night_66 : decode cX4_night 66 = .ok (.iload 6, 2) := by decide +kernel
theorem dX4_night_68 : decode cX4_night 68 = .ok (.iload 7, 2) := by decide +kernel
theorem dX4_night_70 : decode cX4_night 70 = .ok (.ifCond .eq 7, 3) := by decide +kernel
theorem dX4_night_73 : decode cX4_night 73 = .ok (.aconst_null, 1) := by decide +kernel
theorem dX4_night_74 : decode cX4_night 74 = .ok (.goto 28, 3) := by decide +kernel
theorem dX4_night_77 : decode cX4_night 77 = .ok (.iconst 2, 1) := by decide +kernel
theorem dX4_night_78 : decode cX4_night 78 = .ok (.newarray .int, 2) := by decide +kernel
theorem dX4_night_80 : decode cX4_night 80 = .ok (.dup, 1) := by decide +kernel
theorem dX4_night_81 : decode cX4_night 81 = .ok (.iconst 0, 1) := by decide +kernel
theorem dX4_night_82 : decode cX4_night 82 = .ok (.aload 5, 2) := by decide +kernel
theorem dX4_night_84 : decode cX4_night 84 = .ok (.iload 6, 2) := by decide +kernel
theorem dX4_night_86 : decode cX4_night 86 = .ok (.aaload, 1) := by decide +kernel
theorem dX4_night_87 : decode cX4_night 87 = .ok (.iconst 0, 1) := by decide +kernel
theorem dX4_night_88 : decode cX4_night 88 = .ok (.iaload, 1) := by decide +kernel
theorem dX4_night_89 : decode cX4_night 89 = .ok (.iastore, 1) := by decide +kernel
theorem dX4_night_90 : decode cX4_night 90 = .ok (.dup, 1) := by decide +kernel
theorem dX4_night_91 : decode cX4_night 91 = .ok (.iconst 1, 1) := by decide +kernel
theorem dX4_night_92 : decode cX4_night 92 = .ok (.aload 5, 2) := by decide +kernel
theorem dX4_night_94 : decode cX4_night 94 = .ok (.iload 6, 2) := by decide +kernel
theorem dX4_night_96 : decode cX4_night 96 = .ok (.aaload, 1) := by decide +kernel
theorem dX4_night_97 : decode cX4_night 97 = .ok (.iconst 1, 1) := by decide +kernel
theorem dX4_night_98 : decode cX4_night 98 = .ok (.iaload, 1) := by decide +kernel
theorem dX4_night_99 : decode cX4_night 99 = .ok (.iconst 1, 1) := by decide +kernel
theorem dX4_night_100 : decode cX4_night 100 = .ok (.isub, 1) := by decide +kernel
theorem dX4_night_101 : decode cX4_night 101 = .ok (.iastore, 1) := by decide +kernel
theorem dX4_night_102 : decode cX4_night 102 = .ok (.aastore, 1) := by decide +kernel
theorem dX4_night_103 : decode cX4_night 103 = .ok (.iload_n 1, 1) := by decide +kernel
theorem dX4_night_104 : decode cX4_night 104 = .ok (.iload 7, 2) := by decide +kernel
theorem dX4_night_106 : decode cX4_night 106 = .ok (.ifCond .eq 7, 3) := by decide +kernel
theorem dX4_night_109 : decode cX4_night 109 = .ok (.iconst 1, 1) := by decide +kernel
theorem dX4_night_110 : decode cX4_night 110 = .ok (.goto 4, 3) := by decide +kernel
theorem dX4_night_113 : decode cX4_night 113 = .ok (.iconst 0, 1) := by decide +kernel
theorem dX4_night_114 : decode cX4_night 114 = .ok (.iadd, 1) := by decide +kernel
theorem dX4_night_115 : decode cX4_night 115 = .ok (.istore_n 1, 1) := by decide +kernel
theorem dX4_night_116 : decode cX4_night 116 = .ok (.iinc 6 1, 3) := by decide +kernel
theorem dX4_night_119 : decode cX4_night 119 = .ok (.goto (-91), 3) := by decide +kernel
theorem dX4_night_122 : decode cX4_night 122 = .ok (.iinc 4 1, 3) := by decide +kernel
theorem dX4_night_125 : decode cX4_night 125 = .ok (.goto (-112), 3) := by decide +kernel
theorem dX4_night_128 : decode cX4_night 128 = .ok (.iload_n 1, 1) := by decide +kernel
theorem dX4_night_129 : decode cX4_night 129 = .ok (.ireturn, 1) := by decide +kernel
set_option maxRecDepth 20000 in
theorem ggX4_knows_X4_to : GoodIn wsX4_knows wsX4_to := goodIn_r _ [9, 3, 4, 10, 11, 12, 13, 14, 15, 16, 17, 18, 19, 20, 21, 22, 23] (by decide +kernel) (by decide +kernel)
set_option maxRecDepth 20000 in
theorem gX4_knows_X4_to : GoodIn wsX4_knows (wsV RX4 89 RX4 yX4_to wsX4_to) := goodIn_app (goodIn_of _ (by decide +kernel)) ggX4_knows_X4_to
theorem dX4_knows_0 : decode cX4_knows 0 = .ok (.aload_n 0, 1) := by decide +kernel
theorem dX4_knows_1 : decode cX4_knows 1 = .ok (.getfield 25, 3) := by decide +kernel
theorem dX4_knows_4 : decode cX4_knows 4 = .ok (.istore_n 2, 1) := by decide +kernel
theorem dX4_knows_5 : decode cX4_knows 5 = .ok (.iconst 0, 1) := by decide +kernel
theorem dX4_knows_6 : decode cX4_knows 6 = .ok (.istore_n 3, 1) := by decide +kernel
theorem dX4_knows_7 : decode cX4_knows 7 = .ok (.iload_n 3, 1) := by decide +kernel
theorem dX4_knows_8 : decode cX4_knows 8 = .ok (.bipush 10, 2) := by decide +kernel
theorem dX4_knows_10 : decode cX4_knows 10 = .ok (.if_icmp .ge 64, 3) := by decide +kernel
theorem dX4_knows_13 : decode cX4_knows 13 = .ok (.iload_n 2, 1) := by decide +kernel
theorem dX4_knows_14 : decode cX4_knows 14 = .ok (.iload_n 1, 1) := by decide +kernel
theorem dX4_knows_15 : decode cX4_knows 15 = .ok (.if_icmp .ne 5, 3) := by decide +kernel
theorem dX4_knows_18 : decode cX4_knows 18 = .ok (.iconst 1, 1) := by decide +kernel
theorem dX4_knows_19 : decode cX4_knows 19 = .ok (.ireturn, 1) := by decide +kernel
theorem dX4_knows_20 : decode cX4_knows 20 = .ok (.aload_n 0, 1) := by decide +kernel
theorem dX4_knows_21 : decode cX4_knows 21 = .ok (.getfield 37, 3) := by decide +kernel
theorem dX4_knows_24 : decode cX4_knows 24 = .ok (.iload_n 1, 1) := by decide +kernel
theorem dX4_knows_25 : decode cX4_knows 25 = .ok (.aaload, 1) := by decide +kernel
theorem dX4_knows_26 : decode cX4_knows 26 = .ok (.iload_n 2, 1) := by decide +kernel
theorem dX4_knows_27 : decode cX4_knows 27 = .ok (.aaload, 1) := by decide +kernel
theorem dX4_knows_28 : decode cX4_knows 28 = .ok (.astore 4, 2) := by decide +kernel
theorem dX4_knows_30 : decode cX4_knows 30 = .ok (.aload 4, 2) := by decide +kernel
theorem dX4_knows_32 : decode cX4_knows 32 = .ok (.ifnull 24, 3) := by decide +kernel
theorem dX4_knows_35 : decode cX4_knows 35 = .ok (.aload_n 0, 1) := by decide +kernel
theorem dX4_knows_36 : decode cX4_knows 36 = .ok (.getfield 9, 3) := by decide +kernel
theorem dX4_knows_39 : decode cX4_knows 39 = .ok (.aload_n 0, 1) := by decide +kernel
theorem dX4_knows_40 : decode cX4_knows 40 = .ok (.getfield 15, 3) := by decide +kernel
theorem dX4_knows_43 : decode cX4_knows 43 = .ok (.iload_n 2, 1) := by decide +kernel
theorem dX4_knows_44 : decode cX4_knows 44 = .ok (.aaload, 1) := by decide +kernel
theorem dX4_knows_45 : decode cX4_knows 45 = .ok (.aload 4, 2) := by decide +kernel
theorem dX4_knows_47 : decode cX4_knows 47 = .ok (.iconst 0, 1) := by decide +kernel
theorem dX4_knows_48 : decode cX4_knows 48 = .ok (.iaload, 1) := by decide +kernel
theorem dX4_knows_49 : decode cX4_knows 49 = .ok (.iaload, 1) := by decide +kernel
theorem dX4_knows_50 : decode cX4_knows 50 = .ok (.aaload, 1) := by decide +kernel
theorem dX4_knows_51 : decode cX4_knows 51 = .ok (.iconst 3, 1) := by decide +kernel
theorem dX4_knows_52 : decode cX4_knows 52 = .ok (.iaload, 1) := by decide +kernel
theorem dX4_knows_53 : decode cX4_knows 53 = .ok (.ifCond .ne 5, 3) := by decide +kernel
theorem dX4_knows_56 : decode cX4_knows 56 = .ok (.iconst 0, 1) := by decide +kernel
theorem dX4_knows_57 : decode cX4_knows 57 = .ok (.ireturn, 1) := by decide +kernel
theorem dX4_knows_58 : decode cX4_knows 58 = .ok (.aload_n 0, 1) := by decide +kernel
theorem dX4_knows_59 : decode cX4_knows 59 = .ok (.iload_n 2, 1) := by decide +kernel
theorem dX4_knows_60 : decode cX4_knows 60 = .ok (.aload 4, 2) := by decide +kernel
theorem dX4_knows_62 : decode cX4_knows 62 = .ok (.iconst 0, 1) := by decide +kernel
theorem dX4_knows_63 : decode cX4_knows 63 = .ok (.iaload, 1) := by decide +kernel
theorem dX4_knows_64 : decode cX4_knows 64 = .ok (.invokevirtual 89, 3) := by decide +kernel
theorem dX4_knows_67 : decode cX4_knows 67 = .ok (.istore_n 2, 1) := by decide +kernel
theorem dX4_knows_68 : decode cX4_knows 68 = .ok (.iinc 3 1, 3) := by decide +kernel
theorem dX4_knows_71 : decode cX4_knows 71 = .ok (.goto (-64), 3) := by decide +kernel
theorem dX4_knows_74 : decode cX4_knows 74 = .ok (.iload_n 2, 1) := by decide +kernel
theorem dX4_knows_75 : decode cX4_knows 75 = .ok (.iload_n 1, 1) := by decide +kernel
theorem dX4_knows_76 : decode cX4_knows 76 = .ok (.if_icmp .ne 7, 3) := by decide +kernel
theorem dX4_knows_79 : decode cX4_knows 79 = .ok (.iconst 1, 1) := by decide +kernel
theorem dX4_knows_80 : decode cX4_knows 80 = .ok (.goto 4, 3) := by decide +kernel
theorem dX4_knows_83 : decode cX4_knows 83 = .ok (.iconst 0, 1) := by decide +kernel
theorem dX4_knows_84 : decode cX4_knows 84 = .ok (.ireturn, 1) := by decide +kernel
set_option maxRecDepth 20000 in
theorem ggX4_isSame_X3_places : GoodIn wsX4_isSame wsX3_places := goodIn_r _ [18, 19, 228, 229, 230, 231, 232, 233, 234, 235, 236, 237, 238] (by decide +kernel) (by decide +kernel)
set_option maxRecDepth 20000 in
theorem gX4_isSame_X3_places : GoodIn wsX4_isSame (wsV RX4 103 RX3 yX3_places wsX3_places) := goodIn_app (goodIn_of _ (by decide +kernel)) ggX4_isSame_X3_places
set_option maxRecDepth 20000 in
theorem ggX4_isSame_X3_whereIs : GoodIn wsX4_isSame wsX3_whereIs := goodIn_r _ [23, 19, 24, 228, 229, 230, 231, 232, 233, 234, 235, 236, 237, 238, 239, 240, 241, 242, 243, 244, 245, 246, 247, 248, 249, 250, 251, 252, 253] (by decide +kernel) (by decide +kernel)
set_option maxRecDepth 20000 in
theorem gX4_isSame_X3_whereIs : GoodIn wsX4_isSame (wsV RX4 108 RX3 yX3_whereIs wsX3_whereIs) := goodIn_app (goodIn_of _ (by decide +kernel)) ggX4_isSame_X3_whereIs
set_option maxRecDepth 20000 in
theorem ggX4_isSame_X3_coins : GoodIn wsX4_isSame wsX3_coins := goodIn_r _ [28, 24, 228, 229, 230, 239, 240, 241, 242, 243, 244, 245, 246, 247, 248, 249, 250, 251, 252, 253] (by decide +kernel) (by decide +kernel)
set_option maxRecDepth 20000 in
theorem gX4_isSame_X3_coins : GoodIn wsX4_isSame (wsV RX4 111 RX3 yX3_coins wsX3_coins) := goodIn_app (goodIn_of _ (by decide +kernel)) ggX4_isSame_X3_coins
set_option maxRecDepth 20000 in
theorem ggX4_isSame_X3_goal : GoodIn wsX4_isSame wsX3_goal := goodIn_r _ [32, 24, 228, 229, 230, 239, 240, 241, 242, 243, 244, 245, 246, 247, 248, 249, 250, 251, 252, 253] (by decide +kernel) (by decide +kernel)
set_option maxRecDepth 20000 in
theorem gX4_isSame_X3_goal : GoodIn wsX4_isSame (wsV RX4 113 RX3 yX3_goal wsX3_goal) := goodIn_app (goodIn_of _ (by decide +kernel)) ggX4_isSame_X3_goal
set_option maxRecDepth 20000 in
theorem ggX4_isSame_X3_wayLength : GoodIn wsX4_isSame wsX3_wayLength := goodIn_r _ [36, 24, 228, 229, 230, 239, 240, 241, 242, 243, 244, 245, 246, 247, 248, 249, 250, 251, 252, 253] (by decide +kernel) (by decide +kernel)
set_option maxRecDepth 20000 in
theorem gX4_isSame_X3_wayLength : GoodIn wsX4_isSame (wsV RX4 115 RX3 yX3_wayLength wsX3_wayLength) := goodIn_app (goodIn_of _ (by decide +kernel)) ggX4_isSame_X3_wayLength
set_option maxRecDepth 20000 in
theorem ggX4_isSame_X3_milesWalked : GoodIn wsX4_isSame wsX3_milesWalked := goodIn_r _ [40, 24, 228, 229, 230, 239, 240, 241, 242, 243, 244, 245, 246, 247, 248, 249, 250, 251, 252, 253] (by decide +kernel) (by decide +kernel)
set_option maxRecDepth 20000 in
theorem gX4_isSame_X3_milesWalked : GoodIn wsX4_isSame (wsV RX4 118 RX3 yX3_milesWalked wsX3_milesWalked) := goodIn_app (goodIn_of _ (by decide +kernel)) ggX4_isSame_X3_milesWalked
set_option maxRecDepth 20000 in
theorem ggX4_isSame_X3_milesDoubled : GoodIn wsX4_isSame wsX3_milesDoubled := goodIn_r _ [44, 24, 228, 229, 230, 239, 240, 241, 242, 243, 244, 245, 246, 247, 248, 249, 250, 251, 252, 253] (by decide +kernel) (by decide +kernel)
set_option maxRecDepth 20000 in
theorem gX4_isSame_X3_milesDoubled : GoodIn wsX4_isSame (wsV RX4 121 RX3 yX3_milesDoubled wsX3_milesDoubled) := goodIn_app (goodIn_of _ (by decide +kernel)) ggX4_isSame_X3_milesDoubled
set_option maxRecDepth 20000 in
theorem ggX4_isSame_X3_errandsDone : GoodIn wsX4_isSame wsX3_errandsDone := goodIn_r _ [48, 24, 228, 229, 230, 239, 240, 241, 242, 243, 244, 245, 246, 247, 248, 249, 250, 251, 252, 253] (by decide +kernel) (by decide +kernel)
set_option maxRecDepth 20000 in
theorem gX4_isSame_X3_errandsDone : GoodIn wsX4_isSame (wsV RX4 124 RX3 yX3_errandsDone wsX3_errandsDone) := goodIn_app (goodIn_of _ (by decide +kernel)) ggX4_isSame_X3_errandsDone
set_option maxRecDepth 20000 in
theorem ggX4_isSame_X3_errandsInVain : GoodIn wsX4_isSame wsX3_errandsInVain := goodIn_r _ [52, 24, 228, 229, 230, 239, 240, 241, 242, 243, 244, 245, 246, 247, 248, 249, 250, 251, 252, 253] (by decide +kernel) (by decide +kernel)
set_option maxRecDepth 20000 in
theorem gX4_isSame_X3_errandsInVain : GoodIn wsX4_isSame (wsV RX4 127 RX3 yX3_errandsInVain wsX3_errandsInVain) := goodIn_app (goodIn_of _ (by decide +kernel)) ggX4_isSame_X3_errandsInVain
set_option maxRecDepth 20000 in
theorem ggX4_isSame_X3_asked : GoodIn wsX4_isSame wsX3_asked := goodIn_r _ [56, 24, 228, 229, 230, 239, 240, 241, 242, 243, 244, 245, 246, 247, 248, 249, 250, 251, 252, 253] (by decide +kernel) (by decide +kernel)
set_option maxRecDepth 20000 in
theorem gX4_isSame_X3_asked : GoodIn wsX4_isSame (wsV RX4 130 RX3 yX3_asked wsX3_asked) := goodIn_app (goodIn_of _ (by decide +kernel)) ggX4_isSame_X3_asked
set_option maxRecDepth 20000 in
theorem ggX4_isSame_X3_exitsOf : GoodIn wsX4_isSame wsX3_exitsOf := goodIn_ca (goodIn_r _ [60, 19, 61, 62, 63, 17, 64, 65, 66, 67, 68, 69, 70, 71, 72, 228, 229, 230, 231, 232, 233, 234, 235, 236, 237, 238] (by decide +kernel) (by decide +kernel)) (goodIn_sub (fun _ h => List.mem_cons_of_mem _ (List.mem_append_right _ h)) (by decide +kernel))
set_option maxRecDepth 20000 in
theorem gX4_isSame_X3_exitsOf : GoodIn wsX4_isSame (wsV RX4 132 RX3 yX3_exitsOf wsX3_exitsOf) := goodIn_app (goodIn_of _ (by decide +kernel)) ggX4_isSame_X3_exitsOf
set_option maxRecDepth 20000 in
theorem ggX4_isSame_X3_hasShepherd : GoodIn wsX4_isSame wsX3_hasShepherd := goodIn_ca (goodIn_r _ [76, 19, 61, 62, 63, 17, 64, 65, 66, 67, 68, 69, 70, 71, 72, 228, 229, 230, 231, 232, 233, 234, 235, 236, 237, 238] (by decide +kernel) (by decide +kernel)) (goodIn_sub (fun _ h => List.mem_cons_of_mem _ (List.mem_append_right _ h)) (by decide +kernel))
set_option maxRecDepth 20000 in
theorem gX4_isSame_X3_hasShepherd : GoodIn wsX4_isSame (wsV RX4 136 RX3 yX3_hasShepherd wsX3_hasShepherd) := goodIn_app (goodIn_of _ (by decide +kernel)) ggX4_isSame_X3_hasShepherd
set_option maxRecDepth 20000 in
theorem ggX4_isSame_X3_knowsWay : GoodIn wsX4_isSame wsX3_knowsWay := goodIn_ca (goodIn_r _ [80, 24, 61, 62, 63, 17, 64, 65, 66, 19, 67, 68, 69, 70, 71, 72, 81, 82, 83, 84, 85, 86, 87, 88, 89, 90, 91, 92, 93, 94, 95, 96, 97, 98, 99, 100, 101, 102, 103, 104, 105, 106, 107, 108, 109, 110, 111, 112, 113, 114, 115, 116, 228, 229, 230, 231, 232, 233, 234, 235, 236, 237, 238, 239, 240, 241, 242, 243, 244, 245, 246, 247, 248, 249, 250, 251, 252, 253, 254, 255] (by decide +kernel) (by decide +kernel)) (goodIn_sub (fun _ h => List.mem_cons_of_mem _ (List.mem_append_right _ h)) (by decide +kernel))
set_option maxRecDepth 20000 in
theorem gX4_isSame_X3_knowsWay : GoodIn wsX4_isSame (wsV RX4 139 RX3 yX3_knowsWay wsX3_knowsWay) := goodIn_app (goodIn_of _ (by decide +kernel)) ggX4_isSame_X3_knowsWay
set_option maxRecDepth 20000 in
theorem ggX4_isSame_X4_knows : GoodIn wsX4_isSame wsX4_knows := goodIn_r _ [121, 2, 13, 12, 1, 122, 123, 124, 120, 125, 214, 215, 216, 217, 218, 219, 220, 221, 222, 223, 224, 225, 226, 227] (by decide +kernel) (by decide +kernel)
set_option maxRecDepth 20000 in
theorem gX4_isSame_X4_knows : GoodIn wsX4_isSame (wsV RX4 142 RX4 yX4_knows wsX4_knows) := goodIn_app (goodIn_of _ (by decide +kernel)) ggX4_isSame_X4_knows
end
section
set_option maxRecDepth 20000 in
theorem ggX4_isSame_X3_leadsTo : GoodIn wsX4_isSame wsX3_leadsTo := goodIn_ca (goodIn_r _ [129, 19, 130, 131, 132, 17, 133, 65, 66, 134, 100, 101, 70, 102, 103, 104, 68, 69, 71, 72, 135, 113, 114, 115, 116, 110, 111, 228, 229, 230, 231, 232, 233, 234, 235, 236, 237, 238] (by decide +kernel) (by decide +kernel)) (goodIn_sub (fun _ h => List.mem_cons_of_mem _ (List.mem_append_right _ h)) (by decide +kernel))
set_option maxRecDepth 20000 in
theorem gX4_isSame_X3_leadsTo : GoodIn wsX4_isSame (wsV RX4 145 RX3 yX3_leadsTo wsX3_leadsTo) := goodIn_app (goodIn_of _ (by decide +kernel)) ggX4_isSame_X3_leadsTo
set_option maxRecDepth 20000 in
theorem ggX4_isSame_X4_to : GoodIn wsX4_isSame wsX4_to := goodIn_r _ [125, 12, 1, 214, 215, 216, 217, 218, 219, 220, 221, 222, 223, 224, 225, 226, 227] (by decide +kernel) (by decide +kernel)
set_option maxRecDepth 20000 in
theorem gX4_isSame_X4_to : GoodIn wsX4_isSame (wsV RX4 89 RX4 yX4_to wsX4_to) := goodIn_app (goodIn_of _ (by decide +kernel)) ggX4_isSame_X4_to
set_option maxRecDepth 20000 in
theorem ggX4_isSame_X3_milesOf : GoodIn wsX4_isSame wsX3_milesOf := goodIn_ca (goodIn_r _ [139, 19, 130, 131, 132, 17, 133, 65, 66, 134, 100, 101, 70, 102, 103, 104, 68, 69, 71, 72, 140, 141, 142, 143, 144, 110, 111, 228, 229, 230, 231, 232, 233, 234, 235, 236, 237, 238] (by decide +kernel) (by decide +kernel)) (goodIn_sub (fun _ h => List.mem_cons_of_mem _ (List.mem_append_right _ h)) (by decide +kernel))
set_option maxRecDepth 20000 in
theorem gX4_isSame_X3_milesOf : GoodIn wsX4_isSame (wsV RX4 148 RX3 yX3_milesOf wsX3_milesOf) := goodIn_app (goodIn_of _ (by decide +kernel)) ggX4_isSame_X3_milesOf
set_option maxRecDepth 20000 in
theorem ggX4_isSame_X3_isOpen : GoodIn wsX4_isSame wsX3_isOpen := goodIn_ca (goodIn_r _ [148, 19, 130, 131, 132, 17, 133, 65, 66, 134, 100, 101, 70, 102, 103, 104, 68, 69, 71, 72, 149, 106, 107, 108, 109, 110, 111, 228, 229, 230, 231, 232, 233, 234, 235, 236, 237, 238] (by decide +kernel) (by decide +kernel)) (goodIn_sub (fun _ h => List.mem_cons_of_mem _ (List.mem_append_right _ h)) (by decide +kernel))
set_option maxRecDepth 20000 in
theorem gX4_isSame_X3_isOpen : GoodIn wsX4_isSame (wsV RX4 151 RX3 yX3_isOpen wsX3_isOpen) := goodIn_app (goodIn_of _ (by decide +kernel)) ggX4_isSame_X3_isOpen
set_option maxRecDepth 20000 in
theorem ggX4_isSame_X3_isTried : GoodIn wsX4_isSame wsX3_isTried := goodIn_ca (goodIn_r _ [153, 24, 130, 131, 132, 17, 133, 65, 66, 19, 134, 100, 101, 70, 102, 103, 104, 68, 69, 71, 72, 154, 155, 156, 84, 157, 158, 159, 160, 161, 162, 163, 110, 111, 228, 229, 230, 231, 232, 233, 234, 235, 236, 237, 238, 239, 240, 241, 242, 243, 244, 245, 246, 247, 248, 249, 250, 251, 252, 253] (by decide +kernel) (by decide +kernel)) (goodIn_sub (fun _ h => List.mem_cons_of_mem _ (List.mem_append_right _ h)) (by decide +kernel))
set_option maxRecDepth 20000 in
theorem gX4_isSame_X3_isTried : GoodIn wsX4_isSame (wsV RX4 155 RX3 yX3_isTried wsX3_isTried) := goodIn_app (goodIn_of _ (by decide +kernel)) ggX4_isSame_X3_isTried
set_option maxRecDepth 20000 in
theorem ggX4_isSame_X4_far : GoodIn wsX4_isSame wsX4_far := goodIn_r _ [167, 1, 168, 12, 169, 170, 171, 172, 214, 215, 216, 217, 218, 219, 220, 221, 222, 223, 224, 225, 226, 227] (by decide +kernel) (by decide +kernel)
set_option maxRecDepth 20000 in
theorem gX4_isSame_X4_far : GoodIn wsX4_isSame (wsV RX4 92 RX4 yX4_far wsX4_far) := goodIn_app (goodIn_of _ (by decide +kernel)) ggX4_isSame_X4_far
set_option maxRecDepth 20000 in
theorem ggX4_isSame_X3_remembered : GoodIn wsX4_isSame wsX3_remembered := goodIn_ca (goodIn_r _ [176, 24, 61, 62, 63, 17, 64, 65, 66, 19, 67, 68, 69, 70, 71, 72, 177, 90, 91, 92, 93, 94, 95, 96, 97, 98, 228, 229, 230, 239, 240, 241, 242, 243, 244, 245, 246, 247, 248, 249, 250, 251, 252, 253, 231, 232, 233, 234, 235, 236, 237, 238, 254, 255] (by decide +kernel) (by decide +kernel)) (goodIn_sub (fun _ h => List.mem_cons_of_mem _ (List.mem_append_right _ h)) (by decide +kernel))
set_option maxRecDepth 20000 in
theorem gX4_isSame_X3_remembered : GoodIn wsX4_isSame (wsV RX4 158 RX3 yX3_remembered wsX3_remembered) := goodIn_app (goodIn_of _ (by decide +kernel)) ggX4_isSame_X3_remembered
set_option maxRecDepth 20000 in
theorem ggX4_isSame_X3_strength : GoodIn wsX4_isSame wsX3_strength := goodIn_ca (goodIn_r _ [181, 24, 61, 62, 63, 17, 64, 65, 66, 19, 67, 68, 69, 70, 71, 72, 182, 183, 184, 92, 185, 94, 96, 97, 98, 228, 229, 230, 239, 240, 241, 242, 243, 244, 245, 246, 247, 248, 249, 250, 251, 252, 253, 231, 232, 233, 234, 235, 236, 237, 238, 254, 255] (by decide +kernel) (by decide +kernel)) (goodIn_sub (fun _ h => List.mem_cons_of_mem _ (List.mem_append_right _ h)) (by decide +kernel))
set_option maxRecDepth 20000 in
theorem gX4_isSame_X3_strength : GoodIn wsX4_isSame (wsV RX4 161 RX3 yX3_strength wsX3_strength) := goodIn_app (goodIn_of _ (by decide +kernel)) ggX4_isSame_X3_strength
set_option maxRecDepth 20000 in
theorem ggX4_isSame_X3_distance : GoodIn wsX4_isSame wsX3_distance := goodIn_ca (goodIn_r _ [189, 19, 61, 62, 63, 17, 64, 65, 66, 67, 68, 69, 70, 71, 72, 190, 191, 192, 193, 194, 195, 196, 197, 198, 199, 200, 201, 202, 203, 104, 204, 205, 206, 207, 109, 116, 144, 208, 209, 228, 229, 230, 231, 232, 233, 234, 235, 236, 237, 238] (by decide +kernel) (by decide +kernel)) (goodIn_sub (fun _ h => List.mem_cons_of_mem _ (List.mem_append_right _ h)) (by decide +kernel))
set_option maxRecDepth 20000 in
theorem gX4_isSame_X3_distance : GoodIn wsX4_isSame (wsV RX4 164 RX3 yX3_distance wsX3_distance) := goodIn_app (goodIn_of _ (by decide +kernel)) ggX4_isSame_X3_distance
set_option maxRecDepth 20000 in
theorem ggX4_isSame_X3_meanMiles : GoodIn wsX4_isSame wsX3_meanMiles := goodIn_r _ [213, 24, 228, 229, 230, 239, 240, 241, 242, 243, 244, 245, 246, 247, 248, 249, 250, 251, 252, 253] (by decide +kernel) (by decide +kernel)
set_option maxRecDepth 20000 in
theorem gX4_isSame_X3_meanMiles : GoodIn wsX4_isSame (wsV RX4 167 RX3 yX3_meanMiles wsX3_meanMiles) := goodIn_app (goodIn_of _ (by decide +kernel)) ggX4_isSame_X3_meanMiles
theorem dX4_isSame_0 : decode cX4_isSame 0 = .ok (.aload_n 0, 1) := by decide +kernel
theorem dX4_isSame_1 : decode cX4_isSame 1 = .ok (.getfield 15, 3) := by decide +kernel
theorem dX4_isSame_4 : decode cX4_isSame 4 = .ok (.arraylength, 1) := by decide +kernel
theorem dX4_isSame_5 : decode cX4_isSame 5 = .ok (.istore_n 2, 1) := by decide +kernel
theorem dX4_isSame_6 : decode cX4_isSame 6 = .ok (.aload_n 1, 1) := by decide +kernel
theorem dX4_isSame_7 : decode cX4_isSame 7 = .ok (.invokevirtual 103, 3) := by decide +kernel
theorem dX4_isSame_10 : decode cX4_isSame 10 = .ok (.iload_n 2, 1) := by decide +kernel
theorem dX4_isSame_11 : decode cX4_isSame 11 = .ok (.if_icmp .ne 103, 3) := by decide +kernel
theorem dX4_isSame_14 : decode cX4_isSame 14 = .ok (.aload_n 1, 1) := by decide +kernel
theorem dX4_isSame_15 : decode cX4_isSame 15 = .ok (.invokevirtual 108, 3) := by decide +kernel
theorem dX4_isSame_18 : decode cX4_isSame 18 = .ok (.aload_n 0, 1) := by decide +kernel
theorem dX4_isSame_19 : decode cX4_isSame 19 = .ok (.getfield 25, 3) := by decide +kernel
theorem dX4_isSame_22 : decode cX4_isSame 22 = .ok (.if_icmp .ne 92, 3) := by decide +kernel
theorem dX4_isSame_25 : decode cX4_isSame 25 = .ok (.aload_n 1, 1) := by decide +kernel
theorem dX4_isSame_26 : decode cX4_isSame 26 = .ok (.invokevirtual 111, 3) := by decide +kernel
theorem dX4_isSame_29 : decode cX4_isSame 29 = .ok (.aload_n 0, 1) := by decide +kernel
theorem dX4_isSame_30 : decode cX4_isSame 30 = .ok (.getfield 50, 3) := by decide +kernel
theorem dX4_isSame_33 : decode cX4_isSame 33 = .ok (.if_icmp .ne 81, 3) := by decide +kernel
theorem dX4_isSame_36 : decode cX4_isSame 36 = .ok (.aload_n 1, 1) := by decide +kernel
theorem dX4_isSame_37 : decode cX4_isSame 37 = .ok (.invokevirtual 113, 3) := by decide +kernel
theorem dX4_isSame_40 : decode cX4_isSame 40 = .ok (.aload_n 0, 1) := by decide +kernel
theorem dX4_isSame_41 : decode cX4_isSame 41 = .ok (.getfield 29, 3) := by decide +kernel
theorem dX4_isSame_44 : decode cX4_isSame 44 = .ok (.if_icmp .ne 70, 3) := by decide +kernel
theorem dX4_isSame_47 : decode cX4_isSame 47 = .ok (.aload_n 1, 1) := by decide +kernel
theorem dX4_isSame_48 : decode cX4_isSame 48 = .ok (.invokevirtual 115, 3) := by decide +kernel
theorem dX4_isSame_51 : decode cX4_isSame 51 = .ok (.aload_n 0, 1) := by decide +kernel
theorem dX4_isSame_52 : decode cX4_isSame 52 = .ok (.getfield 32, 3) := by decide +kernel
theorem dX4_isSame_55 : decode cX4_isSame 55 = .ok (.arraylength, 1) := by decide +kernel
theorem dX4_isSame_56 : decode cX4_isSame 56 = .ok (.if_icmp .ne 58, 3) := by decide +kernel
theorem dX4_isSame_59 : decode cX4_isSame 59 = .ok (.aload_n 1, 1) := by decide +kernel
theorem dX4_isSame_60 : decode cX4_isSame 60 = .ok (.invokevirtual 118, 3) := by decide +kernel
theorem dX4_isSame_63 : decode cX4_isSame 63 = .ok (.aload_n 0, 1) := by decide +kernel
theorem dX4_isSame_64 : decode cX4_isSame 64 = .ok (.getfield 53, 3) := by decide +kernel
theorem dX4_isSame_67 : decode cX4_isSame 67 = .ok (.if_icmp .ne 47, 3) := by decide +kernel
theorem dX4_isSame_70 : decode cX4_isSame 70 = .ok (.aload_n 1, 1) := by decide +kernel
theorem dX4_isSame_71 : decode cX4_isSame 71 = .ok (.invokevirtual 121, 3) := by decide +kernel
theorem dX4_isSame_74 : decode cX4_isSame 74 = .ok (.aload_n 0, 1) := by decide +kernel
theorem dX4_isSame_75 : decode cX4_isSame 75 = .ok (.getfield 56, 3) := by decide +kernel
theorem dX4_isSame_78 : decode cX4_isSame 78 = .ok (.if_icmp .ne 36, 3) := by decide +kernel
theorem dX4_isSame_81 : decode cX4_isSame 81 = .ok (.aload_n 1, 1) := by decide +kernel
theorem dX4_isSame_82 : decode cX4_isSame 82 = .ok (.invokevirtual 124, 3) := by decide +kernel
theorem dX4_isSame_85 : decode cX4_isSame 85 = .ok (.aload_n 0, 1) := by decide +kernel
theorem dX4_isSame_86 : decode cX4_isSame 86 = .ok (.getfield 59, 3) := by decide +kernel
theorem dX4_isSame_89 : decode cX4_isSame 89 = .ok (.if_icmp .ne 25, 3) := by decide +kernel
theorem dX4_isSame_92 : decode cX4_isSame 92 = .ok (.aload_n 1, 1) := by decide +kernel
theorem dX4_isSame_93 : decode cX4_isSame 93 = .ok (.invokevirtual 127, 3) := by decide +kernel
theorem dX4_isSame_96 : decode cX4_isSame 96 = .ok (.aload_n 0, 1) := by decide +kernel
theorem dX4_isSame_97 : decode cX4_isSame 97 = .ok (.getfield 62, 3) := by decide +kernel
theorem dX4_isSame_100 : decode cX4_isSame 100 = .ok (.if_icmp .ne 14, 3) := by decide +kernel
theorem dX4_isSame_103 : decode cX4_isSame 103 = .ok (.aload_n 1, 1) := by decide +kernel
theorem dX4_isSame_104 : decode cX4_isSame 104 = .ok (.invokevirtual 130, 3) := by decide +kernel
theorem dX4_isSame_107 : decode cX4_isSame 107 = .ok (.aload_n 0, 1) := by decide +kernel
theorem dX4_isSame_108 : decode cX4_isSame 108 = .ok (.getfield 65, 3) := by decide +kernel
theorem dX4_isSame_111 : decode cX4_isSame 111 = .ok (.if_icmp .eq 5, 3) := by decide +kernel
theorem dX4_isSame_114 : decode cX4_isSame 114 = .ok (.iconst 0, 1) := by decide +kernel
theorem dX4_isSame_115 : decode cX4_isSame 115 = .ok (.ireturn, 1) := by decide +kernel
theorem dX4_isSame_116 : decode cX4_isSame 116 = .ok (.iconst 0, 1) := by decide +kernel
theorem dX4_isSame_117 : decode cX4_isSame 117 = .ok (.istore_n 3, 1) := by decide +kernel
theorem dX4_isSame_118 : decode cX4_isSame 118 = .ok (.iload_n 3, 1) := by decide +kernel
theorem dX4_isSame_119 : decode cX4_isSame 119 = .ok (.iload_n 2, 1) := by decide +kernel
theorem dX4_isSame_120 : decode cX4_isSame 120 = .ok (.if_icmp .ge 276, 3) := by decide +kernel
theorem dX4_isSame_123 : decode cX4_isSame 123 = .ok (.aload_n 1, 1) := by decide +kernel
theorem dX4_isSame_124 : decode cX4_isSame 124 = .ok (.iload_n 3, 1) := by decide +kernel
theorem dX4_isSame_125 : decode cX4_isSame 125 = .ok (.invokevirtual 132, 3) := by decide +kernel
theorem dX4_isSame_128 : decode cX4_isSame 128 = .ok (.aload_n 0, 1) := by decide +kernel
theorem dX4_isSame_129 : decode cX4_isSame 129 = .ok (.getfield 15, 3) := by decide +kernel
theorem dX4_isSame_132 : decode cX4_isSame 132 = .ok (.iload_n 3, 1) := by decide +kernel
theorem dX4_isSame_133 : decode cX4_isSame 133 = .ok (.aaload, 1) := by decide +kernel
theorem dX4_isSame_134 : decode cX4_isSame 134 = .ok (.arraylength, 1) := by decide +kernel
theorem dX4_isSame_135 : decode cX4_isSame 135 = .ok (.if_icmp .ne 30, 3) := by decide +kernel
theorem dX4_isSame_138 : decode cX4_isSame 138 = .ok (.aload_n 1, 1) := by decide +kernel
theorem dX4_isSame_139 : decode cX4_isSame 139 = .ok (.iload_n 3, 1) := by decide +kernel
theorem dX4_isSame_140 : decode cX4_isSame 140 = .ok (.invokevirtual 136, 3) := by decide +kernel
theorem dX4_isSame_143 : decode cX4_isSame 143 = .ok (.aload_n 0, 1) := by decide +kernel
theorem dX4_isSame_144 : decode cX4_isSame 144 = .ok (.getfield 18, 3) := by decide +kernel
theorem dX4_isSame_147 : decode cX4_isSame 147 = .ok (.iload_n 3, 1) := by decide +kernel
theorem dX4_isSame_148 : decode cX4_isSame 148 = .ok (.baload, 1) := by decide +kernel
theorem dX4_isSame_149 : decode cX4_isSame 149 = .ok (.if_icmp .ne 16, 3) := by decide +kernel
theorem dX4_isSame_152 : decode cX4_isSame 152 = .ok (.aload_n 1, 1) := by decide +kernel
theorem dX4_isSame_153 : decode cX4_isSame 153 = .ok (.iload_n 3, 1) := by decide +kernel
theorem dX4_isSame_154 : decode cX4_isSame 154 = .ok (.invokevirtual 139, 3) := by decide +kernel
theorem dX4_isSame_157 : decode cX4_isSame 157 = .ok (.aload_n 0, 1) := by decide +kernel
theorem dX4_isSame_158 : decode cX4_isSame 158 = .ok (.iload_n 3, 1) := by decide +kernel
theorem dX4_isSame_159 : decode cX4_isSame 159 = .ok (.invokevirtual 142, 3) := by decide +kernel
theorem dX4_isSame_162 : decode cX4_isSame 162 = .ok (.if_icmp .eq 5, 3) := by decide +kernel
theorem dX4_isSame_165 : decode cX4_isSame 165 = .ok (.iconst 0, 1) := by decide +kernel
theorem dX4_isSame_166 : decode cX4_isSame 166 = .ok (.ireturn, 1) := by decide +kernel
theorem dX4_isSame_167 : decode cX4_isSame 167 = .ok (.iconst 0, 1) := by decide +kernel
theorem dX4_isSame_168 : decode cX4_isSame 168 = .ok (.istore 4, 2) := by decide +kernel
theorem dX4_isSame_170 : decode cX4_isSame 170 = .ok (.iload 4, 2) := by decide +kernel
theorem dX4_isSame_172 : decode cX4_isSame 172 = .ok (.aload_n 0, 1) := by decide +kernel
theorem dX4_isSame_173 : decode cX4_isSame 173 = .ok (.getfield 15, 3) := by decide +kernel
theorem dX4_isSame_176 : decode cX4_isSame 176 = .ok (.iload_n 3, 1) := by decide +kernel
theorem dX4_isSame_177 : decode cX4_isSame 177 = .ok (.aaload, 1) := by decide +kernel
theorem dX4_isSame_178 : decode cX4_isSame 178 = .ok (.arraylength, 1) := by decide +kernel
theorem dX4_isSame_179 : decode cX4_isSame 179 = .ok (.if_icmp .ge 104, 3) := by decide +kernel
theorem dX4_isSame_182 : decode cX4_isSame 182 = .ok (.aload_n 0, 1) := by decide +kernel
theorem dX4_isSame_183 : decode cX4_isSame 183 = .ok (.getfield 9, 3) := by decide +kernel
theorem dX4_isSame_186 : decode cX4_isSame 186 = .ok (.aload_n 0, 1) := by decide +kernel
theorem dX4_isSame_187 : decode cX4_isSame 187 = .ok (.getfield 15, 3) := by decide +kernel
theorem dX4_isSame_190 : decode cX4_isSame 190 = .ok (.iload_n 3, 1) := by decide +kernel
theorem dX4_isSame_191 : decode cX4_isSame 191 = .ok (.aaload, 1) := by decide +kernel
theorem dX4_isSame_192 : decode cX4_isSame 192 = .ok (.iload 4, 2) := by decide +kernel
theorem dX4_isSame_194 : decode cX4_isSame 194 = .ok (.iaload, 1) := by decide +kernel
theorem dX4_isSame_195 : decode cX4_isSame 195 = .ok (.aaload, 1) := by decide +kernel
theorem dX4_isSame_196 : decode cX4_isSame 196 = .ok (.astore 5, 2) := by decide +kernel
theorem dX4_isSame_198 : decode cX4_isSame 198 = .ok (.aload_n 1, 1) := by decide +kernel
theorem dX4_isSame_199 : decode cX4_isSame 199 = .ok (.iload_n 3, 1) := by decide +kernel
theorem dX4_isSame_200 : decode cX4_isSame 200 = .ok (.iload 4, 2) := by decide +kernel
theorem dX4_isSame_202 : decode cX4_isSame 202 = .ok (.invokevirtual 145, 3) := by decide +kernel
theorem dX4_isSame_205 : decode cX4_isSame 205 = .ok (.aload_n 0, 1) := by decide +kernel
theorem dX4_isSame_206 : decode cX4_isSame 206 = .ok (.iload_n 3, 1) := by decide +kernel
theorem dX4_isSame_207 : decode cX4_isSame 207 = .ok (.iload 4, 2) := by decide +kernel
theorem dX4_isSame_209 : decode cX4_isSame 209 = .ok (.invokevirtual 89, 3) := by decide +kernel
theorem dX4_isSame_212 : decode cX4_isSame 212 = .ok (.if_icmp .ne 63, 3) := by decide +kernel
theorem dX4_isSame_215 : decode cX4_isSame 215 = .ok (.aload_n 1, 1) := by decide +kernel
theorem dX4_isSame_216 : decode cX4_isSame 216 = .ok (.iload_n 3, 1) := by decide +kernel
theorem dX4_isSame_217 : decode cX4_isSame 217 = .ok (.iload 4, 2) := by decide +kernel
theorem dX4_isSame_219 : decode cX4_isSame 219 = .ok (.invokevirtual 148, 3) := by decide +kernel
theorem dX4_isSame_222 : decode cX4_isSame 222 = .ok (.aload 5, 2) := by decide +kernel
theorem dX4_isSame_224 : decode cX4_isSame 224 = .ok (.iconst 2, 1) := by decide +kernel
theorem dX4_isSame_225 : decode cX4_isSame 225 = .ok (.iaload, 1) := by decide +kernel
theorem dX4_isSame_226 : decode cX4_isSame 226 = .ok (.if_icmp .ne 49, 3) := by decide +kernel
theorem dX4_isSame_229 : decode cX4_isSame 229 = .ok (.aload_n 1, 1) := by decide +kernel
theorem dX4_isSame_230 : decode cX4_isSame 230 = .ok (.iload_n 3, 1) := by decide +kernel
theorem dX4_isSame_231 : decode cX4_isSame 231 = .ok (.iload 4, 2) := by decide +kernel
theorem dX4_isSame_233 : decode cX4_isSame 233 = .ok (.invokevirtual 151, 3) := by decide +kernel
theorem dX4_isSame_236 : decode cX4_isSame 236 = .ok (.aload 5, 2) := by decide +kernel
theorem dX4_isSame_238 : decode cX4_isSame 238 = .ok (.iconst 3, 1) := by decide +kernel
theorem dX4_isSame_239 : decode cX4_isSame 239 = .ok (.iaload, 1) := by decide +kernel
theorem dX4_isSame_240 : decode cX4_isSame 240 = .ok (.iconst 1, 1) := by decide +kernel
theorem dX4_isSame_241 : decode cX4_isSame 241 = .ok (.if_icmp .ne 7, 3) := by decide +kernel
theorem dX4_isSame_244 : decode cX4_isSame 244 = .ok (.iconst 1, 1) := by decide +kernel
theorem dX4_isSame_245 : decode cX4_isSame 245 = .ok (.goto 4, 3) := by decide +kernel
theorem dX4_isSame_248 : decode cX4_isSame 248 = .ok (.iconst 0, 1) := by decide +kernel
theorem dX4_isSame_249 : decode cX4_isSame 249 = .ok (.if_icmp .ne 26, 3) := by decide +kernel
theorem dX4_isSame_252 : decode cX4_isSame 252 = .ok (.aload_n 1, 1) := by decide +kernel
theorem dX4_isSame_253 : decode cX4_isSame 253 = .ok (.iload_n 3, 1) := by decide +kernel
theorem dX4_isSame_254 : decode cX4_isSame 254 = .ok (.iload 4, 2) := by decide +kernel
theorem dX4_isSame_256 : decode cX4_isSame 256 = .ok (.invokevirtual 155, 3) := by decide +kernel
theorem dX4_isSame_259 : decode cX4_isSame 259 = .ok (.aload 5, 2) := by decide +kernel
theorem dX4_isSame_261 : decode cX4_isSame 261 = .ok (.iconst 4, 1) := by decide +kernel
theorem dX4_isSame_262 : decode cX4_isSame 262 = .ok (.iaload, 1) := by decide +kernel
theorem dX4_isSame_263 : decode cX4_isSame 263 = .ok (.iconst 1, 1) := by decide +kernel
theorem dX4_isSame_264 : decode cX4_isSame 264 = .ok (.if_icmp .ne 7, 3) := by decide +kernel
theorem dX4_isSame_267 : decode cX4_isSame 267 = .ok (.iconst 1, 1) := by decide +kernel
theorem dX4_isSame_268 : decode cX4_isSame 268 = .ok (.goto 4, 3) := by decide +kernel
theorem dX4_isSame_271 : decode cX4_isSame 271 = .ok (.iconst 0, 1) := by decide +kernel
theorem dX4_isSame_272 : decode cX4_isSame 272 = .ok (.if_icmp .eq 5, 3) := by decide +kernel
theorem dX4_isSame_275 : decode cX4_isSame 275 = .ok (.iconst 0, 1) := by decide +kernel
theorem dX4_isSame_276 : decode cX4_isSame 276 = .ok (.ireturn, 1) := by decide +kernel
theorem dX4_isSame_277 : decode cX4_isSame 277 = .ok (.iinc 4 1, 3) := by decide +kernel
theorem dX4_isSame_280 : decode cX4_isSame 280 = .ok (.goto (-110), 3) := by decide +kernel
theorem dX4_isSame_283 : decode cX4_isSame 283 = .ok (.iconst 0, 1) := by decide +kernel
theorem dX4_isSame_284 : decode cX4_isSame 284 = .ok (.istore 4, 2) := by decide +kernel
theorem dX4_isSame_286 : decode cX4_isSame 286 = .ok (.iload 4, 2) := by decide +kernel
theorem dX4_isSame_288 : decode cX4_isSame 288 = .ok (.iload_n 2, 1) := by decide +kernel
theorem dX4_isSame_289 : decode cX4_isSame 289 = .ok (.if_icmp .ge 101, 3) := by decide +kernel
theorem dX4_isSame_292 : decode cX4_isSame 292 = .ok (.aload_n 0, 1) := by decide +kernel
theorem dX4_isSame_293 : decode cX4_isSame 293 = .ok (.getfield 37, 3) := by decide +kernel
theorem dX4_isSame_296 : decode cX4_isSame 296 = .ok (.iload_n 3, 1) := by decide +kernel
theorem dX4_isSame_297 : decode cX4_isSame 297 = .ok (.aaload, 1) := by decide +kernel
theorem dX4_isSame_298 : decode cX4_isSame 298 = .ok (.iload 4, 2) := by decide +kernel
theorem dX4_isSame_300 : decode cX4_isSame 300 = .ok (.aaload, 1) := by decide +kernel
theorem dX4_isSame_301 : decode cX4_isSame 301 = .ok (.astore 5, 2) := by decide +kernel
theorem dX4_isSame_303 : decode cX4_isSame 303 = .ok (.aload_n 0, 1) := by decide +kernel
theorem dX4_isSame_304 : decode cX4_isSame 304 = .ok (.iload_n 3, 1) := by decide +kernel
theorem dX4_isSame_305 : decode cX4_isSame 305 = .ok (.iload 4, 2) := by decide +kernel
theorem dX4_isSame_307 : decode cX4_isSame 307 = .ok (.invokevirtual 92, 3) := by decide +kernel
theorem dX4_isSame_310 : decode cX4_isSame 310 = .ok (.istore 6, 2) := by decide +kernel
theorem dX4_isSame_312 : decode cX4_isSame 312 = .ok (.aload_n 1, 1) := by decide +kernel
theorem dX4_isSame_313 : decode cX4_isSame 313 = .ok (.iload_n 3, 1) := by decide +kernel
theorem dX4_isSame_314 : decode cX4_isSame 314 = .ok (.iload 4, 2) := by decide +kernel
theorem dX4_isSame_316 : decode cX4_isSame 316 = .ok (.invokevirtual 158, 3) := by decide +kernel
theorem dX4_isSame_319 : decode cX4_isSame 319 = .ok (.aload 5, 2) := by decide +kernel
theorem dX4_isSame_321 : decode cX4_isSame 321 = .ok (.ifnonnull 7, 3) := by decide +kernel
theorem dX4_isSame_324 : decode cX4_isSame 324 = .ok (.iconst (-1), 1) := by decide +kernel
theorem dX4_isSame_325 : decode cX4_isSame 325 = .ok (.goto 7, 3) := by decide +kernel
theorem dX4_isSame_328 : decode cX4_isSame 328 = .ok (.aload 5, 2) := by decide +kernel
theorem dX4_isSame_330 : decode cX4_isSame 330 = .ok (.iconst 0, 1) := by decide +kernel
theorem dX4_isSame_331 : decode cX4_isSame 331 = .ok (.iaload, 1) := by decide +kernel
theorem dX4_isSame_332 : decode cX4_isSame 332 = .ok (.if_icmp .ne 50, 3) := by decide +kernel
theorem dX4_isSame_335 : decode cX4_isSame 335 = .ok (.aload_n 1, 1) := by decide +kernel
theorem dX4_isSame_336 : decode cX4_isSame 336 = .ok (.iload_n 3, 1) := by decide +kernel
theorem dX4_isSame_337 : decode cX4_isSame 337 = .ok (.iload 4, 2) := by decide +kernel
theorem dX4_isSame_339 : decode cX4_isSame 339 = .ok (.invokevirtual 161, 3) := by decide +kernel
theorem dX4_isSame_342 : decode cX4_isSame 342 = .ok (.aload 5, 2) := by decide +kernel
theorem dX4_isSame_344 : decode cX4_isSame 344 = .ok (.ifnonnull 7, 3) := by decide +kernel
theorem dX4_isSame_347 : decode cX4_isSame 347 = .ok (.iconst 0, 1) := by decide +kernel
theorem dX4_isSame_348 : decode cX4_isSame 348 = .ok (.goto 7, 3) := by decide +kernel
theorem dX4_isSame_351 : decode cX4_isSame 351 = .ok (.aload 5, 2) := by decide +kernel
theorem dX4_isSame_353 : decode cX4_isSame 353 = .ok (.iconst 1, 1) := by decide +kernel
theorem dX4_isSame_354 : decode cX4_isSame 354 = .ok (.iaload, 1) := by decide +kernel
theorem dX4_isSame_355 : decode cX4_isSame 355 = .ok (.if_icmp .ne 27, 3) := by decide +kernel
theorem dX4_isSame_358 : decode cX4_isSame 358 = .ok (.aload_n 1, 1) := by decide +kernel
theorem dX4_isSame_359 : decode cX4_isSame 359 = .ok (.iload_n 3, 1) := by decide +kernel
theorem dX4_isSame_360 : decode cX4_isSame 360 = .ok (.iload 4, 2) := by decide +kernel
theorem dX4_isSame_362 : decode cX4_isSame 362 = .ok (.invokevirtual 164, 3) := by decide +kernel
theorem dX4_isSame_365 : decode cX4_isSame 365 = .ok (.iload 6, 2) := by decide +kernel
theorem dX4_isSame_367 : decode cX4_isSame 367 = .ok (.sipush 9999, 3) := by decide +kernel
theorem dX4_isSame_370 : decode cX4_isSame 370 = .ok (.if_icmp .ne 7, 3) := by decide +kernel
theorem dX4_isSame_373 : decode cX4_isSame 373 = .ok (.iconst (-1), 1) := by decide +kernel
theorem dX4_isSame_374 : decode cX4_isSame 374 = .ok (.goto 5, 3) := by decide +kernel
theorem dX4_isSame_377 : decode cX4_isSame 377 = .ok (.iload 6, 2) := by decide +kernel
theorem dX4_isSame_379 : decode cX4_isSame 379 = .ok (.if_icmp .eq 5, 3) := by decide +kernel
theorem dX4_isSame_382 : decode cX4_isSame 382 = .ok (.iconst 0, 1) := by decide +kernel
theorem dX4_isSame_383 : decode cX4_isSame 383 = .ok (.ireturn, 1) := by decide +kernel
theorem dX4_isSame_384 : decode cX4_isSame 384 = .ok (.iinc 4 1, 3) := by decide +kernel
theorem dX4_isSame_387 : decode cX4_isSame 387 = .ok (.goto (-101), 3) := by decide +kernel
theorem dX4_isSame_390 : decode cX4_isSame 390 = .ok (.iinc 3 1, 3) := by decide +kernel
theorem dX4_isSame_393 : decode cX4_isSame 393 = .ok (.goto (-275), 3) := by decide +kernel
theorem dX4_isSame_396 : decode cX4_isSame 396 = .ok (.aload_n 1, 1) := by decide +kernel
theorem dX4_isSame_397 : decode cX4_isSame 397 = .ok (.invokevirtual 167, 3) := by decide +kernel
theorem dX4_isSame_400 : decode cX4_isSame 400 = .ok (.aload_n 0, 1) := by decide +kernel
theorem dX4_isSame_401 : decode cX4_isSame 401 = .ok (.getfield 59, 3) := by decide +kernel
theorem dX4_isSame_404 : decode cX4_isSame 404 = .ok (.aload_n 0, 1) := by decide +kernel
theorem dX4_isSame_405 : decode cX4_isSame 405 = .ok (.getfield 62, 3) := by decide +kernel
theorem dX4_isSame_408 : decode cX4_isSame 408 = .ok (.iadd, 1) := by decide +kernel
theorem dX4_isSame_409 : decode cX4_isSame 409 = .ok (.ifCond .ne 7, 3) := by decide +kernel
theorem dX4_isSame_412 : decode cX4_isSame 412 = .ok (.dconst 0, 1) := by decide +kernel
theorem dX4_isSame_413 : decode cX4_isSame 413 = .ok (.goto 19, 3) := by decide +kernel
theorem dX4_isSame_416 : decode cX4_isSame 416 = .ok (.aload_n 0, 1) := by decide +kernel
theorem dX4_isSame_417 : decode cX4_isSame 417 = .ok (.getfield 53, 3) := by decide +kernel
theorem dX4_isSame_420 : decode cX4_isSame 420 = .ok (.i2d, 1) := by decide +kernel
theorem dX4_isSame_421 : decode cX4_isSame 421 = .ok (.aload_n 0, 1) := by decide +kernel
theorem dX4_isSame_422 : decode cX4_isSame 422 = .ok (.getfield 59, 3) := by decide +kernel
theorem dX4_isSame_425 : decode cX4_isSame 425 = .ok (.aload_n 0, 1) := by decide +kernel
theorem dX4_isSame_426 : decode cX4_isSame 426 = .ok (.getfield 62, 3) := by decide +kernel
theorem dX4_isSame_429 : decode cX4_isSame 429 = .ok (.iadd, 1) := by decide +kernel
theorem dX4_isSame_430 : decode cX4_isSame 430 = .ok (.i2d, 1) := by decide +kernel
theorem dX4_isSame_431 : decode cX4_isSame 431 = .ok (.ddiv, 1) := by decide +kernel
theorem dX4_isSame_432 : decode cX4_isSame 432 = .ok (.dcmp .l, 1) := by decide +kernel
theorem dX4_isSame_433 : decode cX4_isSame 433 = .ok (.ifCond .ne 7, 3) := by decide +kernel
theorem dX4_isSame_436 : decode cX4_isSame 436 = .ok (.iconst 1, 1) := by decide +kernel
theorem dX4_isSame_437 : decode cX4_isSame 437 = .ok (.goto 4, 3) := by decide +kernel
theorem dX4_isSame_440 : decode cX4_isSame 440 = .ok (.iconst 0, 1) := by decide +kernel
theorem dX4_isSame_441 : decode cX4_isSame 441 = .ok (.ireturn, 1) := by decide +kernel
theorem dJ9_max_7cf53_0 : decode cJ9_max_7cf53 0 = .ok (.iload_n 0, 1) := by decide +kernel
theorem dJ9_max_7cf53_1 : decode cJ9_max_7cf53 1 = .ok (.iload_n 1, 1) := by decide +kernel
theorem dJ9_max_7cf53_2 : decode cJ9_max_7cf53 2 = .ok (.if_icmp .lt 7, 3) := by decide +kernel
theorem dJ9_max_7cf53_5 : decode cJ9_max_7cf53 5 = .ok (.iload_n 0, 1) := by decide +kernel
theorem dJ9_max_7cf53_6 : decode cJ9_max_7cf53 6 = .ok (.goto 4, 3) := by decide +kernel
theorem dJ9_max_7cf53_9 : decode cJ9_max_7cf53 9 = .ok (.iload_n 1, 1) := by decide +kernel
theorem dJ9_max_7cf53_10 : decode cJ9_max_7cf53 10 = .ok (.ireturn, 1) := by decide +kernel
theorem dJ9_min_7cf53_0 : decode cJ9_min_7cf53 0 = .ok (.iload_n 0, 1) := by decide +kernel
theorem dJ9_min_7cf53_1 : decode cJ9_min_7cf53 1 = .ok (.iload_n 1, 1) := by decide +kernel
theorem dJ9_min_7cf53_2 : decode cJ9_min_7cf53 2 = .ok (.if_icmp .gt 7, 3) := by decide +kernel
theorem dJ9_min_7cf53_5 : decode cJ9_min_7cf53 5 = .ok (.iload_n 0, 1) := by decide +kernel
theorem dJ9_min_7cf53_6 : decode cJ9_min_7cf53 6 = .ok (.goto 4, 3) := by decide +kernel
theorem dJ9_min_7cf53_9 : decode cJ9_min_7cf53 9 = .ok (.iload_n 1, 1) := by decide +kernel
theorem dJ9_min_7cf53_10 : decode cJ9_min_7cf53 10 = .ok (.ireturn, 1) := by decide +kernel
theorem dJ7_fill_53178_0 : decode cJ7_fill_53178 0 = .ok (.iconst 0, 1) := by decide +kernel
theorem dJ7_fill_53178_1 : decode cJ7_fill_53178 1 = .ok (.istore_n 2, 1) := by decide +kernel
theorem dJ7_fill_53178_2 : decode cJ7_fill_53178 2 = .ok (.aload_n 0, 1) := by decide +kernel
theorem dJ7_fill_53178_3 : decode cJ7_fill_53178 3 = .ok (.arraylength, 1) := by decide +kernel
theorem dJ7_fill_53178_4 : decode cJ7_fill_53178 4 = .ok (.istore_n 3, 1) := by decide +kernel
theorem dJ7_fill_53178_5 : decode cJ7_fill_53178 5 = .ok (.iload_n 2, 1) := by decide +kernel
theorem dJ7_fill_53178_6 : decode cJ7_fill_53178 6 = .ok (.iload_n 3, 1) := by decide +kernel
theorem dJ7_fill_53178_7 : decode cJ7_fill_53178 7 = .ok (.if_icmp .ge 13, 3) := by decide +kernel
theorem dJ7_fill_53178_10 : decode cJ7_fill_53178 10 = .ok (.aload_n 0, 1) := by decide +kernel
theorem dJ7_fill_53178_11 : decode cJ7_fill_53178 11 = .ok (.iload_n 2, 1) := by decide +kernel
theorem dJ7_fill_53178_12 : decode cJ7_fill_53178 12 = .ok (.iload_n 1, 1) := by decide +kernel
theorem dJ7_fill_53178_13 : decode cJ7_fill_53178 13 = .ok (.iastore, 1) := by decide +kernel
theorem dJ7_fill_53178_14 : decode cJ7_fill_53178 14 = .ok (.iinc 2 1, 3) := by decide +kernel
theorem dJ7_fill_53178_17 : decode cJ7_fill_53178 17 = .ok (.goto (-12), 3) := by decide +kernel
theorem dJ7_fill_53178_20 : decode cJ7_fill_53178 20 = .ok (.return_, 1) := by decide +kernel
end
section
/-! MY ROWS: a run's names (xG), what every method needs of the tables (xE), statics (xZ), worlds (xW); contracts, calls and ends over them. -/
abbrev xG : Type := va_G × (ClassId × ClassId × ClassId × ClassId) × (Nat → Nat)
abbrev xTy (G : xG) : List (ClassId × FieldType) := [(G.2.1.1, .int), (G.2.1.2.1, .boolean), (G.2.1.2.2.1, .array .int), (G.2.1.2.2.2, .array (.array .int))]
abbrev xAI (G : xG) (a n : Nat) (f : Nat → Int32) : Nat × va_E := (a, .inl (G.2.1.1, n, .inl f))
abbrev xAZ (G : xG) (a n : Nat) (f : Nat → Int32) : Nat × va_E := (a, .inl (G.2.1.2.1, n, .inl f))
abbrev xAA (G : xG) (a n : Nat) (f : Nat → Option Nat) : Nat × va_E := (a, .inl (G.2.1.2.2.1, n, .inr (.inr (.inr (.inr f)))))
abbrev xAB (G : xG) (a n : Nat) (f : Nat → Option Nat) : Nat × va_E := (a, .inl (G.2.1.2.2.2, n, .inr (.inr (.inr (.inr f)))))
abbrev xO (a ci : Nat) (fs : List Value) : Nat × va_E := (a, .inr (ci, fs))
abbrev xIO : String := "java/lang/IndexOutOfBoundsException"
abbrev xIA : String := "java/lang/IllegalArgumentException"
abbrev xIS : String := "java/lang/IllegalStateException"
def xNest : List Cond := [
  .methodLinkNest RX3 11 yX1_init "MapCarrier",
  .fieldLinkNest RX3 28 "MapCarrier$Land" "places" "I" "MapCarrier",
  .fieldLinkNest RX3 119 "MapCarrier$Land" "exits" "[I" "MapCarrier",
  .fieldLinkNest RX3 69 "MapCarrier$Land" "shepherds" "[Z" "MapCarrier",
  .fieldLinkNest RX0 111 "MapCarrier$Land" "shepherds" "[Z" "MapCarrier",
  .fieldLinkNest RX0 93 "MapCarrier$Land" "open" "[Z" "MapCarrier",
  .methodLinkNest RX0 11 yX2_init "MapCarrier",
  .fieldLinkNest RX3 109 "MapCarrier$Carrier" "memory" "LMapCarrier$Memory;" "MapCarrier",
  .fieldLinkNest RX3 84 "MapCarrier$Carrier" "at" "I" "MapCarrier",
  .fieldLinkNest RX3 73 "MapCarrier$Carrier" "coins" "I" "MapCarrier",
  .fieldLinkNest RX3 132 "MapCarrier$Carrier" "goal" "I" "MapCarrier",
  .fieldLinkNest RX3 103 "MapCarrier$Carrier" "wayLength" "I" "MapCarrier",
  .fieldLinkNest RX3 147 "MapCarrier$Carrier" "walked" "I" "MapCarrier",
  .fieldLinkNest RX3 150 "MapCarrier$Carrier" "doubled" "I" "MapCarrier",
  .fieldLinkNest RX3 153 "MapCarrier$Carrier" "done" "I" "MapCarrier",
  .fieldLinkNest RX3 156 "MapCarrier$Carrier" "inVain" "I" "MapCarrier",
  .fieldLinkNest RX3 159 "MapCarrier$Carrier" "questions" "I" "MapCarrier",
  .methodLinkNest RX1 56 yX3_isEnd "MapCarrier",
  .methodLinkNest RX0 56 yX3_isEnd "MapCarrier",
  .methodLinkNest RX1 49 yX3_placeOfEnd "MapCarrier",
  .methodLinkNest RX0 120 yX3_exitOfEnd "MapCarrier",
  .methodLinkNest RX0 134 yX3_placeOfEnd "MapCarrier",
  .methodLinkNest RL 103 yX4_init "MapCarrierLaw",
  .classLink RX4 35 "[[[I",
  .castable xIO xIO, .castable xIA xIA, .castable xIS xIS,
  .declares ⟨"java/lang/RuntimeException", "<init>", "(Ljava/lang/String;)V"⟩, .declares ⟨"java/lang/Exception", "<init>", "(Ljava/lang/String;)V"⟩, .declares ⟨"java/lang/Throwable", "<init>", "(Ljava/lang/String;)V"⟩]
def xNestOk : Cond → Bool
  | .fieldLinkNest .. => true
  | .methodLinkNest .. => true
  | .castable .. => true
  | .declares _ => true
  | .classLink .. => true
  | _ => false
theorem xNest_ok : ∀ w ∈ xNest, xNestOk w = true := by decide +kernel
theorem xNest_tbl : ∀ w ∈ xNest, w ∈ lw_tbl := by decide +kernel
def xN (U : State) : Prop := ∀ w ∈ xNest, va_Nw w U
theorem xN.warm {s U : State} (hW : s.WarmedH U.vm) (h : xN s) : xN U := by
  intro w hw
  have h1 := h w hw
  have h2 := xNest_ok w hw
  cases w <;> first | exact va_Nw.warmF hW h1 | exact va_Nw.warmM hW h1 | exact va_Nw.warmC hW h1 | exact va_Nw.warmD hW h1 | exact word_at (c := Cond.classLink _ _ _) hW (Or.inl rfl) h1 | (exact absurd h2 (by simp [xNestOk]))
theorem xN.same {u U : State} (hv : u.vm = U.vm) (h : xN u) : xN U := by
  intro w hw
  have h1 := h w hw
  have h2 := xNest_ok w hw
  cases w <;> first | exact va_Nw.same rfl hv h1 | (exact absurd h2 (by simp [xNestOk]))
def xNcs : List (String × String) := [(xIO, xIA), (xIO, xIS), (xIA, xIO), (xIA, xIS), (xIS, xIO), (xIS, xIA)]
def xNc (U : State) : Prop := ∀ q ∈ xNcs, va_Nc q.1 q.2 U
def xStrs : List (String × Nat × String) := [(RX3, 34, "there are 10 places"), (RX3, 45, "a road leads to another place"), (RX3, 56, "a place has 4 exits"), (RX3, 210, "no such place"), (RX3, 216, "no such place or exit"), (RX3, 218, "a number is too small or too large"), (RX3, 220, "an errand goes on"), (RX3, 222, "no errand goes on")]
def xS (G : xG) (U : State) : Prop := ∀ (k : Nat) (q : String × Nat × String), xStrs[k]? = some q → vk_R q.1 q.2.1 q.2.2 (G.2.2 k) U
/-- the array class over an array's class is there -/
def xAO (t : FieldType) (U : State) : Prop := (Cond.arrayOver (.array t)).before #[] U = true
theorem xAO.use {t : FieldType} {A : Array Value} {U : State} (h : xAO t U) : (Cond.arrayOver (.array t)).before A U = true := h
theorem xAO.of {t : FieldType} {A : Array Value} {U : State} (h : (Cond.arrayOver (.array t)).before A U = true) : xAO t U := h
theorem xAO.moved {t : FieldType} {u U : State} (hvm : u.vm.Alike U.vm) (h : xAO t u) : xAO t U := by
  obtain ⟨comp, cA, kA, g1, g2, g3, g4, g5⟩ := arrayOverA_spec h
  obtain ⟨kB, hB, heB⟩ := hvm.2.2 _ _ g3
  have f0 : (U.vm.classes.findIdx? fun (x : Class) => match x.kind with | .array component _ => component == comp | _ => false) = some cA := by
    rw [hvm.findIdx?_eq _ (fun _ => rfl)]; exact g2
  have hkd : kB.kind = .array comp (.array t) := by rw [heB]; exact g4
  have f1 : U.vm.findClass (FieldType.array t).toString = some comp := by rw [hvm.findClass]; exact g1
  have f2 : U.vm.findClass ("[" ++ (FieldType.array t).toString) = some cA := by rw [hvm.findClass]; exact g5
  unfold xAO Cond.before Cond.holds
  simp only [Cond.value]
  rw [f1, Option.bind_some]
  refine (congrArg (fun o : Option Nat => (o.bind (fun c => (U.vm.classes[c]?).map fun (k : Class) => match k.kind with | .array _ ty => decide (ty = FieldType.array t) && decide (U.vm.findClass ("[" ++ (FieldType.array t).toString) = some c) | _ => false) == some true)) f0).trans ?_
  simp [hB, hkd, f2]
def xOv (U : State) : Prop := xAO .int U ∧ xAO (.array .int) U
def xE (G : xG) (U : State) : Prop := va_K G.1 vwCl (xTy G) U ∧ xN U ∧ xNc U ∧ xS G U ∧ xOv U
theorem xE.warm {G : xG} {s U : State} (hW : s.WarmedH U.vm) (h : xE G s) : xE G U :=
  ⟨va_K.moved hW.alike h.1, h.2.1.warm hW, fun q hq => (h.2.2.1 q hq).moved hW.alike, fun k q hq => vk_R.warm hW (h.2.2.2.1 k q hq), h.2.2.2.2.1.moved hW.alike, h.2.2.2.2.2.moved hW.alike⟩
theorem xE.same {G : xG} {u U : State} (hv : U.vm = u.vm) (h : xE G u) : xE G U :=
  ⟨va_K.moved (by rw [hv]; exact Vm.Alike.refl _) h.1, h.2.1.same hv.symm, fun q hq => (h.2.2.1 q hq).moved (by rw [hv]; exact Vm.Alike.refl _), fun k q hq => vk_R.same hv (h.2.2.2.1 k q hq), h.2.2.2.2.1.moved (by rw [hv]; exact Vm.Alike.refl _), h.2.2.2.2.2.moved (by rw [hv]; exact Vm.Alike.refl _)⟩
def xZ (A : Nat → Prop) (U : State) (H : Heap) : Prop := vx_Zq Bundle.tN "UNASSIGNED_STACK" Bundle.steD A U H ∧ vx_Zq Bundle.tN "SUPPRESSED_SENTINEL" Bundle.listD A U H
def xW (G : xG) (A : Nat → Prop) (H0 : Heap) (ws : va_W) (H : Heap) (locs : List Loc) : Prop := va_P G.1 vwCl ws H ∧ va_D A ws ∧ va_S A H0 H locs
def xPc (G : xG) (ws : va_W) (sz : Nat) (U : State) : Prop := U.heap.size = sz ∧ va_P G.1 vwCl ws U.heap ∧ va_D (fun _ => True) ws ∧ xE G U ∧ xZ (va_A ws sz) U U.heap
theorem xPc_blind {G : xG} {av : List Value} {ws : va_W} {sz : Nat} : FrameBlind (va_Pc av (xPc G ws sz)) := fun a U g mk h =>
  ⟨h.1, h.2.1, h.2.2.1, h.2.2.2.1, xE.same (u := U) rfl h.2.2.2.2.1, vx_Zq.moved (Vm.Alike.refl U.vm) h.2.2.2.2.2.1, vx_Zq.moved (Vm.Alike.refl U.vm) h.2.2.2.2.2.2⟩
theorem xpick {ws ws' : va_W} {is : List Nat} (h : is.map (fun i => ws[i]?) = ws'.map some) : is.filterMap (fun i => ws[i]?) = ws' := by
  have e : is.filterMap (fun i => ws[i]?) = (is.map (fun i => ws[i]?)).filterMap id := by rw [List.filterMap_map]; rfl
  rw [e, h, List.filterMap_map]
  simp
theorem xpick_lt {ws : va_W} : ∀ {is : List Nat}, is.all (fun i => decide (i < ws.length)) = true → is.map (fun i => ws[i]?) = (is.filterMap (fun i => ws[i]?)).map some
  | [], _ => rfl
  | i :: is, h => by
    simp only [List.all_cons, Bool.and_eq_true, decide_eq_true_eq] at h
    have h1 : ws[i]? = some ws[i] := List.getElem?_eq_getElem h.1
    rw [List.map_cons, List.filterMap_cons, h1]
    simp only [List.map_cons]
    rw [xpick_lt h.2]
def xC (p : Program) (s : State) (m : MethodId) (args : Array Value) (meth : Method) (c : Code) (cc : ByteArray) (nL : Nat) (own : String) (wds : List Cond) (ret : Option FieldType) (G : xG) (A : Nat → Prop) : Prop :=
  p.tables.exec = Jvm.exec ∧ c.code = cc ∧ c.maxLocals = nL ∧ s.vm.findClass own = some m.cls ∧ (∀ w ∈ wds, w.before args s = true) ∧ meth.sig.returnType = ret ∧ meth.locks = false ∧ xE G s ∧ xZ A s s.heap ∧ (∀ q, s.heap.size ≤ q → A q)
def xB {S : Type} (G : xG) (A : Nat → Prop) (wn : S → va_W) (u : S) (t : State) : Prop := va_P G.1 vwCl (wn u) t.heap ∧ va_D A (wn u)
abbrev xQi {S : Type} (G : xG) (ws : va_W) (sz : Nat) (post : Int32 → S → Prop) (wn : S → va_W) := va_Qi post (xB G (va_A ws sz) wn) (va_A ws sz)
abbrev xQl {S : Type} (G : xG) (ws : va_W) (sz : Nat) (post : Int64 → S → Prop) (wn : S → va_W) := va_Ql post (xB G (va_A ws sz) wn) (va_A ws sz)
abbrev xQd {S : Type} (G : xG) (ws : va_W) (sz : Nat) (post : UInt64 → S → Prop) (wn : S → va_W) := va_Qd post (xB G (va_A ws sz) wn) (va_A ws sz)
abbrev xQv {S : Type} (G : xG) (ws : va_W) (sz : Nat) (post : S → Prop) (wn : S → va_W) := va_Qv post (xB G (va_A ws sz) wn) (va_A ws sz)
/-- what a throw leaves: the class of it, the world as it was -/
abbrev xX (G : xG) (ws : va_W) (sz : Nat) (px : String → Prop) : String → State → State → Prop := vx_X (fun _ : Unit => True) (fun E _ t => px E ∧ va_P G.1 vwCl ws t.heap ∧ va_D (va_A ws sz) ws) (va_A ws sz)
/-- a contract of a method that returns -/
abbrev xM (l : Launch) (y : MethodName) (wds : List Cond) (rm : Room) (G : xG) (av : List Value) (ws : va_W) (sz : Nat) (Qc : Array Value → State → Outcome → State → Prop) : Prop := Met l y wds rm (va_Pc av (xPc G ws sz)) Qc rm.cells rm.slots (va_A ws sz)
/-- a contract of a method that returns or throws -/
abbrev xMX (l : Launch) (y : MethodName) (wds : List Cond) (rm : Room) (G : xG) (av : List Value) (ws : va_W) (sz : Nat) (Qc : Array Value → State → Outcome → State → Prop) (px : String → Prop) : Prop := vx_Met l y wds rm (va_Pc av (xPc G ws sz)) Qc (xX G ws sz px) rm.cells rm.slots (va_A ws sz)
theorem xof {l : Launch} {y : MethodName} {wds wds' : List Cond} {rm : Room} {G : xG} {av : List Value} {ws : va_W} {sz : Nat} {Qc : Array Value → State → Outcome → State → Prop} {own : String} {cc : ByteArray} {maxL : Nat} {ret : Option FieldType}
    (ho : y.cls = own) (hy : plainName y.cls = true) (hwd : wds = Cond.code y cc maxL ret :: wds') (hlen : (lg_sl av).length ≤ maxL)
    (body : ∀ (p : Program) (e : Env) (s : State) (m : MethodId) (below : List Frame) (meth : Method) (c : Code), xC p s m av.toArray meth c cc maxL own wds ret G (va_A ws sz) → meth.name = y.name → xW G (va_A ws sz) s.heap ws s.heap [] →
      ∀ ls, lv_has ls maxL (lv_args 0 av) → W p l e rm s m av.toArray below meth c s.heap [] 0 0 (MQ below Qc av.toArray s rm.cells rm.slots (va_A ws sz)) (F0 m 0 ls [])) :
    xM l y wds rm G av ws sz Qc := by
  subst ho
  refine Met.ofW (cc := cc) (maxL := maxL) (ret := ret) hy hwd ?_
  intro p e s m args below meth c s₁ B hml hv
  obtain ⟨rfl, hsz, hP, hD0, hE, hZ⟩ := hv
  have hl := lv_entry av (n := maxL) hlen
  rw [lg_entry_eq]
  generalize (lg_sl av ++ List.replicate (maxL - (lg_sl av).length) Slot.unset).toArray = ls at hl ⊢
  exact body p e s m below meth c ⟨B.exec, B.bytes, hml, findClass_of_methodNamed B.named, atoms_spec (ws := wds) B.pre, B.returns, B.notSynchronized, hE, hZ, fun q h => Or.inr (hsz ▸ h)⟩ (name_of_methodNamed B.named B.method).1 ⟨hP, hD0.self, va_S.rf⟩ ls hl
theorem xofX {l : Launch} {y : MethodName} {wds wds' : List Cond} {rm : Room} {G : xG} {av : List Value} {ws : va_W} {sz : Nat} {Qc : Array Value → State → Outcome → State → Prop} {px : String → Prop} {own : String} {cc : ByteArray} {maxL : Nat} {ret : Option FieldType}
    (ho : y.cls = own) (hy : plainName y.cls = true) (hwd : wds = Cond.code y cc maxL ret :: wds') (hlen : (lg_sl av).length ≤ maxL)
    (body : ∀ (p : Program) (e : Env) (s : State) (m : MethodId) (below : List Frame) (meth : Method) (c : Code), xC p s m av.toArray meth c cc maxL own wds ret G (va_A ws sz) → (∀ x ∈ c.exceptionTable.toList, False) → xW G (va_A ws sz) s.heap ws s.heap [] →
      ∀ ls, lv_has ls maxL (lv_args 0 av) → W p l e rm s m av.toArray below meth c s.heap [] 0 0 (vx_MQ below Qc (xX G ws sz px) av.toArray s rm.cells rm.slots (va_A ws sz)) (F0 m 0 ls [])) :
    xMX l y wds rm G av ws sz Qc px := by
  subst ho
  refine vx_ofW (cc := cc) (maxL := maxL) (ret := ret) hy hwd ?_
  intro p e s m args below meth c s₁ B hml hex hv
  obtain ⟨rfl, hsz, hP, hD0, hE, hZ⟩ := hv
  have hl := lv_entry av (n := maxL) hlen
  rw [lg_entry_eq]
  generalize (lg_sl av ++ List.replicate (maxL - (lg_sl av).length) Slot.unset).toArray = ls at hl ⊢
  exact body p e s m below meth c ⟨B.exec, B.bytes, hml, findClass_of_methodNamed B.named, atoms_spec (ws := wds) B.pre, B.returns, B.notSynchronized, hE, hZ, fun q h => Or.inr (hsz ▸ h)⟩ hex ⟨hP, hD0.self, va_S.rf⟩ ls hl
section XR
variable {p : Program} {l : Launch} {e : Env} {R : Room} {s : State} {m : MethodId} {args : Array Value} {below : List Frame} {meth : Method} {c : Code} {H : Heap} {locs : List Loc} {cells slots : Nat} {Q : State → Prop}
variable {cc : ByteArray} {nL : Nat} {own : String} {wds : List Cond} {ret : Option FieldType} {G : xG} {A : Nat → Prop} {ws : va_W} {pc : Nat} {ls : Array Slot} {st0 rest : List Value}
theorem xPcOf (hc : xC p s m args meth c cc nL own wds ret G A) (hw : xW G A s.heap ws H locs) {wc : va_W} (isC : List Nat) (hn : va_nd isC = true) (hC : isC.map (fun i => ws[i]?) = wc.map some) : ∀ U : State, U.heap = H → s.WarmedH U.vm → xPc G wc H.size U := by
  obtain ⟨hx, hb, hml, hown, hts, hr, hlk, hE, hZ, hA⟩ := hc
  obtain ⟨hP, hD, hS⟩ := hw
  have hF := va_free (wc := wc) hD hS hA isC hC
  intro U hU hW
  refine ⟨by rw [hU], by rw [hU]; exact hP.sub isC (xpick hC), (hD.sub isC hn hC).weaken (fun _ _ _ _ => trivial), hE.warm hW, ?_⟩
  rw [hU]
  exact ⟨((hZ.1.moved hW.alike).kept hS.2.1).narrow hF, ((hZ.2.moved hW.alike).kept hS.2.1).narrow hF⟩
theorem xsz (hc : xC p s m args meth c cc nL own wds ret G A) (hw : xW G A s.heap ws H locs) {wc : va_W} (isC : List Nat) (hC : isC.map (fun i => ws[i]?) = wc.map some) : ∀ q, va_A wc H.size q → A q := va_free hw.2.1 hw.2.2 hc.2.2.2.2.2.2.2.2.2 isC hC
section RUN
variable {wc : va_W} {y : MethodName} {bytes : ByteArray} {maxL n index : Nat} {ret' : Option FieldType} {wds' wds'' : List Cond} {rm : Room} {Qc : Array Value → State → Outcome → State → Prop} {px : String → Prop} {b : Addr} {As : List Value}
theorem xrunV {ci : Nat} {fs : List Value} {q : vw_C} (hc : xC p s m args meth c cc nL own wds ret G A) (hw : xW G A s.heap ws H locs) (isC : List Nat) (hM : xM l y wds' rm G (.ref b :: As) wc H.size Qc)
    (hT : GoodIn wds (wsV own index q.1 y wds')) (hwd : wds' = Cond.code y bytes maxL ret' :: wds'')
    (hd : y.cls = q.1 ∧ y.cls ≠ "java/lang/invoke/MethodHandle" ∧ y.cls ≠ "java/lang/invoke/VarHandle" ∧ (parseMethodDescriptor y.desc).map (fun d => d.parameters.length) = some n) (hR : rm.frames + 1 ≤ R.frames ∧ 8 + (maxL + 11) + rm.locals ≤ R.locals)
    (k0 : Nat) (hcl : vwCl[ci]? = some q) (he : ws[k0]? = some (b, .inr (ci, fs))) (hnn : va_nd isC = true) (hC : isC.map (fun i => ws[i]?) = wc.map some) (hn : As.length = n) (hst0 : st0 = As.reverse ++ .ref b :: rest) (hl : ls.size = nL) (hst : (rest.map fun v => v.category).sum ≤ 8) (hdg : decode cc pc = .ok (.invokevirtual index, 3)) (hf : cells + rm.cells ≤ R.cells ∧ slots + rm.slots ≤ R.slots) :
    va_Run p l e R s m args below meth c H locs cells slots rm.cells rm.slots (F0 m pc ls st0) rest (Qc (Value.ref b :: As).toArray) (va_A wc H.size) := by
  subst hst0
  exact va_runV ⟨hc.1, hc.2.1, hc.2.2.1, hc.2.2.2.1, hc.2.2.2.2.1⟩ hM (cwV n hc.2.2.2.2.1 hT hwd rfl rfl hd hR) ⟨xPc_blind, va_recv hc.2.2.2.2.2.2.2.1.1 hw.1 hcl he, fun U hU hW => ⟨rfl, xPcOf hc hw isC hnn hC U hU hW⟩⟩ rfl hn hl rfl (lv_room hst) hdg hf
theorem xrunS (hc : xC p s m args meth c cc nL own wds ret G A) (hw : xW G A s.heap ws H locs) (isC : List Nat) (hM : xM l y wds' rm G As wc H.size Qc)
    (hT : GoodIn wds (va_wsS own index y wds')) (hwd : wds' = Cond.code y bytes maxL ret' :: wds'')
    (hd : y.cls ≠ "java/lang/invoke/MethodHandle" ∧ y.cls ≠ "java/lang/invoke/VarHandle" ∧ (parseMethodDescriptor y.desc).map (fun d => d.parameters.length) = some n) (hR : rm.frames + 1 ≤ R.frames ∧ 8 + (maxL + 11) + rm.locals ≤ R.locals)
    (hnn : va_nd isC = true) (hC : isC.map (fun i => ws[i]?) = wc.map some) (hn : As.length = n) (hst0 : st0 = As.reverse ++ rest) (hl : ls.size = nL) (hst : (rest.map fun v => v.category).sum ≤ 8) (hdg : decode cc pc = .ok (.invokestatic index, 3)) (hf : cells + rm.cells ≤ R.cells ∧ slots + rm.slots ≤ R.slots) :
    va_Run p l e R s m args below meth c H locs cells slots rm.cells rm.slots (F0 m pc ls st0) rest (Qc As.toArray) (va_A wc H.size) := by
  subst hst0
  exact va_runS ⟨hc.1, hc.2.1, hc.2.2.1, hc.2.2.2.1, hc.2.2.2.2.1⟩ hM (va_cwS n hc.2.2.2.2.1 hT hwd rfl rfl hd hR) ⟨xPc_blind, fun U hU hW => ⟨rfl, xPcOf hc hw isC hnn hC U hU hW⟩⟩ rfl hn hl rfl (lv_room hst) hdg hf
theorem xrunSN {host : String} (hc : xC p s m args meth c cc nL own wds ret G A) (hw : xW G A s.heap ws H locs) (isC : List Nat) (hM : xM l y wds' rm G As wc H.size Qc)
    (hT : GoodIn wds wds') (hlk : Cond.methodLinkNest own index y host ∈ xNest) (hini : Cond.initialized y.cls ∈ wds) (hsta : Cond.static y ∈ wds) (hwd : wds' = Cond.code y bytes maxL ret' :: wds'')
    (hd : y.cls ≠ "java/lang/invoke/MethodHandle" ∧ y.cls ≠ "java/lang/invoke/VarHandle" ∧ (parseMethodDescriptor y.desc).map (fun d => d.parameters.length) = some n) (hR : rm.frames + 1 ≤ R.frames ∧ 8 + (maxL + 11) + rm.locals ≤ R.locals)
    (hnn : va_nd isC = true) (hC : isC.map (fun i => ws[i]?) = wc.map some) (hn : As.length = n) (hst0 : st0 = As.reverse ++ rest) (hl : ls.size = nL) (hst : (rest.map fun v => v.category).sum ≤ 8) (hdg : decode cc pc = .ok (.invokestatic index, 3)) (hf : cells + rm.cells ≤ R.cells ∧ slots + rm.slots ≤ R.slots) :
    va_Run p l e R s m args below meth c H locs cells slots rm.cells rm.slots (F0 m pc ls st0) rest (Qc As.toArray) (va_A wc H.size) := by
  subst hst0
  exact va_runSN ⟨hc.1, hc.2.1, hc.2.2.1, hc.2.2.2.1, hc.2.2.2.2.1⟩ hM ⟨va_cnB n hc.2.2.2.2.1 hT hwd rfl rfl (hc.2.2.2.2.2.2.2.1.2.1 _ hlk) (hc.2.2.2.2.1 _ hini) hd hR, hc.2.2.2.2.1 _ hsta, trivial⟩ ⟨xPc_blind, fun U hU hW => ⟨rfl, xPcOf hc hw isC hnn hC U hU hW⟩⟩ rfl hn hl rfl (lv_room hst) hdg hf
theorem xrunI (hc : xC p s m args meth c cc nL own wds ret G A) (hw : xW G A s.heap ws H locs) (isC : List Nat) (hM : xM l y wds' rm G (.ref b :: As) wc H.size Qc)
    (hT : GoodIn wds wds') (hini : Cond.initialized y.cls ∈ wds) (hlk : Cond.methodLink own index y ∈ wds) (hin : Cond.instanceMethod y ∈ wds) (hy1 : y.name = "<init>") (hwd : wds' = Cond.code y bytes maxL none :: wds'')
    (hd : y.cls ≠ "java/lang/invoke/MethodHandle" ∧ y.cls ≠ "java/lang/invoke/VarHandle" ∧ (parseMethodDescriptor y.desc).map (fun d => d.parameters.length) = some n) (hR : rm.frames + 1 ≤ R.frames ∧ 8 + (maxL + 11) + rm.locals ≤ R.locals)
    (hnn : va_nd isC = true) (hC : isC.map (fun i => ws[i]?) = wc.map some) (hn : As.length = n) (hst0 : st0 = As.reverse ++ .ref b :: rest) (hl : ls.size = nL) (hst : (rest.map fun v => v.category).sum ≤ 8) (hdg : decode cc pc = .ok (.invokespecial index, 3)) (hf : cells + rm.cells ≤ R.cells ∧ slots + rm.slots ≤ R.slots) :
    va_Run p l e R s m args below meth c H locs cells slots rm.cells rm.slots (F0 m pc ls st0) rest (Qc (Value.ref b :: As).toArray) (va_A wc H.size) := by
  subst hst0
  exact va_runI ⟨hc.1, hc.2.1, hc.2.2.1, hc.2.2.2.1, hc.2.2.2.2.1⟩ hM (cwI n hc.2.2.2.2.1 hT hwd rfl rfl (hc.2.2.2.2.1 _ hini) (hc.2.2.2.2.1 _ hlk) (hc.2.2.2.2.1 _ hin) hy1 hd hR) ⟨xPc_blind, fun U hU hW => ⟨rfl, xPcOf hc hw isC hnn hC U hU hW⟩⟩ rfl hn hl rfl (lv_room hst) hdg hf
theorem xrunIN {host : String} (hc : xC p s m args meth c cc nL own wds ret G A) (hw : xW G A s.heap ws H locs) (isC : List Nat) (hM : xM l y wds' rm G (.ref b :: As) wc H.size Qc)
    (hT : GoodIn wds wds') (hlk : Cond.methodLinkNest own index y host ∈ xNest) (hini : Cond.initialized y.cls ∈ wds) (hin : Cond.instanceMethod y ∈ wds) (hy1 : y.name = "<init>") (hwd : wds' = Cond.code y bytes maxL none :: wds'')
    (hd : y.cls ≠ "java/lang/invoke/MethodHandle" ∧ y.cls ≠ "java/lang/invoke/VarHandle" ∧ (parseMethodDescriptor y.desc).map (fun d => d.parameters.length) = some n) (hR : rm.frames + 1 ≤ R.frames ∧ 8 + (maxL + 11) + rm.locals ≤ R.locals)
    (hnn : va_nd isC = true) (hC : isC.map (fun i => ws[i]?) = wc.map some) (hn : As.length = n) (hst0 : st0 = As.reverse ++ .ref b :: rest) (hl : ls.size = nL) (hst : (rest.map fun v => v.category).sum ≤ 8) (hdg : decode cc pc = .ok (.invokespecial index, 3)) (hf : cells + rm.cells ≤ R.cells ∧ slots + rm.slots ≤ R.slots) :
    va_Run p l e R s m args below meth c H locs cells slots rm.cells rm.slots (F0 m pc ls st0) rest (Qc (Value.ref b :: As).toArray) (va_A wc H.size) := by
  subst hst0
  exact va_runIN ⟨hc.1, hc.2.1, hc.2.2.1, hc.2.2.2.1, hc.2.2.2.2.1⟩ hM ⟨va_cnB n hc.2.2.2.2.1 hT hwd rfl rfl (hc.2.2.2.2.2.2.2.1.2.1 _ hlk) (hc.2.2.2.2.1 _ hini) hd hR, hy1, hc.2.2.2.2.1 _ hin⟩ ⟨xPc_blind, fun U hU hW => ⟨rfl, xPcOf hc hw isC hnn hC U hU hW⟩⟩ rfl hn hl rfl (lv_room hst) hdg hf
/-- a call of a method that returns or throws -/
theorem xrunVX {ci : Nat} {fs : List Value} {q : vw_C} (hc : xC p s m args meth c cc nL own wds ret G A) (hw : xW G A s.heap ws H locs) (isC : List Nat) (hM : xMX l y wds' rm G (.ref b :: As) wc H.size Qc px)
    (hT : GoodIn wds (wsV own index q.1 y wds')) (hwd : wds' = Cond.code y bytes maxL ret' :: wds'')
    (hd : y.cls = q.1 ∧ y.cls ≠ "java/lang/invoke/MethodHandle" ∧ y.cls ≠ "java/lang/invoke/VarHandle" ∧ (parseMethodDescriptor y.desc).map (fun d => d.parameters.length) = some n) (hR : rm.frames + 1 ≤ R.frames ∧ 8 + (maxL + 11) + rm.locals ≤ R.locals)
    (k0 : Nat) (hcl : vwCl[ci]? = some q) (he : ws[k0]? = some (b, .inr (ci, fs))) (hnn : va_nd isC = true) (hC : isC.map (fun i => ws[i]?) = wc.map some) (hn : As.length = n) (hst0 : st0 = As.reverse ++ .ref b :: rest) (hl : ls.size = nL) (hst : (rest.map fun v => v.category).sum ≤ 8) (hdg : decode cc pc = .ok (.invokevirtual index, 3)) (hf : cells + rm.cells ≤ R.cells ∧ slots + rm.slots ≤ R.slots) :
    vx_Run p l e R s m args below meth c H locs cells slots rm.cells rm.slots (F0 m pc ls st0) rest (Qc (Value.ref b :: As).toArray) (xX G wc H.size px) (va_A wc H.size) := by
  subst hst0
  exact vx_runV ⟨hc.1, hc.2.1, hc.2.2.1, hc.2.2.2.1, hc.2.2.2.2.1⟩ hM (cwV n hc.2.2.2.2.1 hT hwd rfl rfl hd hR) ⟨xPc_blind, va_recv hc.2.2.2.2.2.2.2.1.1 hw.1 hcl he, fun U hU hW => ⟨rfl, xPcOf hc hw isC hnn hC U hU hW⟩⟩ rfl hn hl rfl (lv_room hst) hdg hf
end RUN
section CALL
variable {S : Type} {wn w2 : S → va_W} {wc : va_W} {mc ms : Nat} {av : Array Value} {isC isR isP : List Nat} {px : String → Prop}
/-- behind a call: the caller's other cells beside the callee's, in the order that the caller wants -/
theorem xjoin (hw : xW G A s.heap ws H locs) (hF : ∀ q, va_A wc H.size q → A q) (hC : isC.map (fun i => ws[i]?) = wc.map some) (hnR : va_nd isR = true) (hlt : isR.all (fun i => decide (i < ws.length)) = true) (hdis : isR.all (fun i => decide (i ∉ isC)) = true) (hnP : va_nd isP = true) {wn1 w3 : va_W}
    (hP2 : isP.map (fun i => (isR.filterMap (fun i => ws[i]?) ++ wn1)[i]?) = w3.map some) {H1 : Heap} (hk : ∀ q : Nat, q < H.size → ¬ va_A wc H.size q → H1[q]? = H[q]?) (hP1 : va_P G.1 vwCl wn1 H1) (hD1 : va_D (va_A wc H.size) wn1) : va_P G.1 vwCl w3 H1 ∧ va_D A w3 := by
  obtain ⟨h1, h2⟩ := va_join (wr := isR.filterMap (fun i => ws[i]?)) (w1 := wn1) hw.1 hw.2.1 isC isR hC (xpick_lt hlt) hnR (fun i hi => by have := List.all_eq_true.mp hdis i hi; simpa using this) hk hF hP1 hD1
  exact ⟨h1.sub isP (xpick hP2), h2.sub isP hnP hP2⟩
theorem xcall_i {post : Int32 → S → Prop} (hc : xC p s m args meth c cc nL own wds ret G A) (hw : xW G A s.heap ws H locs)
    (hr : va_Run p l e R s m args below meth c H locs cells slots mc ms (F0 m pc ls st0) rest (xQi G wc H.size post wn av) (va_A wc H.size)) (hC : isC.map (fun i => ws[i]?) = wc.map some) (isR isP : List Nat) (w2 : S → va_W) (hP2 : ∀ u, isP.map (fun i => (isR.filterMap (fun i => ws[i]?) ++ wn u)[i]?) = (w2 u).map some)
    (hnR : va_nd isR = true) (hlt : isR.all (fun i => decide (i < ws.length)) = true) (hdis : isR.all (fun i => decide (i ∉ isC)) = true) (hnP : va_nd isP = true)
    (kk : ∀ (r : Int32) (u : S) (H1 : Heap) (locs1 : List Loc), post r u → xW G A s.heap (w2 u) H1 locs1 → W p l e R s m args below meth c H1 locs1 (cells + mc) (slots + ms) Q (F0 m (pc + 3) ls (.int r :: rest))) : W p l e R s m args below meth c H locs cells slots Q (F0 m pc ls st0) := by
  have hF := xsz hc hw isC hC
  refine va_calli hr hw.2.2 (fun q _ h => hF q h) hF (fun r u t H1 locs1 ht hvm hp hB hz hk hS => ?_)
  obtain ⟨hP1, hD1⟩ := hB
  rw [ht] at hP1
  obtain ⟨g1, g2⟩ := xjoin hw hF hC hnR hlt hdis hnP (hP2 u) hk hP1 hD1
  exact kk r u H1 locs1 hp ⟨g1, g2, hS⟩
theorem xcall_l {post : Int64 → S → Prop} (hc : xC p s m args meth c cc nL own wds ret G A) (hw : xW G A s.heap ws H locs)
    (hr : va_Run p l e R s m args below meth c H locs cells slots mc ms (F0 m pc ls st0) rest (xQl G wc H.size post wn av) (va_A wc H.size)) (hC : isC.map (fun i => ws[i]?) = wc.map some) (isR isP : List Nat) (w2 : S → va_W) (hP2 : ∀ u, isP.map (fun i => (isR.filterMap (fun i => ws[i]?) ++ wn u)[i]?) = (w2 u).map some)
    (hnR : va_nd isR = true) (hlt : isR.all (fun i => decide (i < ws.length)) = true) (hdis : isR.all (fun i => decide (i ∉ isC)) = true) (hnP : va_nd isP = true)
    (kk : ∀ (r : Int64) (u : S) (H1 : Heap) (locs1 : List Loc), post r u → xW G A s.heap (w2 u) H1 locs1 → W p l e R s m args below meth c H1 locs1 (cells + mc) (slots + ms) Q (F0 m (pc + 3) ls (.long r :: rest))) : W p l e R s m args below meth c H locs cells slots Q (F0 m pc ls st0) := by
  have hF := xsz hc hw isC hC
  refine va_calll hr hw.2.2 (fun q _ h => hF q h) hF (fun r u t H1 locs1 ht hvm hp hB hz hk hS => ?_)
  obtain ⟨hP1, hD1⟩ := hB
  rw [ht] at hP1
  obtain ⟨g1, g2⟩ := xjoin hw hF hC hnR hlt hdis hnP (hP2 u) hk hP1 hD1
  exact kk r u H1 locs1 hp ⟨g1, g2, hS⟩
theorem xcall_v {post : S → Prop} (hc : xC p s m args meth c cc nL own wds ret G A) (hw : xW G A s.heap ws H locs)
    (hr : va_Run p l e R s m args below meth c H locs cells slots mc ms (F0 m pc ls st0) rest (xQv G wc H.size post wn av) (va_A wc H.size)) (hC : isC.map (fun i => ws[i]?) = wc.map some) (isR isP : List Nat) (w2 : S → va_W) (hP2 : ∀ u, isP.map (fun i => (isR.filterMap (fun i => ws[i]?) ++ wn u)[i]?) = (w2 u).map some)
    (hnR : va_nd isR = true) (hlt : isR.all (fun i => decide (i < ws.length)) = true) (hdis : isR.all (fun i => decide (i ∉ isC)) = true) (hnP : va_nd isP = true)
    (kk : ∀ (u : S) (H1 : Heap) (locs1 : List Loc), post u → xW G A s.heap (w2 u) H1 locs1 → W p l e R s m args below meth c H1 locs1 (cells + mc) (slots + ms) Q (F0 m (pc + 3) ls rest)) : W p l e R s m args below meth c H locs cells slots Q (F0 m pc ls st0) := by
  have hF := xsz hc hw isC hC
  refine va_callv hr hw.2.2 (fun q _ h => hF q h) hF (fun u t H1 locs1 ht hvm hp hB hz hk hS => ?_)
  obtain ⟨hP1, hD1⟩ := hB
  rw [ht] at hP1
  obtain ⟨g1, g2⟩ := xjoin hw hF hC hnR hlt hdis hnP (hP2 u) hk hP1 hD1
  exact kk u H1 locs1 hp ⟨g1, g2, hS⟩
/-- a call of a method that may throw: its throw goes on with the world as it was (w3) -/
theorem xcallX_i {post : Int32 → S → Prop} (hc : xC p s m args meth c cc nL own wds ret G A) (hw : xW G A s.heap ws H locs)
    (hr : vx_Run p l e R s m args below meth c H locs cells slots mc ms (F0 m pc ls st0) rest (xQi G wc H.size post wn av) (xX G wc H.size px) (va_A wc H.size)) (hC : isC.map (fun i => ws[i]?) = wc.map some) (isR isP isX : List Nat) (w2 : S → va_W) (hP2 : ∀ u, isP.map (fun i => (isR.filterMap (fun i => ws[i]?) ++ wn u)[i]?) = (w2 u).map some) (hPX : isX.map (fun i => (isR.filterMap (fun i => ws[i]?) ++ wc)[i]?) = ws.map some)
    (hnR : va_nd isR = true) (hlt : isR.all (fun i => decide (i < ws.length)) = true) (hdis : isR.all (fun i => decide (i ∉ isC)) = true) (hnP : va_nd isP = true) (hnX : va_nd isX = true)
    (kx : ∀ (E : String) (ce : Cell) (q9 : Addr) (H1 : Heap) (locs1 : List Loc), px E → xW G A s.heap ws H1 locs1 → H1[q9]? = some ce → ce.vm = .none → s.vm.findClass E = some ce.cls → vx_W p l e R s m args below meth c H1 locs1 (cells + mc) (slots + ms) Q (F0 m pc ls rest) q9)
    (kk : ∀ (r : Int32) (u : S) (H1 : Heap) (locs1 : List Loc), post r u → xW G A s.heap (w2 u) H1 locs1 → W p l e R s m args below meth c H1 locs1 (cells + mc) (slots + ms) Q (F0 m (pc + 3) ls (.int r :: rest))) : W p l e R s m args below meth c H locs cells slots Q (F0 m pc ls st0) := by
  have hF := xsz hc hw isC hC
  refine vx_calli hr hw.2.2 (fun q _ h => hF q h) hF (fun q _ h => hF q h) (fun E ce q9 u t H1 locs1 ht hvm _ hB hz hk hS h9 hv9 hc9 => ?_) (fun r u t H1 locs1 ht hvm hp hB hz hk hS => ?_)
  · obtain ⟨hpx, hP1, hD1⟩ := hB
    rw [ht] at hP1
    obtain ⟨g1, g2⟩ := xjoin hw hF hC hnR hlt hdis hnX hPX hk hP1 hD1
    exact kx E ce q9 H1 locs1 hpx ⟨g1, g2, hS⟩ h9 hv9 hc9
  · obtain ⟨hP1, hD1⟩ := hB
    rw [ht] at hP1
    obtain ⟨g1, g2⟩ := xjoin hw hF hC hnR hlt hdis hnP (hP2 u) hk hP1 hD1
    exact kk r u H1 locs1 hp ⟨g1, g2, hS⟩
theorem xcallX_v {post : S → Prop} (hc : xC p s m args meth c cc nL own wds ret G A) (hw : xW G A s.heap ws H locs)
    (hr : vx_Run p l e R s m args below meth c H locs cells slots mc ms (F0 m pc ls st0) rest (xQv G wc H.size post wn av) (xX G wc H.size px) (va_A wc H.size)) (hC : isC.map (fun i => ws[i]?) = wc.map some) (isR isP isX : List Nat) (w2 : S → va_W) (hP2 : ∀ u, isP.map (fun i => (isR.filterMap (fun i => ws[i]?) ++ wn u)[i]?) = (w2 u).map some) (hPX : isX.map (fun i => (isR.filterMap (fun i => ws[i]?) ++ wc)[i]?) = ws.map some)
    (hnR : va_nd isR = true) (hlt : isR.all (fun i => decide (i < ws.length)) = true) (hdis : isR.all (fun i => decide (i ∉ isC)) = true) (hnP : va_nd isP = true) (hnX : va_nd isX = true)
    (kx : ∀ (E : String) (ce : Cell) (q9 : Addr) (H1 : Heap) (locs1 : List Loc), px E → xW G A s.heap ws H1 locs1 → H1[q9]? = some ce → ce.vm = .none → s.vm.findClass E = some ce.cls → vx_W p l e R s m args below meth c H1 locs1 (cells + mc) (slots + ms) Q (F0 m pc ls rest) q9)
    (kk : ∀ (u : S) (H1 : Heap) (locs1 : List Loc), post u → xW G A s.heap (w2 u) H1 locs1 → W p l e R s m args below meth c H1 locs1 (cells + mc) (slots + ms) Q (F0 m (pc + 3) ls rest)) : W p l e R s m args below meth c H locs cells slots Q (F0 m pc ls st0) := by
  have hF := xsz hc hw isC hC
  refine vx_callv hr hw.2.2 (fun q _ h => hF q h) hF (fun q _ h => hF q h) (fun E ce q9 u t H1 locs1 ht hvm _ hB hz hk hS h9 hv9 hc9 => ?_) (fun u t H1 locs1 ht hvm hp hB hz hk hS => ?_)
  · obtain ⟨hpx, hP1, hD1⟩ := hB
    rw [ht] at hP1
    obtain ⟨g1, g2⟩ := xjoin hw hF hC hnR hlt hdis hnX hPX hk hP1 hD1
    exact kx E ce q9 H1 locs1 hpx ⟨g1, g2, hS⟩ h9 hv9 hc9
  · obtain ⟨hP1, hD1⟩ := hB
    rw [ht] at hP1
    obtain ⟨g1, g2⟩ := xjoin hw hF hC hnR hlt hdis hnP (hP2 u) hk hP1 hD1
    exact kk u H1 locs1 hp ⟨g1, g2, hS⟩
end CALL
section END
variable {S : Type} {wn : S → va_W} {w0 : va_W} {sz mc ms : Nat} {px : String → Prop}
theorem xret_i {post : Int32 → S → Prop} {r : Int32} (u : S) (hc : xC p s m args meth c cc nL own wds (some .int) G (va_A w0 sz)) (hw : xW G (va_A w0 sz) s.heap (wn u) H locs) (hp : post r u) (hm : cells ≤ mc ∧ slots ≤ ms) (hdg : decode cc pc = .ok (.ireturn, 1)) :
    W p l e R s m args below meth c H locs cells slots (MQ below (xQi G w0 sz post wn) args s mc ms (va_A w0 sz)) (F0 m pc ls [.int r]) :=
  W.widen hm.1 hm.2 (W.iret hc.1 hc.2.1 hc.2.2.2.2.2.1 (fun t ht hW => ⟨⟨r, u, rfl, hp, by rw [ht]; exact hw.1, hw.2.1⟩, hw.2.2.F ht⟩) hw.2.2.2.2 hdg hc.2.2.2.2.2.2.1)
theorem xret_z {post : Int32 → S → Prop} {r : Int32} (u : S) (hc : xC p s m args meth c cc nL own wds (some .boolean) G (va_A w0 sz)) (hw : xW G (va_A w0 sz) s.heap (wn u) H locs) (hz : narrow .boolean (.int r) = .int r) (hp : post r u) (hm : cells ≤ mc ∧ slots ≤ ms) (hdg : decode cc pc = .ok (.ireturn, 1)) :
    W p l e R s m args below meth c H locs cells slots (MQ below (xQi G w0 sz post wn) args s mc ms (va_A w0 sz)) (F0 m pc ls [.int r]) :=
  W.widen hm.1 hm.2 (W.zret hc.1 hc.2.1 hc.2.2.2.2.2.1 hz (fun t ht hW => ⟨⟨r, u, rfl, hp, by rw [ht]; exact hw.1, hw.2.1⟩, hw.2.2.F ht⟩) hw.2.2.2.2 hdg hc.2.2.2.2.2.2.1)
theorem xret_l {post : Int64 → S → Prop} {r : Int64} (u : S) (hc : xC p s m args meth c cc nL own wds (some .long) G (va_A w0 sz)) (hw : xW G (va_A w0 sz) s.heap (wn u) H locs) (hp : post r u) (hm : cells ≤ mc ∧ slots ≤ ms) (hdg : decode cc pc = .ok (.lreturn, 1)) :
    W p l e R s m args below meth c H locs cells slots (MQ below (xQl G w0 sz post wn) args s mc ms (va_A w0 sz)) (F0 m pc ls [.long r]) :=
  W.widen hm.1 hm.2 (W.lret hc.1 hc.2.1 hc.2.2.2.2.2.1 (fun t ht hW => ⟨⟨r, u, rfl, hp, by rw [ht]; exact hw.1, hw.2.1⟩, hw.2.2.F ht⟩) hw.2.2.2.2 hdg hc.2.2.2.2.2.2.1)
theorem xret_v {post : S → Prop} (u : S) (hc : xC p s m args meth c cc nL own wds none G (va_A w0 sz)) (hw : xW G (va_A w0 sz) s.heap (wn u) H locs) (hp : post u) (hm : cells ≤ mc ∧ slots ≤ ms) (hdg : decode cc pc = .ok (.return_, 1)) :
    W p l e R s m args below meth c H locs cells slots (MQ below (xQv G w0 sz post wn) args s mc ms (va_A w0 sz)) (F0 m pc ls []) :=
  W.widen hm.1 hm.2 (W.vret hc.1 hc.2.1 hc.2.2.2.2.2.1 (fun t ht hW => ⟨⟨u, rfl, hp, by rw [ht]; exact hw.1, hw.2.1⟩, hw.2.2.F ht⟩) hw.2.2.2.2 hdg hc.2.2.2.2.2.2.1)
/-- a throw that isn't caught here goes on -/
theorem xout {Qc : Array Value → State → Outcome → State → Prop} {E : String} {ce : Cell} {q9 : Addr} (hc : xC p s m args meth c cc nL own wds ret G (va_A w0 sz)) (hex : ∀ x ∈ c.exceptionTable.toList, False) (hw : xW G (va_A w0 sz) s.heap w0 H locs) (hpx : px E) (h9 : H[q9]? = some ce) (hv : ce.vm = .none) (hcl : s.vm.findClass E = some ce.cls) (hm : cells ≤ mc ∧ slots ≤ ms) :
    vx_W p l e R s m args below meth c H locs cells slots (vx_MQ below Qc (xX G w0 sz px) args s mc ms (va_A w0 sz)) (F0 m pc ls rest) q9 :=
  vx_out (fun x hx => (hex x hx).elim) hc.2.2.2.2.2.2.1 h9 hv hcl (fun t ht hvm => ⟨(), trivial, ⟨hpx, by rw [ht]; exact hw.1, hw.2.1⟩, hw.2.2.F ht⟩) hw.2.2.2.2 hm.1 hm.2
end END
section ROW
variable {a : Nat} {D : va_G}
theorem xget {C : String} {T : u_T} {N ci index : Nat} {fs : List Value} {v : Value} (hc : xC p s m args meth c cc nL own wds ret G A) (hw : xW G A s.heap ws H locs) (hin : ∀ w ∈ u_ws C T N, w ∈ wds) (q0 : Nat) (he : ws[q0]? = some (a, .inr (ci, fs))) (hcl : vwCl[ci]? = some (C, T, N)) (k : Nat) (hk : k < N) {ref : String} (hlink : Cond.fieldLink own index ref (T k).2.1 (T k).2.2.1 ∈ wds) (hdecl : (T k).1 = ref) (hv : fs[k]? = some v) (hdg : decode cc pc = .ok (.getfield index, 3))
    (kk : W p l e R s m args below meth c H locs cells slots Q (F0 m (pc + 3) ls (v :: rest))) : W p l e R s m args below meth c H locs cells slots Q (F0 m pc ls (.ref a :: rest)) :=
  va_get hc.1 hc.2.1 hc.2.2.2.2.1 hin hc.2.2.2.1 hc.2.2.2.2.2.2.2.1.1 hw.1 q0 he hcl k hk (hc.2.2.2.2.1 _ hlink) (fun x h => by rw [← hdecl]; exact h) hv hdg kk
theorem xgetN {C host : String} {T : u_T} {N ci index : Nat} {fs : List Value} {v : Value} (hc : xC p s m args meth c cc nL own wds ret G A) (hw : xW G A s.heap ws H locs) (hin : ∀ w ∈ u_ws C T N, w ∈ wds) (q0 : Nat) (he : ws[q0]? = some (a, .inr (ci, fs))) (hcl : vwCl[ci]? = some (C, T, N)) (k : Nat) (hk : k < N) {ref : String} (hlink : Cond.fieldLinkNest own index ref (T k).2.1 (T k).2.2.1 host ∈ xNest) (hdecl : (T k).1 = ref) (hv : fs[k]? = some v) (hdg : decode cc pc = .ok (.getfield index, 3))
    (kk : W p l e R s m args below meth c H locs cells slots Q (F0 m (pc + 3) ls (v :: rest))) : W p l e R s m args below meth c H locs cells slots Q (F0 m pc ls (.ref a :: rest)) :=
  va_getN hc.1 hc.2.1 hc.2.2.2.2.1 hin hc.2.2.2.1 hc.2.2.2.2.2.2.2.1.1 hw.1 q0 he hcl k hk ((hc.2.2.2.2.2.2.2.1.2.1 _ hlink).use rfl) (fun x h => by rw [← hdecl]; exact h) hv hdg kk
theorem xput {C : String} {T : u_T} {N ci index : Nat} {fs : List Value} {v : Value} {ty : FieldType} (hc : xC p s m args meth c cc nL own wds ret G A) (hw : xW G A s.heap ws H locs) (hin : ∀ w ∈ u_ws C T N, w ∈ wds) (ty0 : Nat → FieldType) (hty : ∀ k, k < N → parseFieldDescriptor (T k).2.2.1 = some (ty0 k)) (hnm : ∀ a, a < N → ∀ b, b < N → a ≠ b → (T a).2.1 ≠ (T b).2.1) (q0 : Nat) (w2 : va_W) (he : ws[q0]? = some (a, .inr (ci, fs))) (hcl : vwCl[ci]? = some (C, T, N)) (k : Nat) (hk : k < N) {ref : String} (hlink : Cond.fieldLink own index ref (T k).2.1 (T k).2.2.1 ∈ wds) (hdecl : (T k).1 = ref) (hfin : (T k).2.2.2 = false) (hn : narrow (ty0 k) v = v) (hfit : fits (ty0 k) v = true) (hl : k < fs.length) (h2 : ws.set q0 (a, .inr (ci, fs.set k v)) = w2) (hdg : decode cc pc = .ok (.putfield index, 3))
    (kk : ∀ (H1 : Heap) (locs1 : List Loc), xW G A s.heap w2 H1 locs1 → W p l e R s m args below meth c H1 locs1 cells slots Q (F0 m (pc + 3) ls rest)) : W p l e R s m args below meth c H locs cells slots Q (F0 m pc ls (v :: .ref a :: rest)) := by
  subst h2
  exact va_put hc.1 hc.2.1 hc.2.2.2.2.1 hin ty0 hty hnm hc.2.2.2.1 hc.2.2.2.2.2.2.2.1.1 hw.1 hw.2.1 hw.2.2 q0 he hcl k hk (hc.2.2.2.2.1 _ hlink) (fun x h => by rw [← hdecl]; exact h) hfin (hty k hk) hn hfit hl hdg (fun H1 locs1 h1 h2 h3 => kk H1 locs1 ⟨h1, h2, h3⟩)
theorem xputN {C host : String} {T : u_T} {N ci index : Nat} {fs : List Value} {v : Value} {ty : FieldType} (hc : xC p s m args meth c cc nL own wds ret G A) (hw : xW G A s.heap ws H locs) (hin : ∀ w ∈ u_ws C T N, w ∈ wds) (ty0 : Nat → FieldType) (hty : ∀ k, k < N → parseFieldDescriptor (T k).2.2.1 = some (ty0 k)) (hnm : ∀ a, a < N → ∀ b, b < N → a ≠ b → (T a).2.1 ≠ (T b).2.1) (q0 : Nat) (w2 : va_W) (he : ws[q0]? = some (a, .inr (ci, fs))) (hcl : vwCl[ci]? = some (C, T, N)) (k : Nat) (hk : k < N) {ref : String} (hlink : Cond.fieldLinkNest own index ref (T k).2.1 (T k).2.2.1 host ∈ xNest) (hdecl : (T k).1 = ref) (hfin : (T k).2.2.2 = false) (hn : narrow (ty0 k) v = v) (hfit : fits (ty0 k) v = true) (hl : k < fs.length) (h2 : ws.set q0 (a, .inr (ci, fs.set k v)) = w2) (hdg : decode cc pc = .ok (.putfield index, 3))
    (kk : ∀ (H1 : Heap) (locs1 : List Loc), xW G A s.heap w2 H1 locs1 → W p l e R s m args below meth c H1 locs1 cells slots Q (F0 m (pc + 3) ls rest)) : W p l e R s m args below meth c H locs cells slots Q (F0 m pc ls (v :: .ref a :: rest)) := by
  subst h2
  exact va_putN hc.1 hc.2.1 hc.2.2.2.2.1 hin ty0 hty hnm hc.2.2.2.1 hc.2.2.2.2.2.2.2.1.1 hw.1 hw.2.1 hw.2.2 q0 he hcl k hk ((hc.2.2.2.2.2.2.2.1.2.1 _ hlink).use rfl) (fun x h => by rw [← hdecl]; exact h) hfin (hty k hk) hn hfit hl hdg (fun H1 locs1 h1 h2 h3 => kk H1 locs1 ⟨h1, h2, h3⟩)
theorem xputF {C : String} {T : u_T} {N ci index : Nat} {fs : List Value} {v : Value} {ty : FieldType} (hc : xC p s m args meth c cc nL own wds ret G A) (hw : xW G A s.heap ws H locs) (hin : ∀ w ∈ u_ws C T N, w ∈ wds) (ty0 : Nat → FieldType) (hty : ∀ k, k < N → parseFieldDescriptor (T k).2.2.1 = some (ty0 k)) (hnm : ∀ a, a < N → ∀ b, b < N → a ≠ b → (T a).2.1 ≠ (T b).2.1) (q0 : Nat) (w2 : va_W) (he : ws[q0]? = some (a, .inr (ci, fs))) (hcl : vwCl[ci]? = some (C, T, N)) (k : Nat) (hk : k < N) {ref : String} (hlink : Cond.fieldLink own index ref (T k).2.1 (T k).2.2.1 ∈ wds) (hdecl : (T k).1 = ref) (hfin : (T k).2.2.2 = true) (hin2 : meth.name = "<init>") (hdecl2 : (T k).1 = own) (hn : narrow (ty0 k) v = v) (hfit : fits (ty0 k) v = true) (hl : k < fs.length) (h2 : ws.set q0 (a, .inr (ci, fs.set k v)) = w2) (hdg : decode cc pc = .ok (.putfield index, 3))
    (kk : ∀ (H1 : Heap) (locs1 : List Loc), xW G A s.heap w2 H1 locs1 → W p l e R s m args below meth c H1 locs1 cells slots Q (F0 m (pc + 3) ls rest)) : W p l e R s m args below meth c H locs cells slots Q (F0 m pc ls (v :: .ref a :: rest)) := by
  subst h2
  exact va_putF hc.1 hc.2.1 hc.2.2.2.2.1 hin ty0 hty hnm hc.2.2.2.1 hc.2.2.2.2.2.2.2.1.1 hw.1 hw.2.1 hw.2.2 q0 he hcl k hk (hc.2.2.2.2.1 _ hlink) (fun x h => by rw [← hdecl]; exact h) hfin hin2 hdecl2 (hty k hk) hn hfit hl hdg (fun H1 locs1 h1 h2 h3 => kk H1 locs1 ⟨h1, h2, h3⟩)
theorem xiald (hc : xC p s m args meth c cc nL own wds ret G A) (hw : xW G A s.heap ws H locs) (q0 : Nat) {n : Nat} {f : Nat → Int32} {i : Int32} (ha : ws[q0]? = some (a, .inl (G.2.1.1, n, .inl f))) (hin : vp_in i n) (hdg : decode cc pc = .ok (.iaload, 1))
    (kk : W p l e R s m args below meth c H locs cells slots Q (F0 m (pc + 1) ls (.int (f i.toNatClampNeg) :: rest))) : W p l e R s m args below meth c H locs cells slots Q (F0 m pc ls (.int i :: .ref a :: rest)) :=
  va_iald hc.1 hc.2.1 hc.2.2.2.2.2.2.2.1.1 hw.1 q0 0 ha rfl hin hdg kk
theorem xzald (hc : xC p s m args meth c cc nL own wds ret G A) (hw : xW G A s.heap ws H locs) (q0 : Nat) {n : Nat} {f : Nat → Int32} {i : Int32} (ha : ws[q0]? = some (a, .inl (G.2.1.2.1, n, .inl f))) (hin : vp_in i n) (hdg : decode cc pc = .ok (.baload, 1))
    (kk : W p l e R s m args below meth c H locs cells slots Q (F0 m (pc + 1) ls (.int (f i.toNatClampNeg) :: rest))) : W p l e R s m args below meth c H locs cells slots Q (F0 m pc ls (.int i :: .ref a :: rest)) :=
  va_zald hc.1 hc.2.1 hc.2.2.2.2.2.2.2.1.1 hw.1 q0 1 ha rfl hin hdg kk
theorem xiast (hc : xC p s m args meth c cc nL own wds ret G A) (hw : xW G A s.heap ws H locs) (q0 : Nat) (w2 : va_W) {n : Nat} {f : Nat → Int32} {i x : Int32} (ha : ws[q0]? = some (a, .inl (G.2.1.1, n, .inl f))) (hin : vp_in i n) (h2 : ws.set q0 (a, .inl (G.2.1.1, n, .inl (upd f i.toNatClampNeg x))) = w2) (hdg : decode cc pc = .ok (.iastore, 1))
    (kk : ∀ (H1 : Heap) (locs1 : List Loc), xW G A s.heap w2 H1 locs1 → W p l e R s m args below meth c H1 locs1 cells slots Q (F0 m (pc + 1) ls rest)) : W p l e R s m args below meth c H locs cells slots Q (F0 m pc ls (.int x :: .int i :: .ref a :: rest)) := by
  subst h2
  exact va_iast hc.1 hc.2.1 hc.2.2.2.2.2.2.2.1.1 hw.1 hw.2.1 hw.2.2 q0 0 ha rfl hin hdg (fun H1 locs1 h1 h2 h3 => kk H1 locs1 ⟨h1, h2, h3⟩)
theorem xzast (hc : xC p s m args meth c cc nL own wds ret G A) (hw : xW G A s.heap ws H locs) (q0 : Nat) (w2 : va_W) {n : Nat} {f : Nat → Int32} {i x : Int32} (ha : ws[q0]? = some (a, .inl (G.2.1.2.1, n, .inl f))) (hin : vp_in i n) (hx : vp_nar .boolean x = x) (h2 : ws.set q0 (a, .inl (G.2.1.2.1, n, .inl (upd f i.toNatClampNeg x))) = w2) (hdg : decode cc pc = .ok (.bastore, 1))
    (kk : ∀ (H1 : Heap) (locs1 : List Loc), xW G A s.heap w2 H1 locs1 → W p l e R s m args below meth c H1 locs1 cells slots Q (F0 m (pc + 1) ls rest)) : W p l e R s m args below meth c H locs cells slots Q (F0 m pc ls (.int x :: .int i :: .ref a :: rest)) := by
  subst h2
  refine va_zast hc.1 hc.2.1 hc.2.2.2.2.2.2.2.1.1 hw.1 hw.2.1 hw.2.2 q0 1 ha rfl hin hdg (fun H1 locs1 h1 h2 h3 => ?_)
  rw [hx] at h1 h2
  exact kk H1 locs1 ⟨h1, h2, h3⟩
theorem xalenI (hc : xC p s m args meth c cc nL own wds ret G A) (hw : xW G A s.heap ws H locs) (q0 : Nat) {x : vp_A} {v : Int32} (ha : ws[q0]? = some (a, .inl (G.2.1.1, x))) (hv : Int32.ofNat x.1 = v) (hdg : decode cc pc = .ok (.arraylength, 1))
    (kk : W p l e R s m args below meth c H locs cells slots Q (F0 m (pc + 1) ls (.int v :: rest))) : W p l e R s m args below meth c H locs cells slots Q (F0 m pc ls (.ref a :: rest)) :=
  va_alen hc.1 hc.2.1 hc.2.2.2.2.2.2.2.1.1 hw.1 q0 0 ha (ty := .int) rfl hv hdg kk
theorem xalenZ (hc : xC p s m args meth c cc nL own wds ret G A) (hw : xW G A s.heap ws H locs) (q0 : Nat) {x : vp_A} {v : Int32} (ha : ws[q0]? = some (a, .inl (G.2.1.2.1, x))) (hv : Int32.ofNat x.1 = v) (hdg : decode cc pc = .ok (.arraylength, 1))
    (kk : W p l e R s m args below meth c H locs cells slots Q (F0 m (pc + 1) ls (.int v :: rest))) : W p l e R s m args below meth c H locs cells slots Q (F0 m pc ls (.ref a :: rest)) :=
  va_alen hc.1 hc.2.1 hc.2.2.2.2.2.2.2.1.1 hw.1 q0 1 ha (ty := .boolean) rfl hv hdg kk
end ROW
end XR
end
section
/-! small rows: what a method's function says of its answer and its world; counters; throws; new objects and rows -/
theorem xe2 {α β : Type} {f : α × β} {a : α} {b : β} (h : f = (a, b)) : a = f.1 ∧ b = f.2 := by rw [h]; exact ⟨rfl, rfl⟩
theorem xe1 {β : Type} {f : Nat × β} {b : β} (h : f = (0, b)) : f.1 = 0 := by rw [h]
theorem xe2r {β : Type} {f : Nat × β} {b : β} (h : f = (0, b)) : f.1 = 0 ∧ b = f.2 := by rw [h]; exact ⟨rfl, rfl⟩
theorem xe2u {β : Type} {f : Nat × β} {b : β} (h : f = (0, b)) : f.1 = 0 ∧ b = f.2 := by rw [h]; exact ⟨rfl, rfl⟩
theorem xe3 {α β : Type} {f : Nat × α × β} {a : α} {b : β} (h : f = (0, a, b)) : f.1 = 0 ∧ a = f.2.1 ∧ b = f.2.2 := by rw [h]; exact ⟨rfl, rfl, rfl⟩
def xbind {α β : Type} (a : α) (f : α → β) : β := f a
def xbind2 {α β γ : Type} (a : α × β) (f : α → β → γ) : γ := f a.1 a.2
def xbt1 {γ : Type} (a : Nat × Unit) (d : γ) (b : Nat × γ) : Nat × γ := if a.1 = 0 then b else (a.1, d)
def xbt2 {α γ : Type} (a : Nat × α) (d : γ) (f : α → Nat × γ) : Nat × γ := if a.1 = 0 then f a.2 else (a.1, d)
def xbt3 {α β γ : Type} (a : Nat × α × β) (d : γ) (f : α → β → Nat × γ) : Nat × γ := if a.1 = 0 then f a.2.1 a.2.2 else (a.1, d)
theorem xb {α β : Type} {a r : α} {f : α → β} {b : β} (hp : r = a) (h : f r = b) : xbind a f = b := by subst hp; exact h
theorem xb2 {α β γ : Type} {a : α × β} {r : α} {u : β} {f : α → β → γ} {b : γ} (hp : r = a.1 ∧ u = a.2) (h : f r u = b) : xbind2 a f = b := by obtain ⟨rfl, rfl⟩ := hp; exact h
theorem xt1 {γ : Type} {a : Nat × Unit} {d : γ} {f b : Nat × γ} (hp : a.1 = 0) (h : f = b) : xbt1 a d f = b := by unfold xbt1; rw [if_pos hp]; exact h
theorem xt2 {α γ : Type} {a : Nat × α} {r : α} {d : γ} {f : α → Nat × γ} {b : Nat × γ} (hp : a.1 = 0 ∧ r = a.2) (h : f r = b) : xbt2 a d f = b := by obtain ⟨h0, rfl⟩ := hp; unfold xbt2; rw [if_pos h0]; exact h
theorem xt3 {α β γ : Type} {a : Nat × α × β} {r : α} {u : β} {d : γ} {f : α → β → Nat × γ} {b : Nat × γ} (hp : a.1 = 0 ∧ r = a.2.1 ∧ u = a.2.2) (h : f r u = b) : xbt3 a d f = b := by obtain ⟨h0, rfl, rfl⟩ := hp; unfold xbt3; rw [if_pos h0]; exact h
theorem xt1x {γ : Type} {a : Nat × Unit} {d : γ} {f : Nat × γ} {k : Nat} (hp : a.1 = k ∧ k ≠ 0) : xbt1 a d f = (a.1, d) := by unfold xbt1; rw [if_neg (by rw [hp.1]; exact hp.2)]
theorem xt2x {α γ : Type} {a : Nat × α} {d : γ} {f : α → Nat × γ} {k : Nat} (hp : a.1 = k ∧ k ≠ 0) : xbt2 a d f = (a.1, d) := by unfold xbt2; rw [if_neg (by rw [hp.1]; exact hp.2)]
theorem xt3x {α β γ : Type} {a : Nat × α × β} {d : γ} {f : α → β → Nat × γ} {k : Nat} (hp : a.1 = k ∧ k ≠ 0) : xbt3 a d f = (a.1, d) := by unfold xbt3; rw [if_neg (by rw [hp.1]; exact hp.2)]
theorem xtr1 {α : Type} {a b r : α} (h : a = b) (e : r = b) : r = a := e.trans h.symm
theorem xtr2 {α β : Type} {a b : α × β} {r : α} {u : β} (h : a = b) (e : r = b.1 ∧ u = b.2) : r = a.1 ∧ u = a.2 := by rw [h]; exact e
theorem xle (a b : Int32) : a ≤ b ↔ a.toInt ≤ b.toInt := Int32.le_iff_toInt_le
theorem xltI (a b : Int32) : a < b ↔ a.toInt < b.toInt := Int32.lt_iff_toInt_lt
theorem xeqI (a b : Int32) : a = b ↔ a.toInt = b.toInt := Int32.toInt_inj.symm
theorem xmax (B : Int32) : B.toInt < 2 ^ 31 := Int32.toInt_lt B
/-- a counter below its bound -/
theorem xlt {B : Int32} {i : Nat} (hlo : ((i : Nat) : Int) ≤ B.toInt) (h : ¬ B ≤ nI i) : ((i + 1 : Nat) : Int) ≤ B.toInt := by
  have h1 := xmax B
  rw [xle, nI_toInt (by omega)] at h
  omega
theorem xlt2 {B : Int32} {i : Nat} (hlo : ((i : Nat) : Int) ≤ B.toInt) (h : ¬ B ≤ nI i) : (i : Int) < B.toInt ∧ (nI i).toInt = i := by
  have h1 := xmax B
  rw [xle, nI_toInt (by omega)] at h
  exact ⟨by omega, nI_toInt (by omega)⟩
theorem xin {x : Int32} {n : Nat} (h : 0 ≤ x.toInt ∧ x.toInt < n) : vp_in x n := vp_in_iff.mpr h
theorem xcl {x : Int32} {n : Nat} (h : 0 ≤ x.toInt ∧ x.toInt < n) : x.toNatClampNeg < n := Nat.not_le.mp fun q => xin h (Or.inr q)
theorem xinI {i n : Nat} (h : i < n) (hn : n < 2 ^ 31) : vp_in (nI i) n := vp_in_nI h hn
def xcode (E : String) : Nat := if E = xIO then 1 else if E = xIA then 2 else if E = xIS then 3 else 0
theorem xcode_IO : xcode xIO = 0 + 1 := by decide +kernel
theorem xcode_IA : xcode xIA = 1 + 1 := by decide +kernel
theorem xcode_IS : xcode xIS = 2 + 1 := by decide +kernel
abbrev xups : List String := ["java/lang/RuntimeException", "java/lang/Exception"]
theorem xnon_IO : ∀ w ∈ (vx_atS RX3 212 xIO xups).filter (fun w => !goodWord w), w ∈ xNest := by decide +kernel
theorem xnon_IA : ∀ w ∈ (vx_atS RX3 47 xIA xups).filter (fun w => !goodWord w), w ∈ xNest := by decide +kernel
theorem xnon_IS : ∀ w ∈ (vx_atS RX3 36 xIS xups).filter (fun w => !goodWord w), w ∈ xNest := by decide +kernel
theorem xgood_IO : ∀ w ∈ Cond.classLink RX3 208 xIO :: Cond.initialized xIO :: vx_atS RX3 212 xIO xups, vx_ot w = true := by decide +kernel
theorem xgood_IA : ∀ w ∈ Cond.classLink RX3 43 xIA :: Cond.initialized xIA :: vx_atS RX3 47 xIA xups, vx_ot w = true := by decide +kernel
theorem xgood_IS : ∀ w ∈ Cond.classLink RX3 32 xIS :: Cond.initialized xIS :: vx_atS RX3 36 xIS xups, vx_ot w = true := by decide +kernel
theorem xnest_ot : ∀ w ∈ xNest, w.onTables = true := by decide +kernel
theorem xtyJ (t : ArrayType) : True := trivial
section XR2
variable {p : Program} {l : Launch} {e : Env} {R : Room} {s : State} {m : MethodId} {args : Array Value} {below : List Frame} {meth : Method} {c : Code} {H : Heap} {locs : List Loc} {cells slots : Nat} {Q : State → Prop}
variable {cc : ByteArray} {nL : Nat} {own : String} {wds : List Cond} {ret : Option FieldType} {G : xG} {A : Nat → Prop} {ws w0 : va_W} {sz : Nat} {pc : Nat} {ls : Array Slot} {rest : List Value}
theorem xldc {index : Nat} {v : Int32} (hc : xC p s m args meth c cc nL own wds ret G A) (hlk : Cond.constant own index v ∈ wds) (hdg : decode cc pc = .ok (.ldc index, 2)) (k : W p l e R s m args below meth c H locs cells slots Q (F0 m (pc + 2) ls (.int v :: rest))) : W p l e R s m args below meth c H locs cells slots Q (F0 m pc ls rest) :=
  lv_ldc hc.1 hc.2.1 hc.2.2.2.1 (hc.2.2.2.2.1 _ hlk) hdg k
theorem xthrow {Qc : Array Value → State → Outcome → State → Prop} {cls text : String} {ik is ic n k9 mc ms : Nat} (hc : xC p s m args meth c cc nL own wds ret G (va_A w0 sz)) (hex : ∀ x ∈ c.exceptionTable.toList, False) (hst : l.stackTraces = false) (hw : xW G (va_A w0 sz) s.heap w0 H locs) (hxc : xcode cls = k9 + 1) (hn : n = k9 + 1) (hcls : Bundle.fit cls = true)
    (hk : Cond.classLink own ik cls ∈ wds) (hini : Cond.initialized cls ∈ wds) (kS : Nat) (hstr : xStrs[kS]? = some (own, is, text)) (hat : ∀ w ∈ (vx_atS own ic cls xups).filter goodWord, w ∈ wds) (hnon : ∀ w ∈ (vx_atS own ic cls xups).filter (fun w => !goodWord w), w ∈ xNest) (hgood : ∀ w ∈ Cond.classLink own ik cls :: Cond.initialized cls :: vx_atS own ic cls xups, vx_ot w = true)
    (d0 : decode cc pc = .ok (.new ik, 3)) (d3 : decode cc (pc + 3) = .ok (.dup, 1)) (d4 : decode cc (pc + 4) = .ok (.ldc is, 2)) (d6 : decode cc (pc + 6) = .ok (.invokespecial ic, 3)) (d9 : decode cc (pc + 9) = .ok (.athrow, 1)) (hsize : ls.size = nL) (hRf : 5 < R.frames) (hRl : (rest.map fun v => v.category).sum + 82 ≤ R.locals) (hR : cells + 1 ≤ R.cells ∧ slots + 6 ≤ R.slots) (hm : cells + 1 ≤ mc ∧ slots + 6 ≤ ms) :
    W p l e R s m args below meth c H locs cells slots (vx_MQ below Qc (xX G w0 sz (fun E => n = xcode E ∧ xcode E ≠ 0)) args s mc ms (va_A w0 sz)) (F0 m pc ls rest) := by
  obtain ⟨hx, hb, hml, hown, hts, hr, hlk, hE, hZ, hA⟩ := id hc
  refine vx_throwS (names := xups) (A := va_A w0 sz) hx hb hst hown hcls (by decide +kernel) (hts _ hk) (hts _ hini) (hE.2.2.2.1 kS _ hstr)
    (vx_hat (B := xNest) (fun w h => hts w (hat w h)) hnon (fun w h => (hE.2.1 w h).use (xnest_ot w h))) hgood hZ.1 hZ.2 hw.2.2 (hsize.trans hml.symm) d0 d3 d4 d6 d9 (fun x h => (hex x h).elim) hRf hRl hR.1 hR.2 hlk (fun t hvm hz hq => ?_) hw.2.2.2.2 hm.1 hm.2
  refine ⟨(), trivial, ⟨⟨hn.trans hxc.symm, by rw [hxc]; exact Nat.succ_ne_zero _⟩, hw.1.kept (fun k q h => hq q.1 ((hw.1 k q h).lt)), hw.2.1⟩, ⟨Nat.le_trans hw.2.2.1 hz, fun q h1 h2 => ?_⟩⟩
  rw [hq q (Nat.lt_of_lt_of_le h1 hw.2.2.1)]
  exact hw.2.2.2.1 q h1 h2
theorem xobj {idx : Nat} {a : Nat} (hc : xC p s m args meth c cc nL own wds ret G A) (hlink : Cond.methodLink own idx Lib.objectInit ∈ wds) (hinst : (Cond.instanceMethod Lib.objectInit).before args s = true) (hcode : (Cond.code Lib.objectInit ⟨#[0xb1]⟩ 1 none).before args s = true) (hl : ls.size = nL) (hd : decode cc pc = .ok (.invokespecial idx, 3))
    (hframes : 1 ≤ R.frames) (hlocals : (rest.map fun v => v.category).sum + 12 ≤ R.locals) (kk : W p l e R s m args below meth c H locs cells slots Q (F0 m (pc + 3) ls rest)) : W p l e R s m args below meth c H locs cells slots Q (F0 m pc ls (.ref a :: rest)) :=
  W.objInit hc.1 hc.2.1 hc.2.2.2.1 (hc.2.2.2.2.1 _ hlink) hinst hcode rfl (hl.trans hc.2.2.1.symm) rfl hd hframes (by simpa [JFrame.monitorRoom] using hlocals) kk
theorem xnew {C : String} {T : u_T} {N ci index : Nat} (hc : xC p s m args meth c cc nL own wds ret G A) (hw : xW G A s.heap ws H locs) (hin : ∀ w ∈ u_ws C T N, w ∈ wds) (ty : Nat → FieldType) (hty : ∀ k, k < N → parseFieldDescriptor (T k).2.2.1 = some (ty k)) (fs : List Value) (hcl : Cond.classLink own index C ∈ wds) (hinst : Cond.instantiable C N ∈ wds) (hini : Cond.initialized C ∈ wds) (hci : vwCl[ci]? = some (C, T, N)) (hfs : ∀ j, j < N → defaultValue (ty j) = vp_V fs j) (hcells : cells + 1 ≤ R.cells) (hslots : slots + N ≤ R.slots) (hdg : decode cc pc = .ok (.new index, 3))
    (kk : ∀ (q : Nat) (H1 : Heap), xW G A s.heap (ws ++ [(q, .inr (ci, fs))]) H1 locs → W p l e R s m args below meth c H1 locs (cells + 1) (slots + N) Q (F0 m (pc + 3) ls (.ref q :: rest))) : W p l e R s m args below meth c H locs cells slots Q (F0 m pc ls rest) :=
  va_new hc.1 hc.2.1 hc.2.2.2.2.1 hin ty hty hc.2.2.2.1 (hc.2.2.2.2.1 _ hcl) (hc.2.2.2.2.1 _ hinst) (hc.2.2.2.2.1 _ hini) hc.2.2.2.2.2.2.2.1.1 hw.1 hw.2.1 hw.2.2 hc.2.2.2.2.2.2.2.2.2 hci hfs hcells hslots hdg (fun q H1 h1 h2 h3 => kk q H1 ⟨h1, h2, h3⟩)
theorem xtyU {U : State} {ty : FieldType} {a b : ClassId} (h : ∀ C, ty ≠ .object C) (h1 : va_RA U a ty) (h2 : va_RA U b ty) : a = b := by
  cases ty <;> first | exact absurd rfl (h _) | exact Option.some.inj (Eq.trans (Eq.symm h1) h2)
theorem xnewaI (hc : xC p s m args meth c cc nL own wds ret G A) (hw : xW G A s.heap ws H locs) {n : Int32} (N' : Nat) (harr : Cond.arrayClass .int ∈ wds) (hn : ¬ n < 0) (hN : n.toNatClampNeg = N') (hbytes : N' * componentBytes .int ≤ 536870912) (hcells : cells + 1 ≤ R.cells) (hslots : slots + N' ≤ R.slots) (hdg : decode cc pc = .ok (.newarray .int, 2))
    (kk : ∀ (q : Nat) (H1 : Heap), xW G A s.heap (ws ++ [(q, .inl (G.2.1.1, N', .inl (fun _ => 0)))]) H1 locs → W p l e R s m args below meth c H1 locs (cells + 1) (slots + N') Q (F0 m (pc + 2) ls (.ref q :: rest))) : W p l e R s m args below meth c H locs cells slots Q (F0 m pc ls (.int n :: rest)) := by
  have hK := hc.2.2.2.2.2.2.2.1.1
  refine va_newa (atype := .int) (ty := .int) (a0 := (N', .inl (fun _ => 0))) hc.1 hc.2.1 (hc.2.2.2.2.1 _ harr) rfl hK hw.1 hw.2.1 hw.2.2 hc.2.2.2.2.2.2.2.2.2 (fun cA => rfl) hn hN hbytes hcells hslots hdg (fun q cA H1 k1 h1 h2 h3 => ?_)
  have e : cA = G.2.1.1 := xtyU (fun _ h => by cases h) (k1.2 4 (cA, .int) rfl).2 (hK.2 0 (G.2.1.1, .int) rfl).2
  subst e
  exact kk q H1 ⟨h1, h2, h3⟩
theorem xnewaZ (hc : xC p s m args meth c cc nL own wds ret G A) (hw : xW G A s.heap ws H locs) {n : Int32} (N' : Nat) (harr : Cond.arrayClass .boolean ∈ wds) (hn : ¬ n < 0) (hN : n.toNatClampNeg = N') (hbytes : N' * componentBytes .boolean ≤ 536870912) (hcells : cells + 1 ≤ R.cells) (hslots : slots + N' ≤ R.slots) (hdg : decode cc pc = .ok (.newarray .boolean, 2))
    (kk : ∀ (q : Nat) (H1 : Heap), xW G A s.heap (ws ++ [(q, .inl (G.2.1.2.1, N', .inl (fun _ => 0)))]) H1 locs → W p l e R s m args below meth c H1 locs (cells + 1) (slots + N') Q (F0 m (pc + 2) ls (.ref q :: rest))) : W p l e R s m args below meth c H locs cells slots Q (F0 m pc ls (.int n :: rest)) := by
  have hK := hc.2.2.2.2.2.2.2.1.1
  refine va_newa (atype := .boolean) (ty := .boolean) (a0 := (N', .inl (fun _ => 0))) hc.1 hc.2.1 (hc.2.2.2.2.1 _ harr) rfl hK hw.1 hw.2.1 hw.2.2 hc.2.2.2.2.2.2.2.2.2 (fun cA => rfl) hn hN hbytes hcells hslots hdg (fun q cA H1 k1 h1 h2 h3 => ?_)
  have e : cA = G.2.1.2.1 := xtyU (fun _ h => by cases h) (k1.2 4 (cA, .boolean) rfl).2 (hK.2 1 (G.2.1.2.1, .boolean) rfl).2
  subst e
  exact kk q H1 ⟨h1, h2, h3⟩
theorem xcopyI {index : Nat} {a0 a : Nat} {n0 n1 : Nat} {f g : Nat → Int32} (hc : xC p s m args meth c cc nL own wds ret G A) (hw : xW G A s.heap ws H locs) (q0 q1 : Nat) (w2 : va_W) {n : Int32} (hlk : Cond.methodLink own index arraycopyName ∈ wds) (hnat : Cond.native arraycopyName ∈ wds) (hsta : Cond.static arraycopyName ∈ wds) (hini : Cond.initialized "java/lang/System" ∈ wds)
    (ha0 : ws[q0]? = some (a0, .inl (G.2.1.1, n0, .inl f))) (ha1 : ws[q1]? = some (a, .inl (G.2.1.1, n1, .inl g))) (h2 : ws.set q1 (a, .inl (G.2.1.1, n1, .inl (va_cpy f g 0 0 n.toNatClampNeg))) = w2) (hfit : ∀ i, i < n.toNatClampNeg → fits .int (.int (f ((0 : Int32).toNatClampNeg + i))) = true) (h3 : ¬ n < 0 ∧ n.toNatClampNeg ≤ n0 ∧ n.toNatClampNeg ≤ n1) (hl : ls.size = nL)
    (hframes : 1 ≤ R.frames) (hlocals : (rest.map fun v => v.category).sum + (nativeFrameWords "java/lang/System" "arraycopy" 5 + 11) ≤ R.locals) (hdg : decode cc pc = .ok (.invokestatic index, 3))
    (kk : ∀ (H1 : Heap) (locs1 : List Loc), xW G A s.heap w2 H1 locs1 → W p l e R s m args below meth c H1 locs1 cells slots Q (F0 m (pc + 3) ls rest)) :
    W p l e R s m args below meth c H locs cells slots Q (F0 m pc ls (.int n :: .int 0 :: .ref a :: .int 0 :: .ref a0 :: rest)) := by
  subst h2
  exact va_copyi hc.1 hc.2.1 (hc.2.2.1.trans hl.symm) hc.2.2.2.1 (hc.2.2.2.2.1 _ hlk) (hc.2.2.2.2.1 _ hnat) (hc.2.2.2.2.1 _ hsta) (hc.2.2.2.2.1 _ hini) hc.2.2.2.2.2.2.2.1.1 hw.1 hw.2.1 hw.2.2 q0 q1 0 0 ha0 ha1 rfl rfl rfl (by decide) (by decide) h3.1 (by rw [show (0 : Int32).toNatClampNeg = 0 from rfl, Nat.zero_add]; exact h3.2.1) (by rw [show (0 : Int32).toNatClampNeg = 0 from rfl, Nat.zero_add]; exact h3.2.2) hfit hframes hlocals hdg (fun H1 locs1 h1 h2 h3 => kk H1 locs1 ⟨h1, h2, h3⟩)
theorem xcopyZ {index : Nat} {a0 a : Nat} {n0 n1 : Nat} {f g : Nat → Int32} (hc : xC p s m args meth c cc nL own wds ret G A) (hw : xW G A s.heap ws H locs) (q0 q1 : Nat) (w2 : va_W) {n : Int32} (hlk : Cond.methodLink own index arraycopyName ∈ wds) (hnat : Cond.native arraycopyName ∈ wds) (hsta : Cond.static arraycopyName ∈ wds) (hini : Cond.initialized "java/lang/System" ∈ wds)
    (ha0 : ws[q0]? = some (a0, .inl (G.2.1.2.1, n0, .inl f))) (ha1 : ws[q1]? = some (a, .inl (G.2.1.2.1, n1, .inl g))) (h2 : ws.set q1 (a, .inl (G.2.1.2.1, n1, .inl (va_cpy f g 0 0 n.toNatClampNeg))) = w2) (hfit : ∀ i, i < n.toNatClampNeg → fits .boolean (.int (f ((0 : Int32).toNatClampNeg + i))) = true) (h3 : ¬ n < 0 ∧ n.toNatClampNeg ≤ n0 ∧ n.toNatClampNeg ≤ n1) (hl : ls.size = nL)
    (hframes : 1 ≤ R.frames) (hlocals : (rest.map fun v => v.category).sum + (nativeFrameWords "java/lang/System" "arraycopy" 5 + 11) ≤ R.locals) (hdg : decode cc pc = .ok (.invokestatic index, 3))
    (kk : ∀ (H1 : Heap) (locs1 : List Loc), xW G A s.heap w2 H1 locs1 → W p l e R s m args below meth c H1 locs1 cells slots Q (F0 m (pc + 3) ls rest)) :
    W p l e R s m args below meth c H locs cells slots Q (F0 m pc ls (.int n :: .int 0 :: .ref a :: .int 0 :: .ref a0 :: rest)) := by
  subst h2
  exact va_copyi hc.1 hc.2.1 (hc.2.2.1.trans hl.symm) hc.2.2.2.1 (hc.2.2.2.2.1 _ hlk) (hc.2.2.2.2.1 _ hnat) (hc.2.2.2.2.1 _ hsta) (hc.2.2.2.2.1 _ hini) hc.2.2.2.2.2.2.2.1.1 hw.1 hw.2.1 hw.2.2 q0 q1 1 1 ha0 ha1 rfl rfl rfl (by decide) (by decide) h3.1 (by rw [show (0 : Int32).toNatClampNeg = 0 from rfl, Nat.zero_add]; exact h3.2.1) (by rw [show (0 : Int32).toNatClampNeg = 0 from rfl, Nat.zero_add]; exact h3.2.2) hfit hframes hlocals hdg (fun H1 locs1 h1 h2 h3 => kk H1 locs1 ⟨h1, h2, h3⟩)
end XR2
end
section
/-! pools: the cells at the addresses in L hold what f says; rows of ints, flags, references; an object; rows of the kit over them -/
/-- all at L stays there, and what it holds, but at the addresses that P names -/
def pk (P : Nat → Prop) (L : List Nat) (f : Nat → va_E) (L' : List Nat) (f' : Nat → va_E) : Prop := ∀ b, b ∈ L → b ∈ L' ∧ (¬ P b → f' b = f b)
theorem pk.rf {P : Nat → Prop} {L : List Nat} {f : Nat → va_E} : pk P L f L f := fun _ h => ⟨h, fun _ => rfl⟩
theorem pk.tr {P : Nat → Prop} {L L1 L2 : List Nat} {f f1 f2 : Nat → va_E} (h : pk P L f L1 f1) (k : pk P L1 f1 L2 f2) : pk P L f L2 f2 := fun b hb => ⟨(k b (h b hb).1).1, fun q => ((k b (h b hb).1).2 q).trans ((h b hb).2 q)⟩
theorem pk.mono {P Q : Nat → Prop} {L L1 : List Nat} {f f1 : Nat → va_E} (h : pk P L f L1 f1) (k : ∀ b, b ∈ L → P b → Q b) : pk Q L f L1 f1 := fun b hb => ⟨(h b hb).1, fun q => (h b hb).2 (fun z => q (k b hb z))⟩
theorem pself (vm : Vm) (a : ClassId) : vm.assignable a a = true := by
  unfold Vm.assignable
  rw [show (256 : Nat) = 255 + 1 from rfl, Vm.assignableAux]
  rw [show (a == a) = true from beq_self_eq_true a, Bool.true_or]
theorem pinI {j n : Nat} (hj : j < n) (hb : j < 2 ^ 31) : vp_in (nI j) n := fun q => q.elim (nI_pos hb) (fun h => by rw [nI_clamp hb] at h; omega)
def rowI (G : xG) (L : List Nat) (f : Nat → va_E) (a n : Nat) (g : Nat → Int32) : Prop := a ∈ L ∧ ∃ h : Nat → Int32, f a = .inl (G.2.1.1, n, .inl h) ∧ ∀ j, j < n → h j = g j
def rowZ (G : xG) (L : List Nat) (f : Nat → va_E) (a n : Nat) (g : Nat → Int32) : Prop := a ∈ L ∧ ∃ h : Nat → Int32, f a = .inl (G.2.1.2.1, n, .inl h) ∧ ∀ j, j < n → h j = g j
def rowA (G : xG) (L : List Nat) (f : Nat → va_E) (a n : Nat) (g : Nat → Option Nat) : Prop := a ∈ L ∧ ∃ h : Nat → Option Nat, f a = .inl (G.2.1.2.2.1, n, .inr (.inr (.inr (.inr h)))) ∧ ∀ j, j < n → h j = g j
def rowB (G : xG) (L : List Nat) (f : Nat → va_E) (a n : Nat) (g : Nat → Option Nat) : Prop := a ∈ L ∧ ∃ h : Nat → Option Nat, f a = .inl (G.2.1.2.2.2, n, .inr (.inr (.inr (.inr h)))) ∧ ∀ j, j < n → h j = g j
def objS (L : List Nat) (f : Nat → va_E) (a ci : Nat) (fs : List Value) : Prop := a ∈ L ∧ f a = .inr (ci, fs)
section PK
variable {G : xG} {P : Nat → Prop} {L L' : List Nat} {f f' : Nat → va_E} {a b n k ci : Nat} {g g' : Nat → Int32} {o o' : Nat → Option Nat} {fs : List Value}
theorem rowI.kp (h : rowI G L f a n g) (c : pk P L f L' f') (ha : ¬ P a) : rowI G L' f' a n g := by obtain ⟨h1, x, h2, h3⟩ := h; exact ⟨(c a h1).1, x, ((c a h1).2 ha).trans h2, h3⟩
theorem rowZ.kp (h : rowZ G L f a n g) (c : pk P L f L' f') (ha : ¬ P a) : rowZ G L' f' a n g := by obtain ⟨h1, x, h2, h3⟩ := h; exact ⟨(c a h1).1, x, ((c a h1).2 ha).trans h2, h3⟩
theorem rowA.kp (h : rowA G L f a n o) (c : pk P L f L' f') (ha : ¬ P a) : rowA G L' f' a n o := by obtain ⟨h1, x, h2, h3⟩ := h; exact ⟨(c a h1).1, x, ((c a h1).2 ha).trans h2, h3⟩
theorem rowB.kp (h : rowB G L f a n o) (c : pk P L f L' f') (ha : ¬ P a) : rowB G L' f' a n o := by obtain ⟨h1, x, h2, h3⟩ := h; exact ⟨(c a h1).1, x, ((c a h1).2 ha).trans h2, h3⟩
theorem objS.kp (h : objS L f a ci fs) (c : pk P L f L' f') (ha : ¬ P a) : objS L' f' a ci fs := ⟨(c a h.1).1, ((c a h.1).2 ha).trans h.2⟩
theorem rowI.cg (h : rowI G L f a n g) (e : ∀ j, j < n → g j = g' j) : rowI G L f a n g' := by obtain ⟨h1, x, h2, h3⟩ := h; exact ⟨h1, x, h2, fun j hj => (h3 j hj).trans (e j hj)⟩
theorem rowZ.cg (h : rowZ G L f a n g) (e : ∀ j, j < n → g j = g' j) : rowZ G L f a n g' := by obtain ⟨h1, x, h2, h3⟩ := h; exact ⟨h1, x, h2, fun j hj => (h3 j hj).trans (e j hj)⟩
theorem rowA.cg (h : rowA G L f a n o) (e : ∀ j, j < n → o j = o' j) : rowA G L f a n o' := by obtain ⟨h1, x, h2, h3⟩ := h; exact ⟨h1, x, h2, fun j hj => (h3 j hj).trans (e j hj)⟩
theorem rowI.neI (h : rowI G L f a n g) (h' : rowI G L f b k g') (e : n ≠ k) : a ≠ b := by
  rintro rfl
  obtain ⟨-, x, h2, -⟩ := h; obtain ⟨-, y, h4, -⟩ := h'
  rw [h2] at h4; injection h4 with h5; injection h5 with h6 h7; injection h7 with h8; exact e h8
theorem rowI.neZ (h : rowI G L f a n g) (h' : rowZ G L f b k g') (e : n ≠ k) : a ≠ b := by
  rintro rfl
  obtain ⟨-, x, h2, -⟩ := h; obtain ⟨-, y, h4, -⟩ := h'
  rw [h2] at h4; injection h4 with h5; injection h5 with h6 h7; injection h7 with h8; exact e h8
theorem rowI.neA (h : rowI G L f a n g) (h' : rowA G L f b k o) : a ≠ b := by
  rintro rfl
  obtain ⟨-, x, h2, -⟩ := h; obtain ⟨-, y, h4, -⟩ := h'
  rw [h2] at h4; injection h4 with h5; injection h5 with h6 h7; injection h7 with h8 h9; cases h9
theorem rowI.neB (h : rowI G L f a n g) (h' : rowB G L f b k o) : a ≠ b := by
  rintro rfl
  obtain ⟨-, x, h2, -⟩ := h; obtain ⟨-, y, h4, -⟩ := h'
  rw [h2] at h4; injection h4 with h5; injection h5 with h6 h7; injection h7 with h8 h9; cases h9
theorem rowZ.neA (h : rowZ G L f a n g) (h' : rowA G L f b k o) : a ≠ b := by
  rintro rfl
  obtain ⟨-, x, h2, -⟩ := h; obtain ⟨-, y, h4, -⟩ := h'
  rw [h2] at h4; injection h4 with h5; injection h5 with h6 h7; injection h7 with h8 h9; cases h9
theorem rowZ.neB (h : rowZ G L f a n g) (h' : rowB G L f b k o) : a ≠ b := by
  rintro rfl
  obtain ⟨-, x, h2, -⟩ := h; obtain ⟨-, y, h4, -⟩ := h'
  rw [h2] at h4; injection h4 with h5; injection h5 with h6 h7; injection h7 with h8 h9; cases h9
theorem objS.neI (h : objS L f a ci fs) (h' : rowI G L f b k g) : a ≠ b := by
  rintro rfl
  obtain ⟨-, y, h4, -⟩ := h'
  rw [h.2] at h4; cases h4
theorem objS.neZ (h : objS L f a ci fs) (h' : rowZ G L f b k g) : a ≠ b := by
  rintro rfl
  obtain ⟨-, y, h4, -⟩ := h'
  rw [h.2] at h4; cases h4
theorem objS.neA (h : objS L f a ci fs) (h' : rowA G L f b k o) : a ≠ b := by
  rintro rfl
  obtain ⟨-, y, h4, -⟩ := h'
  rw [h.2] at h4; cases h4
theorem objS.neB (h : objS L f a ci fs) (h' : rowB G L f b k o) : a ≠ b := by
  rintro rfl
  obtain ⟨-, y, h4, -⟩ := h'
  rw [h.2] at h4; cases h4
end PK
theorem pk_up (L : List Nat) (f : Nat → va_E) (a : Nat) (e : va_E) : pk (fun b => b = a) L f L (va_up f a e) := fun b hb => ⟨hb, fun h => va_up_ne _ _ h⟩
theorem pk_nw {L : List Nat} {f : Nat → va_E} {q : Nat} (h : q ∉ L) (e : va_E) : pk (fun _ => False) L f (L ++ [q]) (va_up f q e) := fun b hb => ⟨List.mem_append_left _ hb, fun _ => va_up_ne _ _ (fun z => h (z ▸ hb))⟩
theorem pmem (L : List Nat) (q : Nat) : q ∈ L ++ [q] := List.mem_append_right _ (List.mem_singleton.mpr rfl)
/-- a world of two parts of which a callee had the second -/
theorem pjoin {A0 : Nat → Prop} {D : va_G} {cl : List vw_C} {X pl pl1 : va_W} {H H1 : Heap} (hP : va_P D cl (X ++ pl) H) (hD : va_D A0 (X ++ pl)) (hk : ∀ q : Nat, q < H.size → ¬ va_A pl H.size q → H1[q]? = H[q]?) (hF : ∀ q, va_A pl H.size q → A0 q) (hP1 : va_P D cl pl1 H1) (hD1 : va_D (va_A pl H.size) pl1) : va_P D cl (X ++ pl1) H1 ∧ va_D A0 (X ++ pl1) := by
  have apart : ∀ (k : Nat) (q : Nat × va_E), X[k]? = some q → q.1 < H.size ∧ ¬ va_A pl H.size q.1 := by
    intro k q hq
    have hkl : k < X.length := (List.getElem?_eq_some_iff.mp hq).1
    have h2 : (X ++ pl)[k]? = some q := by rw [List.getElem?_append_left hkl]; exact hq
    have hl := (hP k q h2).lt
    refine ⟨hl, fun h => ?_⟩
    rcases h with ⟨k2, e, h⟩ | h
    · have h3 : (X ++ pl)[X.length + k2]? = some (q.1, e) := by rw [List.getElem?_append_right (by omega), Nat.add_sub_cancel_left]; exact h
      have := hD.1 _ _ q (q.1, e) h2 h3 rfl
      omega
    · omega
  have hX : va_D A0 X := ⟨fun i j p q hi hj e => hD.1 i j p q (by rw [List.getElem?_append_left (List.getElem?_eq_some_iff.mp hi).1]; exact hi) (by rw [List.getElem?_append_left (List.getElem?_eq_some_iff.mp hj).1]; exact hj) e,
    fun k q hq => hD.2 k q (by rw [List.getElem?_append_left (List.getElem?_eq_some_iff.mp hq).1]; exact hq)⟩
  refine ⟨va_P.app (fun k q hq => ?_) hP1, va_D.app hX (hD1.weaken (fun k q _ h => hF q.1 h)) (fun i j x y hx hy hxy => ?_)⟩
  · obtain ⟨g1, g2⟩ := apart k q hq
    exact (hP k q (by rw [List.getElem?_append_left (List.getElem?_eq_some_iff.mp hq).1]; exact hq)).kept (hk q.1 g1 g2)
  · exact (apart i x hx).2 (by rw [hxy]; exact hD1.2 j y hy)
/-- .. of which a callee had the first -/
theorem pjoinL {A0 : Nat → Prop} {D : va_G} {cl : List vw_C} {X X1 pl : va_W} {H H1 : Heap} (hP : va_P D cl (X ++ pl) H) (hD : va_D A0 (X ++ pl)) (hk : ∀ q : Nat, q < H.size → ¬ va_A X H.size q → H1[q]? = H[q]?) (hF : ∀ q, va_A X H.size q → A0 q) (hP1 : va_P D cl X1 H1) (hD1 : va_D (va_A X H.size) X1) : va_P D cl (X1 ++ pl) H1 ∧ va_D A0 (X1 ++ pl) := by
  have e0 : ((([] : va_W) ++ X) ++ pl) = X ++ pl := rfl
  have g1 : va_P D cl (pl ++ X) H := va_P.swap (a := []) (b := X) (c := pl) hP
  have g2 : va_D A0 (pl ++ X) := va_D.swap (a := []) (b := X) (c := pl) hD
  obtain ⟨k1, k2⟩ := pjoin g1 g2 hk hF hP1 hD1
  exact ⟨va_P.swap (a := []) (b := pl) (c := X1) k1, va_D.swap (a := []) (b := pl) (c := X1) k2⟩
section PR
variable {p : Program} {l : Launch} {e : Env} {R : Room} {s : State} {m : MethodId} {args : Array Value} {below : List Frame} {meth : Method} {c : Code} {H : Heap} {locs : List Loc} {cells slots : Nat} {Q : State → Prop}
variable {cc : ByteArray} {nL : Nat} {own : String} {wds : List Cond} {ret : Option FieldType} {G : xG} {A : Nat → Prop} {X : va_W} {L : List Nat} {f : Nat → va_E} {pc : Nat} {ls : Array Slot} {st0 rest : List Value} {a n : Nat} {g : Nat → Int32} {o : Nat → Option Nat}
theorem pget {C : String} {T : u_T} {N ci index : Nat} {fs : List Value} {v : Value} (hc : xC p s m args meth c cc nL own wds ret G A) (hw : xW G A s.heap (X ++ va_pl L f) H locs) (hin : ∀ w ∈ u_ws C T N, w ∈ wds) (h : objS L f a ci fs) (hcl : vwCl[ci]? = some (C, T, N)) (k : Nat) (hk : k < N) {ref : String} (hlink : Cond.fieldLink own index ref (T k).2.1 (T k).2.2.1 ∈ wds) (hdecl : (T k).1 = ref) (hv : fs[k]? = some v) (hdg : decode cc pc = .ok (.getfield index, 3))
    (kk : W p l e R s m args below meth c H locs cells slots Q (F0 m (pc + 3) ls (v :: rest))) : W p l e R s m args below meth c H locs cells slots Q (F0 m pc ls (.ref a :: rest)) := by
  obtain ⟨q0, h0⟩ := va_pl_get (X := X) (f := f) h.1
  rw [h.2] at h0
  exact xget hc hw hin q0 h0 hcl k hk hlink hdecl hv hdg kk
theorem pput {C : String} {T : u_T} {N ci index : Nat} {fs : List Value} {v : Value} {ty : FieldType} (hc : xC p s m args meth c cc nL own wds ret G A) (hw : xW G A s.heap (X ++ va_pl L f) H locs) (hin : ∀ w ∈ u_ws C T N, w ∈ wds) (ty0 : Nat → FieldType) (hty : ∀ k, k < N → parseFieldDescriptor (T k).2.2.1 = some (ty0 k)) (hnm : ∀ a, a < N → ∀ b, b < N → a ≠ b → (T a).2.1 ≠ (T b).2.1) (h : objS L f a ci fs) (hcl : vwCl[ci]? = some (C, T, N)) (k : Nat) (hk : k < N) {ref : String} (hlink : Cond.fieldLink own index ref (T k).2.1 (T k).2.2.1 ∈ wds) (hdecl : (T k).1 = ref) (hfin : (T k).2.2.2 = false) (hn : narrow (ty0 k) v = v) (hfit : fits (ty0 k) v = true) (hl : k < fs.length) (fs2 : List Value) (h2 : fs.set k v = fs2) (hdg : decode cc pc = .ok (.putfield index, 3))
    (kk : ∀ (f' : Nat → va_E) (H1 : Heap) (locs1 : List Loc), pk (fun b => b = a) L f L f' → objS L f' a ci fs2 → xW G A s.heap (X ++ va_pl L f') H1 locs1 → W p l e R s m args below meth c H1 locs1 cells slots Q (F0 m (pc + 3) ls rest)) : W p l e R s m args below meth c H locs cells slots Q (F0 m pc ls (v :: .ref a :: rest)) := by
  subst h2
  obtain ⟨q0, h0⟩ := va_pl_get (X := X) (f := f) h.1
  have hs := va_pl_set (e := .inr (ci, fs.set k v)) hw.2.1 h.1 h0
  rw [h.2] at h0
  exact xput (ty := .int) hc hw hin ty0 hty hnm q0 _ h0 hcl k hk hlink hdecl hfin hn hfit hl hs hdg (fun H1 locs1 hw1 => kk _ H1 locs1 (pk_up L f a _) ⟨h.1, va_up_self _ _ _⟩ hw1)
theorem pild (hc : xC p s m args meth c cc nL own wds ret G A) (hw : xW G A s.heap (X ++ va_pl L f) H locs) (h : rowI G L f a n g) {i : Int32} (j : Nat) (hi : i = nI j) (hj : j < n) (hb : j < 2 ^ 31) {v : Int32} (hv : g j = v) (hdg : decode cc pc = .ok (.iaload, 1))
    (kk : W p l e R s m args below meth c H locs cells slots Q (F0 m (pc + 1) ls (.int v :: rest))) : W p l e R s m args below meth c H locs cells slots Q (F0 m pc ls (.int i :: .ref a :: rest)) := by
  subst hv
  subst hi
  obtain ⟨h1, x, h2, h3⟩ := h
  obtain ⟨q0, h0⟩ := va_pl_get (X := X) (f := f) h1
  rw [h2] at h0
  refine xiald hc hw q0 h0 (pinI hj hb) hdg ?_
  rw [nI_clamp hb, h3 j hj]
  exact kk
theorem pzld (hc : xC p s m args meth c cc nL own wds ret G A) (hw : xW G A s.heap (X ++ va_pl L f) H locs) (h : rowZ G L f a n g) {i : Int32} (j : Nat) (hi : i = nI j) (hj : j < n) (hb : j < 2 ^ 31) {v : Int32} (hv : g j = v) (hdg : decode cc pc = .ok (.baload, 1))
    (kk : W p l e R s m args below meth c H locs cells slots Q (F0 m (pc + 1) ls (.int v :: rest))) : W p l e R s m args below meth c H locs cells slots Q (F0 m pc ls (.int i :: .ref a :: rest)) := by
  subst hv
  subst hi
  obtain ⟨h1, x, h2, h3⟩ := h
  obtain ⟨q0, h0⟩ := va_pl_get (X := X) (f := f) h1
  rw [h2] at h0
  refine xzald hc hw q0 h0 (pinI hj hb) hdg ?_
  rw [nI_clamp hb, h3 j hj]
  exact kk
theorem pist (hc : xC p s m args meth c cc nL own wds ret G A) (hw : xW G A s.heap (X ++ va_pl L f) H locs) (h : rowI G L f a n g) {i x : Int32} (j : Nat) (hi : i = nI j) (hj : j < n) (hb : j < 2 ^ 31) (hdg : decode cc pc = .ok (.iastore, 1))
    (kk : ∀ (f' : Nat → va_E) (H1 : Heap) (locs1 : List Loc), pk (fun b => b = a) L f L f' → rowI G L f' a n (upd g j x) → xW G A s.heap (X ++ va_pl L f') H1 locs1 → W p l e R s m args below meth c H1 locs1 cells slots Q (F0 m (pc + 1) ls rest)) : W p l e R s m args below meth c H locs cells slots Q (F0 m pc ls (.int x :: .int i :: .ref a :: rest)) := by
  subst hi
  obtain ⟨h1, y, h2, h3⟩ := h
  obtain ⟨q0, h0⟩ := va_pl_get (X := X) (f := f) h1
  have hs := va_pl_set (e := .inl (G.2.1.1, n, .inl (upd y j x))) hw.2.1 h1 h0
  rw [h2] at h0
  refine xiast hc hw q0 _ h0 (pinI hj hb) (by rw [nI_clamp hb]; exact hs) hdg (fun H1 locs1 hw1 => kk _ H1 locs1 (pk_up L f a _) ⟨h1, _, va_up_self _ _ _, fun t ht => ?_⟩ hw1)
  by_cases c : t = j
  · subst c; rw [pk_us, pk_us]
  · rw [pk_un c, pk_un c]; exact h3 t ht
theorem pzst (hc : xC p s m args meth c cc nL own wds ret G A) (hw : xW G A s.heap (X ++ va_pl L f) H locs) (h : rowZ G L f a n g) {i x : Int32} (j : Nat) (hi : i = nI j) (hj : j < n) (hb : j < 2 ^ 31) (hx : vp_nar .boolean x = x) (hdg : decode cc pc = .ok (.bastore, 1))
    (kk : ∀ (f' : Nat → va_E) (H1 : Heap) (locs1 : List Loc), pk (fun b => b = a) L f L f' → rowZ G L f' a n (upd g j x) → xW G A s.heap (X ++ va_pl L f') H1 locs1 → W p l e R s m args below meth c H1 locs1 cells slots Q (F0 m (pc + 1) ls rest)) : W p l e R s m args below meth c H locs cells slots Q (F0 m pc ls (.int x :: .int i :: .ref a :: rest)) := by
  subst hi
  obtain ⟨h1, y, h2, h3⟩ := h
  obtain ⟨q0, h0⟩ := va_pl_get (X := X) (f := f) h1
  have hs := va_pl_set (e := .inl (G.2.1.2.1, n, .inl (upd y j x))) hw.2.1 h1 h0
  rw [h2] at h0
  refine xzast hc hw q0 _ h0 (pinI hj hb) hx (by rw [nI_clamp hb]; exact hs) hdg (fun H1 locs1 hw1 => kk _ H1 locs1 (pk_up L f a _) ⟨h1, _, va_up_self _ _ _, fun t ht => ?_⟩ hw1)
  by_cases c : t = j
  · subst c; rw [pk_us, pk_us]
  · rw [pk_un c, pk_un c]; exact h3 t ht
theorem pald (hc : xC p s m args meth c cc nL own wds ret G A) (hw : xW G A s.heap (X ++ va_pl L f) H locs) (h : rowA G L f a n o) {i : Int32} (j : Nat) (hi : i = nI j) (hj : j < n) (hb : j < 2 ^ 31) {v : Value} (hv : va_rf (o j) = v) (hdg : decode cc pc = .ok (.aaload, 1))
    (kk : W p l e R s m args below meth c H locs cells slots Q (F0 m (pc + 1) ls (v :: rest))) : W p l e R s m args below meth c H locs cells slots Q (F0 m pc ls (.int i :: .ref a :: rest)) := by
  subst hv
  subst hi
  obtain ⟨h1, x, h2, h3⟩ := h
  obtain ⟨q0, h0⟩ := va_pl_get (X := X) (f := f) h1
  rw [h2] at h0
  have hK := hc.2.2.2.2.2.2.2.1.1
  refine W.aald (v := va_rf (x j)) (ty := .array .int) hc.1 hc.2.1 (hw.1 q0 _ h0) ((hK.2 2 _ rfl).1 n (fun t => va_rf (x t))) rfl (fun q => by cases q) (by show ¬ (nI j < 0 ∨ (arrV _ _ _).slots.size ≤ _); rw [arrV_size]; exact pinI hj hb) (by show (arrV _ _ _).slots[_]? = _; rw [nI_clamp hb, arrV_read _ _ hj]) rfl rfl hdg ?_
  rw [h3 j hj]
  exact kk
theorem pbld (hc : xC p s m args meth c cc nL own wds ret G A) (hw : xW G A s.heap (X ++ va_pl L f) H locs) (h : rowB G L f a n o) {i : Int32} (j : Nat) (hi : i = nI j) (hj : j < n) (hb : j < 2 ^ 31) {v : Value} (hv : va_rf (o j) = v) (hdg : decode cc pc = .ok (.aaload, 1))
    (kk : W p l e R s m args below meth c H locs cells slots Q (F0 m (pc + 1) ls (v :: rest))) : W p l e R s m args below meth c H locs cells slots Q (F0 m pc ls (.int i :: .ref a :: rest)) := by
  subst hv
  subst hi
  obtain ⟨h1, x, h2, h3⟩ := h
  obtain ⟨q0, h0⟩ := va_pl_get (X := X) (f := f) h1
  rw [h2] at h0
  have hK := hc.2.2.2.2.2.2.2.1.1
  refine W.aald (v := va_rf (x j)) (ty := .array (.array .int)) hc.1 hc.2.1 (hw.1 q0 _ h0) ((hK.2 3 _ rfl).1 n (fun t => va_rf (x t))) rfl (fun q => by cases q) (by show ¬ (nI j < 0 ∨ (arrV _ _ _).slots.size ≤ _); rw [arrV_size]; exact pinI hj hb) (by show (arrV _ _ _).slots[_]? = _; rw [nI_clamp hb, arrV_read _ _ hj]) rfl rfl hdg ?_
  rw [h3 j hj]
  exact kk
theorem plenI (hc : xC p s m args meth c cc nL own wds ret G A) (hw : xW G A s.heap (X ++ va_pl L f) H locs) (h : rowI G L f a n g) (hdg : decode cc pc = .ok (.arraylength, 1))
    (kk : W p l e R s m args below meth c H locs cells slots Q (F0 m (pc + 1) ls (.int (nI n) :: rest))) : W p l e R s m args below meth c H locs cells slots Q (F0 m pc ls (.ref a :: rest)) := by
  obtain ⟨h1, x, h2, h3⟩ := h
  obtain ⟨q0, h0⟩ := va_pl_get (X := X) (f := f) h1
  rw [h2] at h0
  exact va_alen hc.1 hc.2.1 hc.2.2.2.2.2.2.2.1.1 hw.1 q0 0 h0 (ty := .int) rfl rfl hdg kk
theorem plenA (hc : xC p s m args meth c cc nL own wds ret G A) (hw : xW G A s.heap (X ++ va_pl L f) H locs) (h : rowA G L f a n o) (hdg : decode cc pc = .ok (.arraylength, 1))
    (kk : W p l e R s m args below meth c H locs cells slots Q (F0 m (pc + 1) ls (.int (nI n) :: rest))) : W p l e R s m args below meth c H locs cells slots Q (F0 m pc ls (.ref a :: rest)) := by
  obtain ⟨h1, x, h2, h3⟩ := h
  obtain ⟨q0, h0⟩ := va_pl_get (X := X) (f := f) h1
  rw [h2] at h0
  exact va_alen hc.1 hc.2.1 hc.2.2.2.2.2.2.2.1.1 hw.1 q0 2 h0 (ty := .array .int) rfl rfl hdg kk
theorem plenB (hc : xC p s m args meth c cc nL own wds ret G A) (hw : xW G A s.heap (X ++ va_pl L f) H locs) (h : rowB G L f a n o) (hdg : decode cc pc = .ok (.arraylength, 1))
    (kk : W p l e R s m args below meth c H locs cells slots Q (F0 m (pc + 1) ls (.int (nI n) :: rest))) : W p l e R s m args below meth c H locs cells slots Q (F0 m pc ls (.ref a :: rest)) := by
  obtain ⟨h1, x, h2, h3⟩ := h
  obtain ⟨q0, h0⟩ := va_pl_get (X := X) (f := f) h1
  rw [h2] at h0
  exact va_alen hc.1 hc.2.1 hc.2.2.2.2.2.2.2.1.1 hw.1 q0 3 h0 (ty := .array (.array .int)) rfl rfl hdg kk
theorem ppush {E : va_E} {q : Nat} {H1 : Heap} {locs1 : List Loc} (hw : xW G A s.heap ((X ++ va_pl L f) ++ [(q, E)]) H1 locs1) : q ∉ L ∧ xW G A s.heap (X ++ va_pl (L ++ [q]) (va_up f q E)) H1 locs1 := by
  have hq : q ∉ L := va_pl_fresh2 hw.2.1
  refine ⟨hq, ?_⟩
  rw [List.append_assoc, va_pl_push hq] at hw
  exact hw
theorem pnewI (hc : xC p s m args meth c cc nL own wds ret G A) (hw : xW G A s.heap (X ++ va_pl L f) H locs) (N : Nat) {v : Int32} (hv : v = nI N) (hN : N < 100000) (harr : Cond.arrayClass .int ∈ wds) (hcells : cells + 1 ≤ R.cells) (hslots : slots + N ≤ R.slots) (hdg : decode cc pc = .ok (.newarray .int, 2))
    (kk : ∀ (q : Nat) (L' : List Nat) (f' : Nat → va_E) (H1 : Heap), q ∉ L → pk (fun _ => False) L f L' f' → rowI G L' f' q N (fun _ => 0) → xW G A s.heap (X ++ va_pl L' f') H1 locs → W p l e R s m args below meth c H1 locs (cells + 1) (slots + N) Q (F0 m (pc + 2) ls (.ref q :: rest))) : W p l e R s m args below meth c H locs cells slots Q (F0 m pc ls (.int v :: rest)) := by
  subst hv
  refine xnewaI hc hw N harr (nI_pos (by omega)) (nI_clamp (by omega)) (by show N * 4 ≤ 536870912; omega) hcells hslots hdg (fun q H1 hw1 => ?_)
  obtain ⟨h1, h2⟩ := ppush hw1
  exact kk q _ _ H1 h1 (pk_nw h1 _) ⟨pmem L q, _, va_up_self _ _ _, fun _ _ => rfl⟩ h2
theorem pnewZ (hc : xC p s m args meth c cc nL own wds ret G A) (hw : xW G A s.heap (X ++ va_pl L f) H locs) (N : Nat) {v : Int32} (hv : v = nI N) (hN : N < 100000) (harr : Cond.arrayClass .boolean ∈ wds) (hcells : cells + 1 ≤ R.cells) (hslots : slots + N ≤ R.slots) (hdg : decode cc pc = .ok (.newarray .boolean, 2))
    (kk : ∀ (q : Nat) (L' : List Nat) (f' : Nat → va_E) (H1 : Heap), q ∉ L → pk (fun _ => False) L f L' f' → rowZ G L' f' q N (fun _ => 0) → xW G A s.heap (X ++ va_pl L' f') H1 locs → W p l e R s m args below meth c H1 locs (cells + 1) (slots + N) Q (F0 m (pc + 2) ls (.ref q :: rest))) : W p l e R s m args below meth c H locs cells slots Q (F0 m pc ls (.int v :: rest)) := by
  subst hv
  refine xnewaZ hc hw N harr (nI_pos (by omega)) (nI_clamp (by omega)) (by show N * 1 ≤ 536870912; omega) hcells hslots hdg (fun q H1 hw1 => ?_)
  obtain ⟨h1, h2⟩ := ppush hw1
  exact kk q _ _ H1 h1 (pk_nw h1 _) ⟨pmem L q, _, va_up_self _ _ _, fun _ _ => rfl⟩ h2
/-- the array of rows of ints: its component is the class of rows of ints -/
theorem pcomp {U : State} (hE : xE G U) : ∃ kA : Class, U.vm.classes[G.2.1.2.2.1]? = some kA ∧ kA.kind = .array G.2.1.1 (.array .int) ∧ (∃ kI : Class, U.vm.classes[G.2.1.1]? = some kI) ∧ U.vm.findClass (FieldType.array .int).toString = some G.2.1.1 ∧ U.vm.findClass ("[" ++ (FieldType.array .int).toString) = some G.2.1.2.2.1 := by
  obtain ⟨comp, cA, kA, g1, g2, g3, g4, g5⟩ := arrayOverA_spec (hE.2.2.2.2.1)
  have r0 : U.vm.findClass (FieldType.array .int).toString = some G.2.1.1 := (hE.1.2 0 (G.2.1.1, .int) rfl).2
  have r2 : U.vm.findClass ("[" ++ (FieldType.array .int).toString) = some G.2.1.2.2.1 := (hE.1.2 2 (G.2.1.2.2.1, .array .int) rfl).2
  have e1 : comp = G.2.1.1 := Option.some.inj (g1.symm.trans r0)
  have e2 : cA = G.2.1.2.2.1 := Option.some.inj (g5.symm.trans r2)
  subst e1; subst e2
  obtain ⟨-, kI, hkI, -⟩ := (hE.1.2 0 (G.2.1.1, .int) rfl).1 0 (fun _ => .null)
  exact ⟨kA, g3, g4, ⟨kI, hkI⟩, r0, r2⟩
theorem past (hc : xC p s m args meth c cc nL own wds ret G A) (hw : xW G A s.heap (X ++ va_pl L f) H locs) (h : rowA G L f a n o) {i : Int32} {q n2 : Nat} {g2 : Nat → Int32} (j : Nat) (hi : i = nI j) (hj : j < n) (hb : j < 2 ^ 31) (hq : rowI G L f q n2 g2) (hdg : decode cc pc = .ok (.aastore, 1))
    (kk : ∀ (f' : Nat → va_E) (H1 : Heap) (locs1 : List Loc), pk (fun b => b = a) L f L f' → rowA G L f' a n (va_up o j (some q)) → xW G A s.heap (X ++ va_pl L f') H1 locs1 → W p l e R s m args below meth c H1 locs1 cells slots Q (F0 m (pc + 1) ls rest)) : W p l e R s m args below meth c H locs cells slots Q (F0 m pc ls (.ref q :: .int i :: .ref a :: rest)) := by
  subst hi
  obtain ⟨h1, y, h2, h3⟩ := h
  obtain ⟨q0, h0⟩ := va_pl_get (X := X) (f := f) h1
  have hs := va_pl_set (e := .inl (G.2.1.2.2.1, n, .inr (.inr (.inr (.inr (va_up y j (some q))))))) hw.2.1 h1 h0
  rw [h2] at h0
  obtain ⟨hq1, z, hq2, hq3⟩ := hq
  obtain ⟨q1, h9⟩ := va_pl_get (X := X) (f := f) hq1
  rw [hq2] at h9
  obtain ⟨kA, k1, k2, ⟨kI, k3⟩, -, -⟩ := pcomp hc.2.2.2.2.2.2.2.1
  have hcv : H[q]? = some (vp_cell G.2.1.1 (n2, .inl z)) := hw.1 q1 _ h9
  refine W.aast hc.1 hc.2.1 (hw.1 q0 _ h0) (fun q h => by cases h) (fun h => by cases h) k1 k2 rfl k3 ⟨nI_pos hb, by show _ < (arrV _ _ _).slots.size; rw [arrV_size, nI_clamp hb]; exact hj⟩ hcv (fun q h => by cases h) k3 (pself s.vm G.2.1.1) rfl rfl hdg fun H1 e z1 oq => ?_
  have hset : va_P G.1 vwCl ((X ++ va_pl L f).set q0 (a, .inl (G.2.1.2.2.1, n, .inr (.inr (.inr (.inr (va_up y j (some q)))))))) H1 := by
    refine hw.1.set hw.2.1 h0 ?_ oq
    show H1[a]? = some (vp_cell _ _)
    rw [e, nI_clamp hb, vp_cell_q, vp_cell_q, arrV_store]
    congr 2
    funext t
    by_cases ht : t = j
    · subst ht
      simp [updV, va_up, va_rf]
    · simp [updV, va_up, ht]
  have hD2 := hw.2.1.set (e := .inl (G.2.1.2.2.1, n, .inr (.inr (.inr (.inr (va_up y j (some q))))))) h0
  rw [hs] at hset hD2
  refine kk _ H1 _ (pk_up L f a _) ⟨h1, _, va_up_self _ _ _, fun t ht => ?_⟩ ⟨hset, hD2, hw.2.2.put z1 oq (hw.2.1.2 q0 _ h0)⟩
  by_cases c : t = j
  · subst c; rw [va_up_self, va_up_self]
  · rw [va_up_ne _ _ c, va_up_ne _ _ c]; exact h3 t ht
end PR
end
section
/-! pools: null stored, a row of rows made; contracts, calls and ends -/
section PS
variable {p : Program} {l : Launch} {e : Env} {R : Room} {s : State} {m : MethodId} {args : Array Value} {below : List Frame} {meth : Method} {c : Code} {H : Heap} {locs : List Loc} {cells slots : Nat} {Q : State → Prop}
variable {cc : ByteArray} {nL : Nat} {own : String} {wds : List Cond} {ret : Option FieldType} {G : xG} {A : Nat → Prop} {X : va_W} {L : List Nat} {f : Nat → va_E} {pc : Nat} {ls : Array Slot} {st0 rest : List Value} {a n : Nat} {g : Nat → Int32} {o : Nat → Option Nat}
theorem pnull0 {T : State} (Y : Stand p l e R s m args below meth c T locs cells slots) (hexec : p.tables.exec = Jvm.exec) {a : Addr} {cell : Cell} {ty : FieldType} {j : Int32} (hcell : T.heap[a]? = some cell) (harr : s.isArrayOf cell (.array ty)) (hknown : cell.vm ≠ .unknown)
    (hin : ¬ (j < 0 ∨ cell.slots.size ≤ j.toNatClampNeg)) {fr : JFrame} (hg : fr.method = m) {rest : List Value} (hstack : fr.stack = .null :: .int j :: .ref a :: rest) (hdg : decode c.code fr.pc = .ok (.aastore, 1)) :
    Stand p l e R s m args below meth c (T.setCell a (cell.setSlot j.toNatClampNeg .null)) (locs ++ [⟨a, j.toNatClampNeg⟩]) cells slots ∧
      ∀ target, Steps p.tables e below ((T.setCell a (cell.setSlot j.toNatClampNeg .null)).setTop { fr with pc := fr.pc + 1, stack := rest }) target → Steps p.tables e below (T.setTop fr) target := by
  have hT := State.isArrayOf_alike Y.warmed.alike harr
  have hfit : T.fitsSlot cell.cls cell.vm j.toNatClampNeg .null = true := by
    obtain ⟨hobj, k, hk, comp, hkind⟩ := hT
    cases hvm : cell.vm <;> first | exact absurd hvm (hobj _) | simp [State.fitsSlot, State.slotType?, hk, hkind, fits]
  refine ⟨Y.stored hcell _ _, fun target hrest => ?_⟩
  subst hg
  jvm_step Y.here [hexec, hdg]
  refine aastore.wp_of_null (c := cell) (t := .array ty) Y.here.top hstack hcell hT hin hknown (Nat.not_le.mp fun q => hin (Or.inr q)) hfit ?_
  intro acts
  rw [afterInstr_ok]
  exact hrest
theorem pastN (hc : xC p s m args meth c cc nL own wds ret G A) (hw : xW G A s.heap (X ++ va_pl L f) H locs) (h : rowA G L f a n o) {i : Int32} (j : Nat) (hi : i = nI j) (hj : j < n) (hb : j < 2 ^ 31) (hdg : decode cc pc = .ok (.aastore, 1))
    (kk : ∀ (f' : Nat → va_E) (H1 : Heap) (locs1 : List Loc), pk (fun b => b = a) L f L f' → rowA G L f' a n (va_up o j none) → xW G A s.heap (X ++ va_pl L f') H1 locs1 → W p l e R s m args below meth c H1 locs1 cells slots Q (F0 m (pc + 1) ls rest)) : W p l e R s m args below meth c H locs cells slots Q (F0 m pc ls (.null :: .int i :: .ref a :: rest)) := by
  subst hi
  obtain ⟨h1, y, h2, h3⟩ := h
  obtain ⟨q0, h0⟩ := va_pl_get (X := X) (f := f) h1
  have hs := va_pl_set (e := .inl (G.2.1.2.2.1, n, .inr (.inr (.inr (.inr (va_up y j none)))))) hw.2.1 h1 h0
  rw [h2] at h0
  have hD2 := hw.2.1.set (e := .inl (G.2.1.2.2.1, n, .inr (.inr (.inr (.inr (va_up y j none)))))) h0
  have hcell : H[a]? = some (vp_cell G.2.1.2.2.1 (n, .inr (.inr (.inr (.inr y))))) := hw.1 q0 _ h0
  have harr : s.isArrayOf (vp_cell G.2.1.2.2.1 (n, .inr (.inr (.inr (.inr y))))) (.array .int) := (hc.2.2.2.2.2.2.2.1.1.2 2 (G.2.1.2.2.1, .array .int) rfl).1 n (fun t => va_rf (y t))
  have hin : ¬ ((nI j) < 0 ∨ (vp_cell G.2.1.2.2.1 (n, .inr (.inr (.inr (.inr y))))).slots.size ≤ (nI j).toNatClampNeg) := by
    show ¬ (nI j < 0 ∨ (arrV _ _ _).slots.size ≤ _)
    rw [arrV_size]; exact pinI hj hb
  intro T hT Y
  have hT' : T.heap[a]? = some (vp_cell G.2.1.2.2.1 (n, .inr (.inr (.inr (.inr y))))) := by rw [hT]; exact hcell
  obtain ⟨Y', st⟩ := pnull0 Y hc.1 hT' harr (fun h => by cases h) hin (fr := F0 m pc ls (.null :: .int (nI j) :: .ref a :: rest)) rfl rfl (by rw [hc.2.1]; exact hdg)
  have hlt : a < T.heap.size := (Array.getElem?_eq_some_iff.mp hT').1
  have e1 := heapAt_setCell_self (s := T) ((vp_cell G.2.1.2.2.1 (n, .inr (.inr (.inr (.inr y))))).setSlot (nI j).toNatClampNeg .null) hlt
  have hset : va_P G.1 vwCl ((X ++ va_pl L f).set q0 (a, .inl (G.2.1.2.2.1, n, .inr (.inr (.inr (.inr (va_up y j none))))))) (T.setCell a ((vp_cell G.2.1.2.2.1 (n, .inr (.inr (.inr (.inr y))))).setSlot (nI j).toNatClampNeg .null)).heap := by
    refine hw.1.set hw.2.1 h0 ?_ (fun q hq => by rw [heapAt_setCell_ne _ (Ne.symm hq), hT])
    show _ = some (vp_cell _ _)
    rw [e1, nI_clamp hb, vp_cell_q, vp_cell_q, arrV_store]
    congr 2
    funext t
    by_cases ht : t = j
    · subst ht
      simp [updV, va_up, va_rf]
    · simp [updV, va_up, ht]
  rw [hs] at hset hD2
  obtain ⟨t', a1, b1⟩ := kk (va_up f a (.inl (G.2.1.2.2.1, n, .inr (.inr (.inr (.inr (va_up y j none))))))) _ _ (pk_up L f a _) ⟨h1, _, va_up_self _ _ _, fun t ht => by
    by_cases c : t = j
    · subst c; rw [va_up_self, va_up_self]
    · rw [va_up_ne _ _ c, va_up_ne _ _ c]; exact h3 t ht⟩ ⟨hset, hD2, hw.2.2.put (k := (nI j).toNatClampNeg) (by rw [size_setCell, hT]) (fun q hq => by rw [heapAt_setCell_ne _ (Ne.symm hq), hT]) (hw.2.1.2 q0 _ h0)⟩ _ rfl Y'
  exact ⟨t', st t' a1, b1⟩
theorem pnewA {index : Nat} (hc : xC p s m args meth c cc nL own wds ret G A) (hw : xW G A s.heap (X ++ va_pl L f) H locs) (N : Nat) {v : Int32} (hv : v = nI N) (hN : N < 100000) (hlk : Cond.classLink own index "[I" ∈ wds) (hcells : cells + 1 ≤ R.cells) (hslots : slots + N ≤ R.slots) (hdg : decode cc pc = .ok (.anewarray index, 3))
    (kk : ∀ (q : Nat) (L' : List Nat) (f' : Nat → va_E) (H1 : Heap), q ∉ L → pk (fun _ => False) L f L' f' → rowA G L' f' q N (fun _ => none) → xW G A s.heap (X ++ va_pl L' f') H1 locs → W p l e R s m args below meth c H1 locs (cells + 1) (slots + N) Q (F0 m (pc + 3) ls (.ref q :: rest))) : W p l e R s m args below meth c H locs cells slots Q (F0 m pc ls (.int v :: rest)) := by
  subst hv
  have hE := hc.2.2.2.2.2.2.2.1
  have hcl : (nI N).toNatClampNeg = N := nI_clamp (by omega)
  refine W.anewA (t := .int) hc.1 hc.2.1 hc.2.2.2.1 (hc.2.2.2.2.1 _ hlk) (xAO.use hE.2.2.2.2.1) rfl hdg rfl (nI_pos (by omega)) (by rw [hcl]; omega) hcells (by rw [hcl]; exact hslots) fun cA kA comp f1 f2 f3 f4 => ?_
  have r2 : s.vm.findClass ("[" ++ (FieldType.array .int).toString) = some G.2.1.2.2.1 := (hE.1.2 2 (G.2.1.2.2.1, .array .int) rfl).2
  have e2 : cA = G.2.1.2.2.1 := Option.some.inj (f1.symm.trans r2)
  subst e2
  rw [hcl]
  generalize hH1 : H.push ({ cls := G.2.1.2.2.1, slots := Array.replicate N .null, vm := .none } : Cell) = H1
  have z1 : H1.size = H.size + 1 := by rw [← hH1, Array.size_push]
  have e1 : H1[H.size]? = some (arrV G.2.1.2.2.1 N (fun _ => .null)) := by rw [← hH1, Array.getElem?_push_size, ← arrV_new]
  have o1 : ∀ q : Nat, q < H.size → H1[q]? = H[q]? := fun q hq => by rw [← hH1, Array.getElem?_push, if_neg (Nat.ne_of_lt hq)]
  have hk : ∀ (k : Nat) (x : Nat × va_E), (X ++ va_pl L f)[k]? = some x → H1[x.1]? = H[x.1]? := fun k x hx => o1 x.1 ((hw.1 k x hx).lt)
  have hq : H.size ∉ L := va_pl_fresh hw.1 (Nat.le_refl _)
  have hw1 : xW G A s.heap ((X ++ va_pl L f) ++ [(H.size, .inl (G.2.1.2.2.1, N, .inr (.inr (.inr (.inr (fun _ => none))))))]) H1 locs := by
    refine ⟨(hw.1.kept hk).app (fun k x hx => ?_), hw.2.1.push hw.1 rfl (hc.2.2.2.2.2.2.2.2.2 _ hw.2.2.1), ⟨Nat.le_trans hw.2.2.1 (by omega), fun x h1 h2 => (o1 x (Nat.lt_of_lt_of_le h1 hw.2.2.1)).trans (hw.2.2.2.1 x h1 h2), hw.2.2.2.2⟩⟩
    have hz : k < 1 := (List.getElem?_eq_some_iff.mp hx).1
    rw [show k = 0 by omega] at hx
    cases hx
    show H1[H.size]? = some (vp_cell _ _)
    rw [vp_cell_q]
    exact e1
  obtain ⟨h1, h2⟩ := ppush hw1
  exact kk H.size _ _ H1 h1 (pk_nw h1 _) ⟨pmem L _, _, va_up_self _ _ _, fun _ _ => rfl⟩ h2
theorem pmin {index : Nat} (hc : xC p s m args meth c cc nL own wds ret G A) (hlink : Cond.methodLink own index Lib.Math.min.name ∈ wds) (hstat : Cond.static Lib.Math.min.name ∈ wds) (hini : Cond.initialized "java/lang/Math" ∈ wds) (hcode : Cond.code Lib.Math.min.name Lib.Math.min.code 2 (some .int) ∈ wds) (hl : ls.size = nL)
    (hframes : 1 ≤ R.frames) (hlocals : (rest.map fun v => v.category).sum + 13 ≤ R.locals) (hcs : cells ≤ R.cells ∧ slots ≤ R.slots) {x y : Int32} (hdg : decode cc pc = .ok (.invokestatic index, 3))
    (kk : W p l e R s m args below meth c H locs cells slots Q (F0 m (pc + 3) ls (.int (if y < x then y else x) :: rest))) : W p l e R s m args below meth c H locs cells slots Q (F0 m pc ls (.int y :: .int x :: rest)) :=
  va_mmin hc.1 hc.2.1 (hc.2.2.1.trans hl.symm) hc.2.2.2.1 (hc.2.2.2.2.1 _ hlink) (hc.2.2.2.2.1 _ hstat) (hc.2.2.2.2.1 _ hini) (hc.2.2.2.2.1 _ hcode) hframes hlocals hcs.1 hcs.2 hdg kk
end PS
abbrev pS : Type := List Nat × (Nat → va_E)
abbrev pN (u : pS) : va_W := ([] : va_W) ++ va_pl u.1 u.2
abbrev pW (L : List Nat) (f : Nat → va_E) : va_W := ([] : va_W) ++ va_pl L f
/-- contracts of a method whose world is a pool: it answers an int, nothing, a reference -/
abbrev pMi (l : Launch) (y : MethodName) (wds : List Cond) (rm : Room) (G : xG) (av : List Value) (L : List Nat) (f : Nat → va_E) (sz : Nat) (post : Int32 → pS → Prop) : Prop := xM l y wds rm G av (pW L f) sz (xQi G (pW L f) sz post pN)
abbrev pMv (l : Launch) (y : MethodName) (wds : List Cond) (rm : Room) (G : xG) (av : List Value) (L : List Nat) (f : Nat → va_E) (sz : Nat) (post : pS → Prop) : Prop := xM l y wds rm G av (pW L f) sz (xQv G (pW L f) sz post pN)
abbrev pQr (G : xG) (ws : va_W) (sz : Nat) (post : Nat → pS → Prop) := va_Qq (fun r u => ∃ q : Nat, r = some q ∧ post q u) (xB G (va_A ws sz) pN) (va_A ws sz)
abbrev pMr (l : Launch) (y : MethodName) (wds : List Cond) (rm : Room) (G : xG) (av : List Value) (L : List Nat) (f : Nat → va_E) (sz : Nat) (post : Nat → pS → Prop) : Prop := xM l y wds rm G av (pW L f) sz (pQr G (pW L f) sz post)
section PC
variable {p : Program} {l : Launch} {e : Env} {R : Room} {s : State} {m : MethodId} {args : Array Value} {below : List Frame} {meth : Method} {c : Code} {H : Heap} {locs : List Loc} {cells slots : Nat} {Q : State → Prop}
variable {cc : ByteArray} {nL : Nat} {own : String} {wds : List Cond} {ret : Option FieldType} {G : xG} {A : Nat → Prop} {X : va_W} {L : List Nat} {f : Nat → va_E} {pc : Nat} {ls : Array Slot} {st0 rest : List Value}
variable {y : MethodName} {bytes : ByteArray} {maxL n index : Nat} {ret' : Option FieldType} {wds' wds'' : List Cond} {rm : Room} {b : Nat} {As : List Value}
theorem psz (hc : xC p s m args meth c cc nL own wds ret G A) (hw : xW G A s.heap (X ++ va_pl L f) H locs) : ∀ q, va_A (pW L f) H.size q → A q := fun q h => va_freeP (X := X) (cx := []) hw.2.1 hw.2.2 hc.2.2.2.2.2.2.2.2.2 [] rfl q h
theorem pPcOf (hc : xC p s m args meth c cc nL own wds ret G A) (hw : xW G A s.heap (X ++ va_pl L f) H locs) : ∀ U : State, U.heap = H → s.WarmedH U.vm → xPc G (pW L f) H.size U := by
  have hF := psz hc hw
  obtain ⟨hx, hb, hml, hown, hts, hr, hlk, hE, hZ, hA⟩ := hc
  obtain ⟨hP, hD, hS⟩ := hw
  intro U hU hW
  refine ⟨by rw [hU], by rw [hU]; exact hP.part (cx := []) [] rfl, (hD.part (cx := []) [] rfl rfl).weaken (fun _ _ _ _ => trivial), hE.warm hW, ?_⟩
  rw [hU]
  exact ⟨((hZ.1.moved hW.alike).kept hS.2.1).narrow hF, ((hZ.2.moved hW.alike).kept hS.2.1).narrow hF⟩
theorem prunV {Qc : Array Value → State → Outcome → State → Prop} {ci : Nat} {fs : List Value} {q : vw_C} (hc : xC p s m args meth c cc nL own wds ret G A) (hw : xW G A s.heap (X ++ va_pl L f) H locs) (hM : xM l y wds' rm G (.ref b :: As) (pW L f) H.size Qc)
    (hT : GoodIn wds (wsV own index q.1 y wds')) (hwd : wds' = Cond.code y bytes maxL ret' :: wds'')
    (hd : y.cls = q.1 ∧ y.cls ≠ "java/lang/invoke/MethodHandle" ∧ y.cls ≠ "java/lang/invoke/VarHandle" ∧ (parseMethodDescriptor y.desc).map (fun d => d.parameters.length) = some n) (hR : rm.frames + 1 ≤ R.frames ∧ 8 + (maxL + 11) + rm.locals ≤ R.locals)
    (hO : objS L f b ci fs) (hcl : vwCl[ci]? = some q) (hn : As.length = n) (hst0 : st0 = As.reverse ++ .ref b :: rest) (hl : ls.size = nL) (hst : (rest.map fun v => v.category).sum ≤ 8) (hdg : decode cc pc = .ok (.invokevirtual index, 3)) (hf : cells + rm.cells ≤ R.cells ∧ slots + rm.slots ≤ R.slots) :
    va_Run p l e R s m args below meth c H locs cells slots rm.cells rm.slots (F0 m pc ls st0) rest (Qc (Value.ref b :: As).toArray) (va_A (pW L f) H.size) := by
  subst hst0
  obtain ⟨q0, h0⟩ := va_pl_get (X := X) (f := f) hO.1
  rw [hO.2] at h0
  exact va_runV ⟨hc.1, hc.2.1, hc.2.2.1, hc.2.2.2.1, hc.2.2.2.2.1⟩ hM (cwV n hc.2.2.2.2.1 hT hwd rfl rfl hd hR) ⟨xPc_blind, va_recv hc.2.2.2.2.2.2.2.1.1 hw.1 hcl h0, fun U hU hW => ⟨rfl, pPcOf hc hw U hU hW⟩⟩ rfl hn hl rfl (lv_room hst) hdg hf
theorem prunS {Qc : Array Value → State → Outcome → State → Prop} (hc : xC p s m args meth c cc nL own wds ret G A) (hw : xW G A s.heap (X ++ va_pl L f) H locs) (hM : xM l y wds' rm G As (pW L f) H.size Qc)
    (hT : GoodIn wds (va_wsS own index y wds')) (hwd : wds' = Cond.code y bytes maxL ret' :: wds'')
    (hd : y.cls ≠ "java/lang/invoke/MethodHandle" ∧ y.cls ≠ "java/lang/invoke/VarHandle" ∧ (parseMethodDescriptor y.desc).map (fun d => d.parameters.length) = some n) (hR : rm.frames + 1 ≤ R.frames ∧ 8 + (maxL + 11) + rm.locals ≤ R.locals)
    (hn : As.length = n) (hst0 : st0 = As.reverse ++ rest) (hl : ls.size = nL) (hst : (rest.map fun v => v.category).sum ≤ 8) (hdg : decode cc pc = .ok (.invokestatic index, 3)) (hf : cells + rm.cells ≤ R.cells ∧ slots + rm.slots ≤ R.slots) :
    va_Run p l e R s m args below meth c H locs cells slots rm.cells rm.slots (F0 m pc ls st0) rest (Qc As.toArray) (va_A (pW L f) H.size) := by
  subst hst0
  exact va_runS ⟨hc.1, hc.2.1, hc.2.2.1, hc.2.2.2.1, hc.2.2.2.2.1⟩ hM (va_cwS n hc.2.2.2.2.1 hT hwd rfl rfl hd hR) ⟨xPc_blind, fun U hU hW => ⟨rfl, pPcOf hc hw U hU hW⟩⟩ rfl hn hl rfl (lv_room hst) hdg hf
section CALL
variable {mc ms : Nat} {av : Array Value}
theorem pcall_i {post : Int32 → pS → Prop} (hc : xC p s m args meth c cc nL own wds ret G A) (hw : xW G A s.heap (X ++ va_pl L f) H locs)
    (hr : va_Run p l e R s m args below meth c H locs cells slots mc ms (F0 m pc ls st0) rest (xQi G (pW L f) H.size post pN av) (va_A (pW L f) H.size))
    (kk : ∀ (r : Int32) (L' : List Nat) (f' : Nat → va_E) (H1 : Heap) (locs1 : List Loc), post r (L', f') → xW G A s.heap (X ++ va_pl L' f') H1 locs1 → W p l e R s m args below meth c H1 locs1 (cells + mc) (slots + ms) Q (F0 m (pc + 3) ls (.int r :: rest))) : W p l e R s m args below meth c H locs cells slots Q (F0 m pc ls st0) := by
  have hF := psz hc hw
  refine va_calli hr hw.2.2 (fun q _ h => hF q h) hF (fun r u t H1 locs1 ht hvm hp hB hz hk hS => ?_)
  obtain ⟨hP1, hD1⟩ := hB
  rw [ht] at hP1
  obtain ⟨g1, g2⟩ := pjoin hw.1 hw.2.1 hk hF hP1 hD1
  exact kk r u.1 u.2 H1 locs1 hp ⟨g1, g2, hS⟩
theorem pcall_v {post : pS → Prop} (hc : xC p s m args meth c cc nL own wds ret G A) (hw : xW G A s.heap (X ++ va_pl L f) H locs)
    (hr : va_Run p l e R s m args below meth c H locs cells slots mc ms (F0 m pc ls st0) rest (xQv G (pW L f) H.size post pN av) (va_A (pW L f) H.size))
    (kk : ∀ (L' : List Nat) (f' : Nat → va_E) (H1 : Heap) (locs1 : List Loc), post (L', f') → xW G A s.heap (X ++ va_pl L' f') H1 locs1 → W p l e R s m args below meth c H1 locs1 (cells + mc) (slots + ms) Q (F0 m (pc + 3) ls rest)) : W p l e R s m args below meth c H locs cells slots Q (F0 m pc ls st0) := by
  have hF := psz hc hw
  refine va_callv hr hw.2.2 (fun q _ h => hF q h) hF (fun u t H1 locs1 ht hvm hp hB hz hk hS => ?_)
  obtain ⟨hP1, hD1⟩ := hB
  rw [ht] at hP1
  obtain ⟨g1, g2⟩ := pjoin hw.1 hw.2.1 hk hF hP1 hD1
  exact kk u.1 u.2 H1 locs1 hp ⟨g1, g2, hS⟩
theorem pcall_r {post : Nat → pS → Prop} (hc : xC p s m args meth c cc nL own wds ret G A) (hw : xW G A s.heap (X ++ va_pl L f) H locs)
    (hr : va_Run p l e R s m args below meth c H locs cells slots mc ms (F0 m pc ls st0) rest (pQr G (pW L f) H.size post av) (va_A (pW L f) H.size))
    (kk : ∀ (r : Nat) (L' : List Nat) (f' : Nat → va_E) (H1 : Heap) (locs1 : List Loc), post r (L', f') → xW G A s.heap (X ++ va_pl L' f') H1 locs1 → W p l e R s m args below meth c H1 locs1 (cells + mc) (slots + ms) Q (F0 m (pc + 3) ls (.ref r :: rest))) : W p l e R s m args below meth c H locs cells slots Q (F0 m pc ls st0) := by
  have hF := psz hc hw
  refine va_callq hr hw.2.2 (fun q _ h => hF q h) hF (fun r u t H1 locs1 ht hvm hp hB hz hk hS => ?_)
  obtain ⟨q, rfl, hp⟩ := hp
  obtain ⟨hP1, hD1⟩ := hB
  rw [ht] at hP1
  obtain ⟨g1, g2⟩ := pjoin hw.1 hw.2.1 hk hF hP1 hD1
  exact kk q u.1 u.2 H1 locs1 hp ⟨g1, g2, hS⟩
end CALL
section END
variable {w0 : va_W} {sz mc ms : Nat}
theorem pret_i {post : Int32 → pS → Prop} {r : Int32} (hc : xC p s m args meth c cc nL own wds (some .int) G (va_A w0 sz)) (hw : xW G (va_A w0 sz) s.heap (([] : va_W) ++ va_pl L f) H locs) (hp : post r (L, f)) (hm : cells ≤ mc ∧ slots ≤ ms) (hdg : decode cc pc = .ok (.ireturn, 1)) :
    W p l e R s m args below meth c H locs cells slots (MQ below (xQi G w0 sz post pN) args s mc ms (va_A w0 sz)) (F0 m pc ls [.int r]) := xret_i (L, f) hc hw hp hm hdg
theorem pret_z {post : Int32 → pS → Prop} {r : Int32} (hc : xC p s m args meth c cc nL own wds (some .boolean) G (va_A w0 sz)) (hw : xW G (va_A w0 sz) s.heap (([] : va_W) ++ va_pl L f) H locs) (hz : narrow .boolean (.int r) = .int r) (hp : post r (L, f)) (hm : cells ≤ mc ∧ slots ≤ ms) (hdg : decode cc pc = .ok (.ireturn, 1)) :
    W p l e R s m args below meth c H locs cells slots (MQ below (xQi G w0 sz post pN) args s mc ms (va_A w0 sz)) (F0 m pc ls [.int r]) := xret_z (L, f) hc hw hz hp hm hdg
theorem pret_v {post : pS → Prop} (hc : xC p s m args meth c cc nL own wds none G (va_A w0 sz)) (hw : xW G (va_A w0 sz) s.heap (([] : va_W) ++ va_pl L f) H locs) (hp : post (L, f)) (hm : cells ≤ mc ∧ slots ≤ ms) (hdg : decode cc pc = .ok (.return_, 1)) :
    W p l e R s m args below meth c H locs cells slots (MQ below (xQv G w0 sz post pN) args s mc ms (va_A w0 sz)) (F0 m pc ls []) := xret_v (L, f) hc hw hp hm hdg
theorem pret_r {post : Nat → pS → Prop} {t : FieldType} {q : Nat} (hc : xC p s m args meth c cc nL own wds (some (.array t)) G (va_A w0 sz)) (hw : xW G (va_A w0 sz) s.heap (([] : va_W) ++ va_pl L f) H locs) (hp : post q (L, f)) (hm : cells ≤ mc ∧ slots ≤ ms) (hdg : decode cc pc = .ok (.areturn, 1)) :
    W p l e R s m args below meth c H locs cells slots (MQ below (pQr G w0 sz post) args s mc ms (va_A w0 sz)) (F0 m pc ls [.ref q]) :=
  W.widen hm.1 hm.2 (W.aret hc.1 hc.2.1 hc.2.2.2.2.2.1 (Or.inr ⟨t, rfl⟩) (Or.inr ⟨q, rfl⟩) (fun u ht hW => ⟨⟨some q, (L, f), rfl, ⟨q, rfl, hp⟩, by rw [ht]; exact hw.1, hw.2.1⟩, hw.2.2.F ht⟩) hw.2.2.2.2 hdg hc.2.2.2.2.2.2.1)
end END
end PC
end
section
/-! the second carrier's cells: what they hold, and how a write keeps the rest. ad: the outer addresses (0 roads, 1 exits, 2 shepherds, 3 asked, 4 way, 5 memory); oo: where their rows lie (0 roads, 1 exits, 2 way, 3 memory); om: the rows of the memory -/
def ShR (G : xG) (L : List Nat) (f : Nat → va_E) (a0 : Nat) (o : Nat → Option Nat) (nr : Nat) (rw : Nat → Nat → Int32) : Prop := rowA G L f a0 nr o ∧ (∀ k, k < nr → ∃ a, o k = some a ∧ rowI G L f a 5 (rw k)) ∧ ∀ j k, j < nr → k < nr → o j = o k → j = k
def ShE (G : xG) (L : List Nat) (f : Nat → va_E) (a0 : Nat) (o : Nat → Option Nat) (n : Nat) (xn : Nat → Nat) (xr : Nat → Nat → Int32) : Prop := rowA G L f a0 n o ∧ ∀ p, p < n → xn p < 5 ∧ ∃ a, o p = some a ∧ rowI G L f a (xn p) (xr p)
def ShW (G : xG) (L : List Nat) (f : Nat → va_E) (a0 : Nat) (o : Nat → Option Nat) (wl : Nat) (wy : Nat → Nat → Int32) : Prop := rowA G L f a0 wl o ∧ ∀ k, k < wl → ∃ a, o k = some a ∧ rowI G L f a 2 (wy k)
def ShG (G : xG) (L : List Nat) (f : Nat → va_E) (a0 : Nat) (o : Nat → Option Nat) (mp : Nat → Bool) (mm : Nat → Nat → Int32) : Prop := rowA G L f a0 10 o ∧ ∀ p, p < 10 → (o p = none ∧ mp p = false) ∨ (mp p = true ∧ ∃ b, o p = some b ∧ rowI G L f b 2 (mm p))
def ShM (G : xG) (L : List Nat) (f : Nat → va_E) (a0 : Nat) (o : Nat → Option Nat) (om : Nat → Nat → Option Nat) (mp : Nat → Nat → Bool) (mm : Nat → Nat → Nat → Int32) : Prop := rowB G L f a0 10 o ∧ (∀ i j, i < 10 → j < 10 → o i = o j → i = j) ∧ ∀ g, g < 10 → ∃ a, o g = some a ∧ ShG G L f a (om g) (mp g) (mm g)
def ShZ (G : xG) (L : List Nat) (f : Nat → va_E) (a b : Nat) (sh ak : Nat → Int32) : Prop := rowZ G L f a 10 sh ∧ rowZ G L f b 10 ak ∧ a ≠ b
/-- the outer rows are apart -/
def ShN (ad : Nat → Nat) (o : Nat → Option Nat) : Prop := (ad 1 ≠ ad 0 ∧ ad 1 ≠ ad 4 ∧ ad 1 ≠ ad 5) ∧ ∀ g a, g < 10 → o g = some a → a ≠ ad 0 ∧ a ≠ ad 1 ∧ a ≠ ad 4 ∧ a ≠ ad 5
def ShA (G : xG) (L : List Nat) (f : Nat → va_E) (ad : Nat → Nat) (oo om : Nat → Nat → Option Nat) (n : Nat) (xn : Nat → Nat) (xr : Nat → Nat → Int32) (nr : Nat) (rw : Nat → Nat → Int32) (sh ak : Nat → Int32) (wl : Nat) (wy : Nat → Nat → Int32) (mp : Nat → Nat → Bool) (mm : Nat → Nat → Nat → Int32) : Prop :=
  ShR G L f (ad 0) (oo 0) nr rw ∧ ShE G L f (ad 1) (oo 1) n xn xr ∧ ShZ G L f (ad 2) (ad 3) sh ak ∧ ShW G L f (ad 4) (oo 2) wl wy ∧ ShM G L f (ad 5) (oo 3) om mp mm ∧ ShN ad (oo 3)
def sF (ad : Nat → Nat) (v : Nat → Int32) : List Value := [.ref (ad 0), .ref (ad 1), .ref (ad 2), .ref (ad 3), .int (v 4), .int (v 5), .int (v 6), .ref (ad 4), .ref (ad 5), .int (v 9), .int (v 10), .int (v 11), .int (v 12), .int (v 13)]
def Sh (G : xG) (L : List Nat) (f : Nat → va_E) (aS : Nat) (v : Nat → Int32) (n : Nat) (xn : Nat → Nat) (xr : Nat → Nat → Int32) (nr : Nat) (rw : Nat → Nat → Int32) (sh ak : Nat → Int32) (wl : Nat) (wy : Nat → Nat → Int32) (mp : Nat → Nat → Bool) (mm : Nat → Nat → Nat → Int32) : Prop :=
  ∃ (ad : Nat → Nat) (oo om : Nat → Nat → Option Nat), objS L f aS 4 (sF ad v) ∧ ShA G L f ad oo om n xn xr nr rw sh ak wl wy mp mm
section SH
variable {G : xG} {P : Nat → Prop} {L L' : List Nat} {f f' : Nat → va_E} {a0 b0 aS n nr wl : Nat} {o : Nat → Option Nat} {ad : Nat → Nat} {oo om : Nat → Nat → Option Nat} {xn : Nat → Nat} {xr rw wy : Nat → Nat → Int32} {sh ak : Nat → Int32} {mp : Nat → Nat → Bool} {mm : Nat → Nat → Nat → Int32}
theorem ShR.kp (h : ShR G L f a0 o nr rw) (c : pk P L f L' f') (h0 : ¬ P a0) (h1 : ∀ k a, k < nr → o k = some a → ¬ P a) : ShR G L' f' a0 o nr rw :=
  ⟨h.1.kp c h0, fun k hk => (by obtain ⟨a, e, r⟩ := h.2.1 k hk; exact ⟨a, e, r.kp c (h1 k a hk e)⟩), h.2.2⟩
theorem ShE.kp (h : ShE G L f a0 o n xn xr) (c : pk P L f L' f') (h0 : ¬ P a0) (h1 : ∀ a m g, m < 5 → rowI G L f a m g → ¬ P a) : ShE G L' f' a0 o n xn xr :=
  ⟨h.1.kp c h0, fun p hp => (by obtain ⟨e0, a, e, r⟩ := h.2 p hp; exact ⟨e0, a, e, r.kp c (h1 a _ _ e0 r)⟩)⟩
theorem ShW.kp (h : ShW G L f a0 o wl wy) (c : pk P L f L' f') (h0 : ¬ P a0) (h1 : ∀ a m g, m < 5 → rowI G L f a m g → ¬ P a) : ShW G L' f' a0 o wl wy :=
  ⟨h.1.kp c h0, fun k hk => (by obtain ⟨a, e, r⟩ := h.2 k hk; exact ⟨a, e, r.kp c (h1 a _ _ (by decide) r)⟩)⟩
theorem ShG.kp {mp : Nat → Bool} {mm : Nat → Nat → Int32} (h : ShG G L f a0 o mp mm) (c : pk P L f L' f') (h0 : ¬ P a0) (h1 : ∀ a m g, m < 5 → rowI G L f a m g → ¬ P a) : ShG G L' f' a0 o mp mm :=
  ⟨h.1.kp c h0, fun p hp => (by
    rcases h.2 p hp with h2 | ⟨h2, b, e, r⟩
    · exact Or.inl h2
    · exact Or.inr ⟨h2, b, e, r.kp c (h1 b _ _ (by decide) r)⟩)⟩
theorem ShM.kp (h : ShM G L f a0 o om mp mm) (c : pk P L f L' f') (h0 : ¬ P a0) (h1 : ∀ a m g, m < 5 → rowI G L f a m g → ¬ P a) (h2 : ∀ g a, g < 10 → o g = some a → ¬ P a) : ShM G L' f' a0 o om mp mm :=
  ⟨h.1.kp c h0, h.2.1, fun g hg => (by obtain ⟨a, e, r⟩ := h.2.2 g hg; exact ⟨a, e, r.kp c (h2 g a hg e) h1⟩)⟩
theorem ShZ.kp (h : ShZ G L f a0 b0 sh ak) (c : pk P L f L' f') (h0 : ¬ P a0) (h1 : ¬ P b0) : ShZ G L' f' a0 b0 sh ak := ⟨h.1.kp c h0, h.2.1.kp c h1, h.2.2⟩
theorem ShA.fresh (h : ShA G L f ad oo om n xn xr nr rw sh ak wl wy mp mm) (c : pk (fun _ => False) L f L' f') : ShA G L' f' ad oo om n xn xr nr rw sh ak wl wy mp mm := by
  obtain ⟨h1, h2, h3, h4, h5, h6⟩ := h
  exact ⟨h1.kp c (fun h => h) (fun _ _ _ _ h => h), h2.kp c (fun h => h) (fun _ _ _ _ _ h => h), h3.kp c (fun h => h) (fun h => h), h4.kp c (fun h => h) (fun _ _ _ _ _ h => h), h5.kp c (fun h => h) (fun _ _ _ _ _ h => h) (fun _ _ _ _ h => h), h6⟩
/-- the object is written -/
theorem ShA.obj {fs : List Value} (h : ShA G L f ad oo om n xn xr nr rw sh ak wl wy mp mm) (hO : objS L f aS 4 fs) (c : pk (fun b => b = aS) L f L' f') : ShA G L' f' ad oo om n xn xr nr rw sh ak wl wy mp mm := by
  obtain ⟨h1, h2, h3, h4, h5, h6⟩ := h
  have hS : ∀ a m g, m < 5 → rowI G L f a m g → ¬ a = aS := fun a m g _ hr => (hO.neI hr).symm
  refine ⟨h1.kp c (hO.neA h1.1).symm (fun k a hk e => ?_), h2.kp c (hO.neA h2.1).symm hS, h3.kp c (hO.neZ h3.1).symm (hO.neZ h3.2.1).symm, h4.kp c (hO.neA h4.1).symm hS, h5.kp c (hO.neB h5.1).symm hS (fun g a hg e => ?_), h6⟩
  · obtain ⟨a', e', r⟩ := h1.2.1 k hk
    cases e.symm.trans e'
    exact (hO.neI r).symm
  · obtain ⟨a', e', r⟩ := h5.2.2 g hg
    cases e.symm.trans e'
    exact (hO.neA r.1).symm
/-- a row of flags is written -/
theorem ShA.flag {x : Nat} {g0 : Nat → Int32} (h : ShA G L f ad oo om n xn xr nr rw sh ak wl wy mp mm) (hx : rowZ G L f x 10 g0) (c : pk (fun b => b = x) L f L' f') : (ShR G L' f' (ad 0) (oo 0) nr rw ∧ ShE G L' f' (ad 1) (oo 1) n xn xr) ∧ ShW G L' f' (ad 4) (oo 2) wl wy ∧ ShM G L' f' (ad 5) (oo 3) om mp mm := by
  obtain ⟨h1, h2, h3, h4, h5, h6⟩ := h
  have hS : ∀ a m g, m < 5 → rowI G L f a m g → ¬ a = x := fun a m g hm hr => hr.neZ hx (by omega)
  refine ⟨⟨h1.kp c (hx.neA h1.1).symm (fun k a hk e => ?_), h2.kp c (hx.neA h2.1).symm hS⟩, h4.kp c (hx.neA h4.1).symm hS, h5.kp c (hx.neB h5.1).symm hS (fun g a hg e => ?_)⟩
  · obtain ⟨a', e', r⟩ := h1.2.1 k hk
    cases e.symm.trans e'
    exact r.neZ hx (by decide)
  · obtain ⟨a', e', r⟩ := h5.2.2 g hg
    cases e.symm.trans e'
    exact (hx.neA r.1).symm
theorem ShA.setSh {g1 : Nat → Int32} (h : ShA G L f ad oo om n xn xr nr rw sh ak wl wy mp mm) (c : pk (fun b => b = ad 2) L f L' f') (hr : rowZ G L' f' (ad 2) 10 g1) : ShA G L' f' ad oo om n xn xr nr rw g1 ak wl wy mp mm := by
  obtain ⟨⟨q1, q2⟩, q3, q4⟩ := h.flag h.2.2.1.1 c
  exact ⟨q1, q2, ⟨hr, h.2.2.1.2.1.kp c (fun e => h.2.2.1.2.2 e.symm), h.2.2.1.2.2⟩, q3, q4, h.2.2.2.2.2⟩
theorem ShA.setAk {g1 : Nat → Int32} (h : ShA G L f ad oo om n xn xr nr rw sh ak wl wy mp mm) (c : pk (fun b => b = ad 3) L f L' f') (hr : rowZ G L' f' (ad 3) 10 g1) : ShA G L' f' ad oo om n xn xr nr rw sh g1 wl wy mp mm := by
  obtain ⟨⟨q1, q2⟩, q3, q4⟩ := h.flag h.2.2.1.2.1 c
  exact ⟨q1, q2, ⟨h.2.2.1.1.kp c h.2.2.1.2.2, hr, h.2.2.1.2.2⟩, q3, q4, h.2.2.2.2.2⟩
/-- a road's row is written -/
theorem ShA.setRoad {k a : Nat} {g1 : Nat → Int32} (h : ShA G L f ad oo om n xn xr nr rw sh ak wl wy mp mm) (hk : k < nr) (e0 : oo 0 k = some a) (c : pk (fun b => b = a) L f L' f') (hr : rowI G L' f' a 5 g1) : ShA G L' f' ad oo om n xn xr nr (va_up rw k g1) sh ak wl wy mp mm := by
  obtain ⟨h1, h2, h3, h4, h5, h6⟩ := h
  obtain ⟨a', e', r0⟩ := h1.2.1 k hk
  cases e0.symm.trans e'
  have hS : ∀ b m g, m < 5 → rowI G L f b m g → ¬ b = a := fun b m g hm hr => hr.neI r0 (by omega)
  refine ⟨⟨h1.1.kp c (r0.neA h1.1).symm, fun j hj => ?_, h1.2.2⟩, h2.kp c (r0.neA h2.1).symm hS, h3.kp c (r0.neZ h3.1 (by decide)).symm (r0.neZ h3.2.1 (by decide)).symm, h4.kp c (r0.neA h4.1).symm hS, h5.kp c (r0.neB h5.1).symm hS (fun g b hg e => ?_), h6⟩
  · by_cases ej : j = k
    · subst ej
      exact ⟨a, e0, by rw [va_up_self]; exact hr⟩
    · obtain ⟨b, e, r⟩ := h1.2.1 j hj
      refine ⟨b, e, ?_⟩
      rw [va_up_ne _ _ ej]
      refine r.kp c (fun z => ej (h1.2.2 j k hj hk ?_))
      rw [e, e0, z]
  · obtain ⟨b', e2, r⟩ := h5.2.2 g hg
    cases e.symm.trans e2
    exact (r0.neA r.1).symm
/-- another row of asked flags -/
theorem ShA.newAk {q : Nat} {g1 : Nat → Int32} (h : ShA G L f ad oo om n xn xr nr rw sh ak wl wy mp mm) (hr : rowZ G L f q 10 g1) (hne : ad 2 ≠ q) : ShA G L f (va_up ad 3 q) oo om n xn xr nr rw sh g1 wl wy mp mm := by
  obtain ⟨h1, h2, h3, h4, h5, h6⟩ := h
  exact ⟨h1, h2, ⟨h3.1, hr, hne⟩, h4, h5, h6⟩
/-- another way -/
theorem ShA.newW {q wl1 : Nat} {o1 : Nat → Option Nat} {wy1 : Nat → Nat → Int32} (h : ShA G L f ad oo om n xn xr nr rw sh ak wl wy mp mm) (hr : ShW G L f q o1 wl1 wy1) (hne : ad 1 ≠ q) (hne2 : ∀ g a, g < 10 → oo 3 g = some a → a ≠ q) : ShA G L f (va_up ad 4 q) (va_up oo 2 o1) om n xn xr nr rw sh ak wl1 wy1 mp mm := by
  obtain ⟨h1, h2, h3, h4, h5, h6⟩ := h
  exact ⟨h1, h2, h3, hr, h5, ⟨h6.1.1, hne, h6.1.2.2⟩, fun g a hg e => ⟨(h6.2 g a hg e).1, (h6.2 g a hg e).2.1, hne2 g a hg e, (h6.2 g a hg e).2.2.2⟩⟩
/-- other roads -/
theorem ShA.newR {q nr1 : Nat} {o1 : Nat → Option Nat} {rw1 : Nat → Nat → Int32} (h : ShA G L f ad oo om n xn xr nr rw sh ak wl wy mp mm) (hr : ShR G L f q o1 nr1 rw1) (hne : ad 1 ≠ q) (hne2 : ∀ g a, g < 10 → oo 3 g = some a → a ≠ q) : ShA G L f (va_up ad 0 q) (va_up oo 0 o1) om n xn xr nr1 rw1 sh ak wl wy mp mm := by
  obtain ⟨h1, h2, h3, h4, h5, h6⟩ := h
  exact ⟨hr, h2, h3, h4, h5, ⟨hne, h6.1.2⟩, fun g a hg e => ⟨hne2 g a hg e, (h6.2 g a hg e).2⟩⟩
/-- other exits -/
theorem ShA.newE {q n1 : Nat} {o1 : Nat → Option Nat} {xn1 : Nat → Nat} {xr1 : Nat → Nat → Int32} (h : ShA G L f ad oo om n xn xr nr rw sh ak wl wy mp mm) (hr : ShE G L f q o1 n1 xn1 xr1) (hne0 : q ≠ ad 0) (hne4 : q ≠ ad 4) (hne5 : q ≠ ad 5) (hne2 : ∀ g a, g < 10 → oo 3 g = some a → a ≠ q) : ShA G L f (va_up ad 1 q) (va_up oo 1 o1) om n1 xn1 xr1 nr rw sh ak wl wy mp mm := by
  obtain ⟨h1, h2, h3, h4, h5, h6⟩ := h
  exact ⟨h1, hr, h3, h4, h5, ⟨hne0, hne4, hne5⟩, fun g a hg e => ⟨(h6.2 g a hg e).1, hne2 g a hg e, (h6.2 g a hg e).2.2⟩⟩
/-- a place gets another row of exits -/
theorem ShA.setE {p q m : Nat} {g1 : Nat → Int32} (h : ShA G L f ad oo om n xn xr nr rw sh ak wl wy mp mm) (c : pk (fun b => b = ad 1) L f L' f') (hr : rowA G L' f' (ad 1) n (va_up (oo 1) p (some q))) (hm : m < 5) (hq : rowI G L f q m g1) : ShA G L' f' ad (va_up oo 1 (va_up (oo 1) p (some q))) om n (va_up xn p m) (va_up xr p g1) nr rw sh ak wl wy mp mm := by
  obtain ⟨h1, h2, h3, h4, h5, h6⟩ := h
  have hS : ∀ b m g, m < 5 → rowI G L f b m g → ¬ b = ad 1 := fun b m g hm hr => hr.neA h2.1
  refine ⟨h1.kp c h6.1.1.symm (fun k a hk e => ?_), ⟨hr, fun j hj => ?_⟩, h3.kp c (h3.1.neA h2.1) (h3.2.1.neA h2.1), h4.kp c h6.1.2.1.symm hS, h5.kp c h6.1.2.2.symm hS (fun g b hg e => (h6.2 g b hg e).2.1), h6⟩
  · obtain ⟨a', e', r⟩ := h1.2.1 k hk
    cases e.symm.trans e'
    exact r.neA h2.1
  · by_cases ej : j = p
    · subst ej
      refine ⟨by rw [va_up_self]; exact hm, q, va_up_self _ _ _, ?_⟩
      rw [va_up_self, va_up_self]
      exact hq.kp c (hS q m g1 hm hq)
    · obtain ⟨e0, b, e, r⟩ := h2.2 j hj
      rw [va_up_ne _ _ ej, va_up_ne _ _ ej]
      exact ⟨e0, b, (va_up_ne _ _ ej).trans e, r.kp c (hS b _ _ e0 r)⟩
/-- a place of the memory is written -/
theorem ShA.setM {g p a : Nat} {x : Option Nat} {b1 : Bool} {g1 : Nat → Int32} (h : ShA G L f ad oo om n xn xr nr rw sh ak wl wy mp mm) (hg : g < 10) (e0 : oo 3 g = some a) (c : pk (fun b => b = a) L f L' f') (hr : rowA G L' f' a 10 (va_up (om g) p x)) (hq : (x = none ∧ b1 = false) ∨ (b1 = true ∧ ∃ b, x = some b ∧ rowI G L f b 2 g1)) : ShA G L' f' ad oo (va_up om g (va_up (om g) p x)) n xn xr nr rw sh ak wl wy (va_up mp g (va_up (mp g) p b1)) (va_up mm g (va_up (mm g) p g1)) := by
  obtain ⟨h1, h2, h3, h4, h5, h6⟩ := h
  obtain ⟨a', e', r0⟩ := h5.2.2 g hg
  cases e0.symm.trans e'
  obtain ⟨n0, n1, n4, n5⟩ := h6.2 g a hg e0
  have hS : ∀ b m g, m < 5 → rowI G L f b m g → ¬ b = a := fun b m g hm hr => hr.neA r0.1
  refine ⟨h1.kp c n0.symm (fun k b hk e => ?_), h2.kp c n1.symm hS, h3.kp c (h3.1.neA r0.1) (h3.2.1.neA r0.1), h4.kp c n4.symm hS, ⟨h5.1.kp c n5.symm, h5.2.1, fun i hi => ?_⟩, h6⟩
  · obtain ⟨b', e', r⟩ := h1.2.1 k hk
    cases e.symm.trans e'
    exact r.neA r0.1
  · by_cases ei : i = g
    · subst ei
      refine ⟨a, e0, ?_⟩
      rw [va_up_self, va_up_self, va_up_self]
      refine ⟨hr, fun j hj => ?_⟩
      by_cases ej : j = p
      · subst ej
        rw [va_up_self, va_up_self, va_up_self]
        rcases hq with hq | ⟨hq, b, e, r⟩
        · exact Or.inl hq
        · exact Or.inr ⟨hq, b, e, r.kp c (hS b _ _ (by decide) r)⟩
      · rw [va_up_ne _ _ ej, va_up_ne _ _ ej, va_up_ne _ _ ej]
        rcases r0.2 j hj with h | ⟨h, b, e, r⟩
        · exact Or.inl h
        · exact Or.inr ⟨h, b, e, r.kp c (hS b _ _ (by decide) r)⟩
    · obtain ⟨b, e, r⟩ := h5.2.2 i hi
      refine ⟨b, e, ?_⟩
      rw [va_up_ne _ _ ei, va_up_ne _ _ ei, va_up_ne _ _ ei]
      exact r.kp c (fun z => ei (h5.2.1 i g hi hg (by rw [e, e0, z]))) hS
end SH
end
section
theorem inX4_to_X4 : ∀ w ∈ u_ws RX4 TX4 14, w ∈ wsX4_to := fun _ h => List.mem_cons_of_mem _ (List.mem_append_right _ h)
theorem lkX4_to_f9 : Cond.fieldLink RX4 9 "MapCarrierLaw$Sim" "roads" "[[I" ∈ wsX4_to := List.mem_of_getElem? (i := 1) (by decide +kernel)
theorem lkX4_to_f15 : Cond.fieldLink RX4 15 "MapCarrierLaw$Sim" "exits" "[[I" ∈ wsX4_to := List.mem_of_getElem? (i := 2) (by decide +kernel)
theorem inX4_isFree_X4 : ∀ w ∈ u_ws RX4 TX4 14, w ∈ wsX4_isFree := fun _ h => List.mem_cons_of_mem _ (List.mem_append_right _ h)
theorem lkX4_isFree_f9 : Cond.fieldLink RX4 9 "MapCarrierLaw$Sim" "roads" "[[I" ∈ wsX4_isFree := List.mem_of_getElem? (i := 1) (by decide +kernel)
theorem lkX4_isFree_f15 : Cond.fieldLink RX4 15 "MapCarrierLaw$Sim" "exits" "[[I" ∈ wsX4_isFree := List.mem_of_getElem? (i := 2) (by decide +kernel)
theorem lkX4_isFree_f25 : Cond.fieldLink RX4 25 "MapCarrierLaw$Sim" "where" "I" ∈ wsX4_isFree := List.mem_of_getElem? (i := 3) (by decide +kernel)
/-! the second carrier: what its methods answer, and their contracts: the leaves -/
/-- the land's rows are in range -/
def sX (n : Nat) (xn : Nat → Nat) (xr : Nat → Nat → Int32) (nr : Nat) (rw : Nat → Nat → Int32) : Prop := n ≤ 10 ∧ nr ≤ 20 ∧ (∀ q x, q < n → x < xn q → ∃ k, xr q x = nI k ∧ k < nr) ∧ ∀ k, k < nr → ∃ a b, rw k 0 = nI a ∧ a < n ∧ rw k 1 = nI b ∧ b < n
def sTo (rw xr : Nat → Nat → Int32) (q x : Nat) : Int32 := if rw (xr q x).toNatClampNeg 0 = nI q then rw (xr q x).toNatClampNeg 1 else rw (xr q x).toNatClampNeg 0
def sFr (rw xr : Nat → Nat → Int32) (q x : Nat) : Int32 := if rw (xr q x).toNatClampNeg 3 = 1 then (if rw (xr q x).toNatClampNeg 4 = 0 then 1 else 0) else 0
set_option maxHeartbeats 40000000 in
set_option maxRecDepth 100000 in
theorem metS_to (l : Launch) (G : xG) (sz : Nat) (L : List Nat) (f : Nat → va_E) (aS : Nat) (v : Nat → Int32) (n : Nat) (xn : Nat → Nat) (xr : Nat → Nat → Int32) (nr : Nat) (rw : Nat → Nat → Int32) (sh ak : Nat → Int32) (wl : Nat) (wy : Nat → Nat → Int32) (mp : Nat → Nat → Bool) (mm : Nat → Nat → Nat → Int32) (S : Sh G L f aS v n xn xr nr rw sh ak wl wy mp mm) (hX : sX n xn xr nr rw) (q x : Nat) (hq : q < n) (hx0 : x < xn q) : pMi l yX4_to wsX4_to ⟨0, 0, 0, 0⟩ G [.ref aS, .int (nI q), .int (nI x)] L f sz (fun r u => r = sTo rw xr q x ∧ u = (L, f)) := by
  obtain ⟨ad, oo, om, hO, hA⟩ := S
  obtain ⟨⟨hR1, hR2, hR3⟩, ⟨hE1, hE2⟩, hZ, ⟨hW1, hW2⟩, ⟨hM1, hM2, hM3⟩, hN⟩ := id hA
  have hO : objS L f aS 4 [.ref (ad 0), .ref (ad 1), .ref (ad 2), .ref (ad 3), .int (v 4), .int (v 5), .int (v 6), .ref (ad 4), .ref (ad 5), .int (v 9), .int (v 10), .int (v 11), .int (v 12), .int (v 13)] := hO
  obtain ⟨k, hk1, hk2⟩ := hX.2.2.1 q x hq hx0
  obtain ⟨hx4, ea, he1, he2⟩ := hE2 q hq
  obtain ⟨ra, hr1, hr2⟩ := hR2 k hk2
  have hn10 : n ≤ 10 := hX.1
  have hr20 : nr ≤ 20 := hX.2.1
  have hkc : (xr q x).toNatClampNeg = k := by rw [hk1, nI_clamp (by omega)]
  refine xof (own := RX4) (cc := cX4_to) (maxL := 4) (ret := (some .int)) rfl (by decide) rfl (Nat.le_of_ble_eq_true rfl) ?_
  intro pg en s mi below meth cd hc hnm hw ls hl
  obtain ⟨hx, hb, -, hown, hts, -⟩ := id hc
  have hl : lv_has ls 4 [(0, .ref aS), (1, .int (nI q)), (2, .int (nI x))] := hl
  have hw : xW G _ s.heap (([] : va_W) ++ va_pl L f) s.heap [] := hw
  refine lv_aload_n hx hb dX4_to_0 rfl (lv_at hl 0 rfl) ?_
  refine pget (C := RX4) (T := TX4) (N := 14) (ci := 4) hc hw inX4_to_X4 hO rfl 0 (by decide) lkX4_to_f9 rfl rfl dX4_to_1 ?_
  refine lv_aload_n hx hb dX4_to_4 rfl (lv_at hl 0 rfl) ?_
  refine pget (C := RX4) (T := TX4) (N := 14) (ci := 4) hc hw inX4_to_X4 hO rfl 1 (by decide) lkX4_to_f15 rfl rfl dX4_to_5 ?_
  refine lv_iload_n hx hb dX4_to_8 rfl (lv_at hl 1 rfl) ?_
  refine pald hc hw hE1 q rfl hq (by omega) (v := .ref ea) (by rw [he1]; rfl) dX4_to_9 ?_
  refine lv_iload_n hx hb dX4_to_10 rfl (lv_at hl 2 rfl) ?_
  refine pild hc hw he2 x rfl hx0 (by omega) (v := (nI k)) hk1 dX4_to_11 ?_
  refine pald hc hw hR1 k rfl hk2 (by omega) (v := .ref ra) (by rw [hr1]; rfl) dX4_to_12 ?_
  refine lv_astore_n (lv' := [(3, .ref ra), (0, .ref aS), (1, .int (nI q)), (2, .int (nI x))]) hx hb dX4_to_13 rfl hl (by decide) rfl (fun ls hl => ?_)
  refine lv_aload_n hx hb dX4_to_14 rfl (lv_at hl 0 rfl) ?_
  refine lv_iconst (v := 0) hx hb dX4_to_15 (by decide) ?_
  refine pild hc hw hr2 0 rfl (by decide) (by omega) (v := (rw k 0)) rfl dX4_to_16 ?_
  refine lv_iload_n hx hb dX4_to_17 rfl (lv_at hl 2 rfl) ?_
  refine lv_icmp_ne (tgt := 27) hx hb dX4_to_18 (by decide) (fun hz => ?_) (fun hz => ?_)
  · refine lv_aload_n hx hb dX4_to_27 rfl (lv_at hl 0 rfl) ?_
    refine lv_iconst (v := 0) hx hb dX4_to_28 (by decide) ?_
    refine pild hc hw hr2 0 rfl (by decide) (by omega) (v := (rw k 0)) rfl dX4_to_29 ?_
    exact pret_i hc hw (⟨by unfold sTo; rw [hkc, if_neg hz], rfl⟩) (by first | exact ⟨Nat.le_of_ble_eq_true rfl, Nat.le_of_ble_eq_true rfl⟩ | (refine ⟨?_, ?_⟩ <;> (dsimp only; omega))) dX4_to_30
  · refine lv_aload_n hx hb dX4_to_21 rfl (lv_at hl 0 rfl) ?_
    refine lv_iconst (v := 1) hx hb dX4_to_22 (by decide) ?_
    refine pild hc hw hr2 1 rfl (by decide) (by omega) (v := (rw k 1)) rfl dX4_to_23 ?_
    refine lv_goto (tgt := 30) hx hb dX4_to_24 (by decide) ?_
    exact pret_i hc hw (⟨by unfold sTo; rw [hkc, if_pos hz], rfl⟩) (by first | exact ⟨Nat.le_of_ble_eq_true rfl, Nat.le_of_ble_eq_true rfl⟩ | (refine ⟨?_, ?_⟩ <;> (dsimp only; omega))) dX4_to_30
set_option maxHeartbeats 40000000 in
set_option maxRecDepth 100000 in
theorem metS_isFree (l : Launch) (G : xG) (sz : Nat) (L : List Nat) (f : Nat → va_E) (aS : Nat) (v : Nat → Int32) (n : Nat) (xn : Nat → Nat) (xr : Nat → Nat → Int32) (nr : Nat) (rw : Nat → Nat → Int32) (sh ak : Nat → Int32) (wl : Nat) (wy : Nat → Nat → Int32) (mp : Nat → Nat → Bool) (mm : Nat → Nat → Nat → Int32) (S : Sh G L f aS v n xn xr nr rw sh ak wl wy mp mm) (hX : sX n xn xr nr rw) (q x : Nat) (hp : v 4 = nI q ∧ q < n) (hx0 : x < xn q) : pMi l yX4_isFree wsX4_isFree ⟨0, 0, 0, 0⟩ G [.ref aS, .int (nI x)] L f sz (fun r u => r = sFr rw xr q x ∧ u = (L, f)) := by
  obtain ⟨ad, oo, om, hO, hA⟩ := S
  obtain ⟨⟨hR1, hR2, hR3⟩, ⟨hE1, hE2⟩, hZ, ⟨hW1, hW2⟩, ⟨hM1, hM2, hM3⟩, hN⟩ := id hA
  have hO : objS L f aS 4 [.ref (ad 0), .ref (ad 1), .ref (ad 2), .ref (ad 3), .int (v 4), .int (v 5), .int (v 6), .ref (ad 4), .ref (ad 5), .int (v 9), .int (v 10), .int (v 11), .int (v 12), .int (v 13)] := hO
  obtain ⟨hqw, hq⟩ := hp
  obtain ⟨k, hk1, hk2⟩ := hX.2.2.1 q x hq hx0
  obtain ⟨hx4, ea, he1, he2⟩ := hE2 q hq
  obtain ⟨ra, hr1, hr2⟩ := hR2 k hk2
  have hn10 : n ≤ 10 := hX.1
  have hr20 : nr ≤ 20 := hX.2.1
  have hkc : (xr q x).toNatClampNeg = k := by rw [hk1, nI_clamp (by omega)]
  refine xof (own := RX4) (cc := cX4_isFree) (maxL := 2) (ret := (some .boolean)) rfl (by decide) rfl (Nat.le_of_ble_eq_true rfl) ?_
  intro pg en s mi below meth cd hc hnm hw ls hl
  obtain ⟨hx, hb, -, hown, hts, -⟩ := id hc
  have hl : lv_has ls 2 [(0, .ref aS), (1, .int (nI x))] := hl
  have hw : xW G _ s.heap (([] : va_W) ++ va_pl L f) s.heap [] := hw
  refine lv_aload_n hx hb dX4_isFree_0 rfl (lv_at hl 0 rfl) ?_
  refine pget (C := RX4) (T := TX4) (N := 14) (ci := 4) hc hw inX4_isFree_X4 hO rfl 0 (by decide) lkX4_isFree_f9 rfl rfl dX4_isFree_1 ?_
  refine lv_aload_n hx hb dX4_isFree_4 rfl (lv_at hl 0 rfl) ?_
  refine pget (C := RX4) (T := TX4) (N := 14) (ci := 4) hc hw inX4_isFree_X4 hO rfl 1 (by decide) lkX4_isFree_f15 rfl rfl dX4_isFree_5 ?_
  refine lv_aload_n hx hb dX4_isFree_8 rfl (lv_at hl 0 rfl) ?_
  refine pget (C := RX4) (T := TX4) (N := 14) (ci := 4) hc hw inX4_isFree_X4 hO rfl 4 (by decide) lkX4_isFree_f25 rfl rfl dX4_isFree_9 ?_
  refine pald hc hw hE1 q hqw hq (by omega) (v := .ref ea) (by rw [he1]; rfl) dX4_isFree_12 ?_
  refine lv_iload_n hx hb dX4_isFree_13 rfl (lv_at hl 1 rfl) ?_
  refine pild hc hw he2 x rfl hx0 (by omega) (v := (nI k)) hk1 dX4_isFree_14 ?_
  refine pald hc hw hR1 k rfl hk2 (by omega) (v := .ref ra) (by rw [hr1]; rfl) dX4_isFree_15 ?_
  refine lv_iconst (v := 3) hx hb dX4_isFree_16 (by decide) ?_
  refine pild hc hw hr2 3 rfl (by decide) (by omega) (v := (rw k 3)) rfl dX4_isFree_17 ?_
  refine lv_iconst (v := 1) hx hb dX4_isFree_18 (by decide) ?_
  refine lv_icmp_ne (tgt := 47) hx hb dX4_isFree_19 (by decide) (fun h3 => ?_) (fun h3 => ?_)
  · refine lv_iconst (v := 0) hx hb dX4_isFree_47 (by decide) ?_
    exact pret_z hc hw rfl (⟨by unfold sFr; rw [hkc]; rw [if_neg h3], rfl⟩) (by first | exact ⟨Nat.le_of_ble_eq_true rfl, Nat.le_of_ble_eq_true rfl⟩ | (refine ⟨?_, ?_⟩ <;> (dsimp only; omega))) dX4_isFree_48
  · refine lv_aload_n hx hb dX4_isFree_22 rfl (lv_at hl 0 rfl) ?_
    refine pget (C := RX4) (T := TX4) (N := 14) (ci := 4) hc hw inX4_isFree_X4 hO rfl 0 (by decide) lkX4_isFree_f9 rfl rfl dX4_isFree_23 ?_
    refine lv_aload_n hx hb dX4_isFree_26 rfl (lv_at hl 0 rfl) ?_
    refine pget (C := RX4) (T := TX4) (N := 14) (ci := 4) hc hw inX4_isFree_X4 hO rfl 1 (by decide) lkX4_isFree_f15 rfl rfl dX4_isFree_27 ?_
    refine lv_aload_n hx hb dX4_isFree_30 rfl (lv_at hl 0 rfl) ?_
    refine pget (C := RX4) (T := TX4) (N := 14) (ci := 4) hc hw inX4_isFree_X4 hO rfl 4 (by decide) lkX4_isFree_f25 rfl rfl dX4_isFree_31 ?_
    refine pald hc hw hE1 q hqw hq (by omega) (v := .ref ea) (by rw [he1]; rfl) dX4_isFree_34 ?_
    refine lv_iload_n hx hb dX4_isFree_35 rfl (lv_at hl 1 rfl) ?_
    refine pild hc hw he2 x rfl hx0 (by omega) (v := (nI k)) hk1 dX4_isFree_36 ?_
    refine pald hc hw hR1 k rfl hk2 (by omega) (v := .ref ra) (by rw [hr1]; rfl) dX4_isFree_37 ?_
    refine lv_iconst (v := 4) hx hb dX4_isFree_38 (by decide) ?_
    refine pild hc hw hr2 4 rfl (by decide) (by omega) (v := (rw k 4)) rfl dX4_isFree_39 ?_
    refine lv_if_ne (tgt := 47) hx hb dX4_isFree_40 (by decide) (fun h4 => ?_) (fun h4 => ?_)
    · refine lv_iconst (v := 0) hx hb dX4_isFree_47 (by decide) ?_
      exact pret_z hc hw rfl (⟨by unfold sFr; rw [hkc]; rw [if_pos h3, if_neg h4], rfl⟩) (by first | exact ⟨Nat.le_of_ble_eq_true rfl, Nat.le_of_ble_eq_true rfl⟩ | (refine ⟨?_, ?_⟩ <;> (dsimp only; omega))) dX4_isFree_48
    · refine lv_iconst (v := 1) hx hb dX4_isFree_43 (by decide) ?_
      refine lv_goto (tgt := 48) hx hb dX4_isFree_44 (by decide) ?_
      exact pret_z hc hw rfl (⟨by unfold sFr; rw [hkc]; rw [if_pos h3, if_pos h4], rfl⟩) (by first | exact ⟨Nat.le_of_ble_eq_true rfl, Nat.le_of_ble_eq_true rfl⟩ | (refine ⟨?_, ?_⟩ <;> (dsimp only; omega))) dX4_isFree_48
end
section
theorem lkX4_more_c7 : Cond.classLink RX4 7 "[I" ∈ wsX4_more := List.mem_of_getElem? (i := 1) (by decide +kernel)
theorem lkX4_more__aI : Cond.arrayClass .int ∈ wsX4_more_ := List.mem_of_getElem? (i := 1) (by decide +kernel)
/-! the second carrier: rows with one more, places, roads, the end and the start of an errand -/
theorem pk.off {L L1 L2 : List Nat} {f f1 f2 : Nat → va_E} {r : Nat} (h : pk (fun _ => False) L f L1 f1) (hr : r ∉ L) (k : pk (fun b => b = r) L1 f1 L2 f2) : pk (fun _ => False) L f L2 f2 := fun b hb => ⟨(k b (h b hb).1).1, fun _ => ((k b (h b hb).1).2 (fun e => hr (e ▸ hb))).trans ((h b hb).2 (fun z => z))⟩
theorem xlI {a b : Nat} (h : ¬ nI b ≤ nI a) (ha : a < 2 ^ 31) : a < b := Nat.not_le.mp fun z => h (nI_le z ha)
theorem nI_s1 (k : Nat) : nI k + 1 = nI (k + 1) := by rw [← nI_1]
set_option maxHeartbeats 40000000 in
set_option maxRecDepth 100000 in
theorem lpS_more {p : Program} {l : Launch} {e : Env} {R : Room} {s : State} {m : MethodId} {args : Array Value} {below : List Frame} {meth : Method} {c : Code} {cells slots : Nat} {Q : State → Prop} {ret : Option FieldType} {G : xG} {A : Nat → Prop} (hc : xC p s m args meth c cX4_more 4 RX4 wsX4_more ret G A) {L : List Nat} {f0 : Nat → va_E} {a n q mq r : Nat} {gq : Nat → Int32} {o : Nat → Option Nat} (hn : n ≤ 40) (hne : ¬ a = r)
    (kx : ∀ (f : Nat → va_E) (H : Heap) (locs : List Loc) (ls : Array Slot) (o1 : Nat → Option Nat), rowA G L f a n o → (∀ j, j < n → ∃ b m g, o j = some b ∧ rowI G L f b m g) → rowI G L f q mq gq → rowA G L f r (n + 1) o1 → (∀ j, j < n → o1 j = o j) → pk (fun b => b = r) L f0 L f → lv_has ls 4 [(2, .ref r), (0, .ref a), (1, .ref q)] → xW G A s.heap (([] : va_W) ++ va_pl L f) H locs → W p l e R s m args below meth c H locs cells slots Q (F0 m 28 ls [])) :
    ∀ (d i : Nat), i + d = n → ∀ (f : Nat → va_E) (H : Heap) (locs : List Loc) (ls : Array Slot), rowA G L f a n o → (∀ j, j < n → ∃ b m g, o j = some b ∧ rowI G L f b m g) → rowI G L f q mq gq → (∃ o1, rowA G L f r (n + 1) o1 ∧ ∀ j, j < i → o1 j = o j) → pk (fun b => b = r) L f0 L f → lv_has ls 4 [(3, .int (nI i)), (2, .ref r), (0, .ref a), (1, .ref q)] → xW G A s.heap (([] : va_W) ++ va_pl L f) H locs → W p l e R s m args below meth c H locs cells slots Q (F0 m 10 ls []) := by
  obtain ⟨hx, hb, -, hown, hts, -⟩ := id hc
  intro d
  induction d with
  | zero =>
    intro i hd f H locs ls ha hrow hq hr k0 hl hw
    refine lv_iload_n hx hb dX4_more_10 rfl (lv_at hl 0 rfl) ?_
    refine lv_aload_n hx hb dX4_more_11 rfl (lv_at hl 2 rfl) ?_
    refine plenA hc hw ha dX4_more_12 ?_
    refine lv_icmp_ge (tgt := 28) hx hb dX4_more_13 (by decide) (fun hz => ?_) (fun h => absurd (nI_le (by omega) (by omega)) h)
    obtain ⟨o1, r1, r2⟩ := hr
    exact kx f H locs ls o1 ha hrow hq r1 (fun j hj => r2 j (by omega)) k0 (lv_sub hl [1, 2, 3] rfl) hw
  | succ d ih =>
    intro i hd f H locs ls ha hrow hq hr k0 hl hw
    obtain ⟨o1, r1, r2⟩ := hr
    obtain ⟨b, mb, gb, hb1, hb2⟩ := hrow i (by omega)
    refine lv_iload_n hx hb dX4_more_10 rfl (lv_at hl 0 rfl) ?_
    refine lv_aload_n hx hb dX4_more_11 rfl (lv_at hl 2 rfl) ?_
    refine plenA hc hw ha dX4_more_12 ?_
    refine lv_icmp_ge (tgt := 28) hx hb dX4_more_13 (by decide) (fun h => absurd h (nI_ge (by omega) (by omega))) (fun hz => ?_)
    refine lv_aload_n hx hb dX4_more_16 rfl (lv_at hl 1 rfl) ?_
    refine lv_iload_n hx hb dX4_more_17 rfl (lv_at hl 0 rfl) ?_
    refine lv_aload_n hx hb dX4_more_18 rfl (lv_at hl 2 rfl) ?_
    refine lv_iload_n hx hb dX4_more_19 rfl (lv_at hl 0 rfl) ?_
    refine pald hc hw ha i rfl (by omega) (by omega) (v := .ref b) (by rw [hb1]; rfl) dX4_more_20 ?_
    refine past hc hw r1 i rfl (by omega) (by omega) hb2 dX4_more_21 (fun f H locs k r9 hw => ?_)
    refine lv_iinc (v := nI (i + 1)) (lv' := [(3, .int (nI (i + 1))), (2, .ref r), (0, .ref a), (1, .ref q)]) hx hb dX4_more_22 hl (k := 0) rfl (nI_1 _) (by decide) rfl (fun ls hl => ?_)
    refine lv_goto (tgt := 10) hx hb dX4_more_25 (by decide) ?_
    refine ih (i + 1) (by omega) f H locs ls (ha.kp k hne) (fun j hj => ?_) (hq.kp k (hq.neA r1)) ⟨_, r9, fun j hj => ?_⟩ (k0.tr k) hl hw
    · obtain ⟨b', m', g', e1, e2⟩ := hrow j hj
      exact ⟨b', m', g', e1, e2.kp k (e2.neA r1)⟩
    · by_cases ej : j = i
      · subst ej; rw [va_up_self, hb1]
      · rw [va_up_ne _ _ ej]; exact r2 j (by omega)
set_option maxHeartbeats 40000000 in
set_option maxRecDepth 100000 in
theorem metS_more (l : Launch) (G : xG) (sz : Nat) (L : List Nat) (f : Nat → va_E) (a n q mq : Nat) (gq : Nat → Int32) (o : Nat → Option Nat) (hn : n ≤ 40) (ha : rowA G L f a n o) (hrow : ∀ j, j < n → ∃ b m g, o j = some b ∧ rowI G L f b m g) (hq : rowI G L f q mq gq) : pMr l yX4_more wsX4_more ⟨0, 1, 41, 0⟩ G [.ref a, .ref q] L f sz (fun r u => r ∉ L ∧ pk (fun _ => False) L f u.1 u.2 ∧ ∃ o1, rowA G u.1 u.2 r (n + 1) o1 ∧ (∀ j, j < n → o1 j = o j) ∧ o1 n = some q) := by
  refine xof (own := RX4) (cc := cX4_more) (maxL := 4) (ret := (some (.array (.array .int)))) rfl (by decide) rfl (Nat.le_of_ble_eq_true rfl) ?_
  intro pg en s mi below meth cd hc hnm hw ls hl
  obtain ⟨hx, hb, -, hown, hts, -⟩ := id hc
  have hl : lv_has ls 4 [(0, .ref a), (1, .ref q)] := hl
  have hw : xW G _ s.heap (([] : va_W) ++ va_pl L f) s.heap [] := hw
  refine lv_aload_n hx hb dX4_more_0 rfl (lv_at hl 0 rfl) ?_
  refine plenA hc hw ha dX4_more_1 ?_
  refine lv_iconst (v := 1) hx hb dX4_more_2 (by decide) ?_
  refine lv_iadd hx hb dX4_more_3 ?_
  refine pnewA hc hw (n + 1) (nI_s1 n) (by omega) lkX4_more_c7 (by first | exact Nat.le_of_ble_eq_true rfl | ((try dsimp only); omega)) (by first | exact Nat.le_of_ble_eq_true rfl | ((try dsimp only); omega)) dX4_more_4 (fun r L1 f1 H hr k1 r1 hw => ?_)
  refine lv_astore_n (lv' := [(2, .ref r), (0, .ref a), (1, .ref q)]) hx hb dX4_more_7 rfl hl (by decide) rfl (fun ls hl => ?_)
  refine lv_iconst (v := 0) hx hb dX4_more_8 (by decide) ?_
  refine lv_istore_n (lv' := [(3, .int 0), (2, .ref r), (0, .ref a), (1, .ref q)]) hx hb dX4_more_9 rfl hl (by decide) rfl (fun ls hl => ?_)
  have hne : ¬ a = r := fun z => hr (z ▸ ha.1)
  refine lpS_more hc hn hne (fun f2 H locs ls o1 ha2 hrow2 hq2 r2 r3 k2 hl hw => ?_) n 0 (by omega) f1 _ _ ls (ha.kp k1 (fun z => z)) (fun j hj => ?_) (hq.kp k1 (fun z => z)) ⟨_, r1, fun j hj => absurd hj (by omega)⟩ pk.rf hl hw
  rotate_left
  · obtain ⟨b, mb, gb, h1, h2⟩ := hrow j hj
    exact ⟨b, mb, gb, h1, h2.kp k1 (fun z => z)⟩
  refine lv_aload_n hx hb dX4_more_28 rfl (lv_at hl 0 rfl) ?_
  refine lv_aload_n hx hb dX4_more_29 rfl (lv_at hl 1 rfl) ?_
  refine plenA hc hw ha2 dX4_more_30 ?_
  refine lv_aload_n hx hb dX4_more_31 rfl (lv_at hl 2 rfl) ?_
  refine past hc hw r2 n rfl (by omega) (by omega) hq2 dX4_more_32 (fun f H locs k3 r9 hw => ?_)
  refine lv_aload_n hx hb dX4_more_33 rfl (lv_at hl 0 rfl) ?_
  exact pret_r hc hw (⟨hr, (k1.off hr k2).off hr k3, _, r9, fun j hj => by rw [va_up_ne _ _ (by omega)]; exact r3 j hj, va_up_self _ _ _⟩) (by first | exact ⟨Nat.le_of_ble_eq_true rfl, Nat.le_of_ble_eq_true rfl⟩ | (refine ⟨?_, ?_⟩ <;> ((try dsimp only); omega))) dX4_more_34
set_option maxHeartbeats 40000000 in
set_option maxRecDepth 100000 in
theorem lpS_more_ {p : Program} {l : Launch} {e : Env} {R : Room} {s : State} {m : MethodId} {args : Array Value} {below : List Frame} {meth : Method} {c : Code} {cells slots : Nat} {Q : State → Prop} {ret : Option FieldType} {G : xG} {A : Nat → Prop} (hc : xC p s m args meth c cX4_more_ 4 RX4 wsX4_more_ ret G A) {L : List Nat} {f0 : Nat → va_E} {a n r : Nat} {x : Int32} {g : Nat → Int32} (hn : n ≤ 4) (hne : ¬ a = r)
    (kx : ∀ (f : Nat → va_E) (H : Heap) (locs : List Loc) (ls : Array Slot) (g1 : Nat → Int32), rowI G L f a n g → rowI G L f r (n + 1) g1 → (∀ j, j < n → g1 j = g j) → pk (fun b => b = r) L f0 L f → lv_has ls 4 [(2, .ref r), (0, .ref a), (1, .int x)] → xW G A s.heap (([] : va_W) ++ va_pl L f) H locs → W p l e R s m args below meth c H locs cells slots Q (F0 m 27 ls [])) :
    ∀ (d i : Nat), i + d = n → ∀ (f : Nat → va_E) (H : Heap) (locs : List Loc) (ls : Array Slot), rowI G L f a n g → (∃ g1, rowI G L f r (n + 1) g1 ∧ ∀ j, j < i → g1 j = g j) → pk (fun b => b = r) L f0 L f → lv_has ls 4 [(3, .int (nI i)), (2, .ref r), (0, .ref a), (1, .int x)] → xW G A s.heap (([] : va_W) ++ va_pl L f) H locs → W p l e R s m args below meth c H locs cells slots Q (F0 m 9 ls []) := by
  obtain ⟨hx, hb, -, hown, hts, -⟩ := id hc
  intro d
  induction d with
  | zero =>
    intro i hd f H locs ls ha hr k0 hl hw
    refine lv_iload_n hx hb dX4_more__9 rfl (lv_at hl 0 rfl) ?_
    refine lv_aload_n hx hb dX4_more__10 rfl (lv_at hl 2 rfl) ?_
    refine plenI hc hw ha dX4_more__11 ?_
    refine lv_icmp_ge (tgt := 27) hx hb dX4_more__12 (by decide) (fun hz => ?_) (fun h => absurd (nI_le (by omega) (by omega)) h)
    obtain ⟨g1, r1, r2⟩ := hr
    exact kx f H locs ls g1 ha r1 (fun j hj => r2 j (by omega)) k0 (lv_sub hl [1, 2, 3] rfl) hw
  | succ d ih =>
    intro i hd f H locs ls ha hr k0 hl hw
    obtain ⟨g1, r1, r2⟩ := hr
    refine lv_iload_n hx hb dX4_more__9 rfl (lv_at hl 0 rfl) ?_
    refine lv_aload_n hx hb dX4_more__10 rfl (lv_at hl 2 rfl) ?_
    refine plenI hc hw ha dX4_more__11 ?_
    refine lv_icmp_ge (tgt := 27) hx hb dX4_more__12 (by decide) (fun h => absurd h (nI_ge (by omega) (by omega))) (fun hz => ?_)
    refine lv_aload_n hx hb dX4_more__15 rfl (lv_at hl 1 rfl) ?_
    refine lv_iload_n hx hb dX4_more__16 rfl (lv_at hl 0 rfl) ?_
    refine lv_aload_n hx hb dX4_more__17 rfl (lv_at hl 2 rfl) ?_
    refine lv_iload_n hx hb dX4_more__18 rfl (lv_at hl 0 rfl) ?_
    refine pild hc hw ha i rfl (by omega) (by omega) (v := (g i)) rfl dX4_more__19 ?_
    refine pist hc hw r1 i rfl (by omega) (by omega) dX4_more__20 (fun f H locs k r9 hw => ?_)
    refine lv_iinc (v := nI (i + 1)) (lv' := [(3, .int (nI (i + 1))), (2, .ref r), (0, .ref a), (1, .int x)]) hx hb dX4_more__21 hl (k := 0) rfl (nI_1 _) (by decide) rfl (fun ls hl => ?_)
    refine lv_goto (tgt := 9) hx hb dX4_more__24 (by decide) ?_
    refine ih (i + 1) (by omega) f H locs ls (ha.kp k hne) ⟨_, r9, fun j hj => ?_⟩ (k0.tr k) hl hw
    by_cases ej : j = i
    · subst ej; rw [pk_us]
    · rw [pk_un ej]; exact r2 j (by omega)
set_option maxHeartbeats 40000000 in
set_option maxRecDepth 100000 in
theorem metS_more_ (l : Launch) (G : xG) (sz : Nat) (L : List Nat) (f : Nat → va_E) (a n : Nat) (x : Int32) (g : Nat → Int32) (hn : n ≤ 4) (ha : rowI G L f a n g) : pMr l yX4_more_ wsX4_more_ ⟨0, 1, 5, 0⟩ G [.ref a, .int x] L f sz (fun r u => r ∉ L ∧ pk (fun _ => False) L f u.1 u.2 ∧ ∃ g1, rowI G u.1 u.2 r (n + 1) g1 ∧ (∀ j, j < n → g1 j = g j) ∧ g1 n = x) := by
  refine xof (own := RX4) (cc := cX4_more_) (maxL := 4) (ret := (some (.array .int))) rfl (by decide) rfl (Nat.le_of_ble_eq_true rfl) ?_
  intro pg en s mi below meth cd hc hnm hw ls hl
  obtain ⟨hx, hb, -, hown, hts, -⟩ := id hc
  have hl : lv_has ls 4 [(0, .ref a), (1, .int x)] := hl
  have hw : xW G _ s.heap (([] : va_W) ++ va_pl L f) s.heap [] := hw
  refine lv_aload_n hx hb dX4_more__0 rfl (lv_at hl 0 rfl) ?_
  refine plenI hc hw ha dX4_more__1 ?_
  refine lv_iconst (v := 1) hx hb dX4_more__2 (by decide) ?_
  refine lv_iadd hx hb dX4_more__3 ?_
  refine pnewI hc hw (n + 1) (nI_s1 n) (by omega) lkX4_more__aI (by first | exact Nat.le_of_ble_eq_true rfl | ((try dsimp only); omega)) (by first | exact Nat.le_of_ble_eq_true rfl | ((try dsimp only); omega)) dX4_more__4 (fun r L1 f1 H hr k1 r1 hw => ?_)
  refine lv_astore_n (lv' := [(2, .ref r), (0, .ref a), (1, .int x)]) hx hb dX4_more__6 rfl hl (by decide) rfl (fun ls hl => ?_)
  refine lv_iconst (v := 0) hx hb dX4_more__7 (by decide) ?_
  refine lv_istore_n (lv' := [(3, .int 0), (2, .ref r), (0, .ref a), (1, .int x)]) hx hb dX4_more__8 rfl hl (by decide) rfl (fun ls hl => ?_)
  have hne : ¬ a = r := fun z => hr (z ▸ ha.1)
  refine lpS_more_ hc hn hne (fun f2 H locs ls g1 ha2 r2 r3 k2 hl hw => ?_) n 0 (by omega) f1 _ _ ls (ha.kp k1 (fun z => z)) ⟨_, r1, fun j hj => absurd hj (by omega)⟩ pk.rf hl hw
  refine lv_aload_n hx hb dX4_more__27 rfl (lv_at hl 0 rfl) ?_
  refine lv_aload_n hx hb dX4_more__28 rfl (lv_at hl 1 rfl) ?_
  refine plenI hc hw ha2 dX4_more__29 ?_
  refine lv_iload_n hx hb dX4_more__30 rfl (lv_at hl 2 rfl) ?_
  refine pist hc hw r2 n rfl (by omega) (by omega) dX4_more__31 (fun f H locs k3 r9 hw => ?_)
  refine lv_aload_n hx hb dX4_more__32 rfl (lv_at hl 0 rfl) ?_
  exact pret_r hc hw (⟨hr, (k1.off hr k2).off hr k3, _, r9, fun j hj => by rw [pk_un (by omega)]; exact r3 j hj, pk_us⟩) (by first | exact ⟨Nat.le_of_ble_eq_true rfl, Nat.le_of_ble_eq_true rfl⟩ | (refine ⟨?_, ?_⟩ <;> ((try dsimp only); omega))) dX4_more__33
end
section
theorem inX4_place_X4 : ∀ w ∈ u_ws RX4 TX4 14, w ∈ wsX4_place := fun _ h => List.mem_cons_of_mem _ (List.mem_append_right _ h)
theorem lkX4_place_f15 : Cond.fieldLink RX4 15 "MapCarrierLaw$Sim" "exits" "[[I" ∈ wsX4_place := List.mem_of_getElem? (i := 1) (by decide +kernel)
theorem lkX4_place_aI : Cond.arrayClass .int ∈ wsX4_place := List.mem_of_getElem? (i := 2) (by decide +kernel)
theorem lkX4_place_f25 : Cond.fieldLink RX4 25 "MapCarrierLaw$Sim" "where" "I" ∈ wsX4_place := List.mem_of_getElem? (i := 3) (by decide +kernel)
theorem inX4_road_X4 : ∀ w ∈ u_ws RX4 TX4 14, w ∈ wsX4_road := fun _ h => List.mem_cons_of_mem _ (List.mem_append_right _ h)
theorem lkX4_road_f9 : Cond.fieldLink RX4 9 "MapCarrierLaw$Sim" "roads" "[[I" ∈ wsX4_road := List.mem_of_getElem? (i := 1) (by decide +kernel)
theorem lkX4_road_aI : Cond.arrayClass .int ∈ wsX4_road := List.mem_of_getElem? (i := 2) (by decide +kernel)
theorem lkX4_road_f15 : Cond.fieldLink RX4 15 "MapCarrierLaw$Sim" "exits" "[[I" ∈ wsX4_road := List.mem_of_getElem? (i := 3) (by decide +kernel)
/-! the second carrier: places, roads, the end and the start of an errand -/
theorem ShA.nin {G : xG} {L : List Nat} {f : Nat → va_E} {ad : Nat → Nat} {oo om : Nat → Nat → Option Nat} {n : Nat} {xn : Nat → Nat} {xr : Nat → Nat → Int32} {nr : Nat} {rw : Nat → Nat → Int32} {sh ak : Nat → Int32} {wl : Nat} {wy : Nat → Nat → Int32} {mp : Nat → Nat → Bool} {mm : Nat → Nat → Nat → Int32} {r : Nat} (h : ShA G L f ad oo om n xn xr nr rw sh ak wl wy mp mm) (hr : r ∉ L) : (r ≠ ad 0 ∧ r ≠ ad 1 ∧ r ≠ ad 2 ∧ r ≠ ad 3 ∧ r ≠ ad 4 ∧ r ≠ ad 5) ∧ ∀ g a, g < 10 → oo 3 g = some a → a ≠ r := by
  obtain ⟨h1, h2, h3, h4, h5, h6⟩ := h
  refine ⟨⟨fun z => hr (z ▸ h1.1.1), fun z => hr (z ▸ h2.1.1), fun z => hr (z ▸ h3.1.1), fun z => hr (z ▸ h3.2.1.1), fun z => hr (z ▸ h4.1.1), fun z => hr (z ▸ h5.1.1)⟩, fun g a hg e z => ?_⟩
  obtain ⟨b, e2, q, -⟩ := h5.2.2 g hg
  cases e.symm.trans e2
  exact hr (z ▸ q.1)
def sOv (rw : Nat → Nat → Int32) (k : Nat) : Nat → Nat → Int32 := fun j => if j < k then upd (rw j) 4 0 else rw j
theorem sOv_0 (rw : Nat → Nat → Int32) : sOv rw 0 = rw := funext fun _ => if_neg (Nat.not_lt_zero _)
theorem sOv_s (rw : Nat → Nat → Int32) (k : Nat) : va_up (sOv rw k) k (upd (sOv rw k k) 4 0) = sOv rw (k + 1) := by
  funext j
  by_cases c : j = k
  · subst c
    rw [va_up_self]
    unfold sOv
    rw [if_neg (Nat.lt_irrefl _), if_pos (Nat.lt_succ_self _)]
  · rw [va_up_ne _ _ c]
    unfold sOv
    by_cases d : j < k
    · rw [if_pos d, if_pos (by omega)]
    · rw [if_neg d, if_neg (by omega)]
def sRow (a b : Nat) (mil : Int32) : Nat → Int32 := upd (upd (upd (upd (upd (fun _ => 0) 0 (nI a)) 1 (nI b)) 2 mil) 3 1) 4 0
set_option maxHeartbeats 40000000 in
set_option maxRecDepth 100000 in
theorem metS_place (l : Launch) (G : xG) (sz : Nat) (L : List Nat) (f : Nat → va_E) (aS : Nat) (v : Nat → Int32) (n : Nat) (xn : Nat → Nat) (xr : Nat → Nat → Int32) (nr : Nat) (rw : Nat → Nat → Int32) (sh ak : Nat → Int32) (wl : Nat) (wy : Nat → Nat → Int32) (mp : Nat → Nat → Bool) (mm : Nat → Nat → Nat → Int32) (S : Sh G L f aS v n xn xr nr rw sh ak wl wy mp mm) (hn : n ≤ 9) : pMv l yX4_place wsX4_place ⟨1, 2, 41, 23⟩ G [.ref aS] L f sz (fun u => Sh G u.1 u.2 aS (if v 4 < 0 then upd v 4 0 else v) (n + 1) (va_up xn n 0) xr nr rw sh ak wl wy mp mm) := by
  obtain ⟨ad, oo, om, hO, hA⟩ := S
  have hO : objS L f aS 4 [.ref (ad 0), .ref (ad 1), .ref (ad 2), .ref (ad 3), .int (v 4), .int (v 5), .int (v 6), .ref (ad 4), .ref (ad 5), .int (v 9), .int (v 10), .int (v 11), .int (v 12), .int (v 13)] := hO
  refine xof (own := RX4) (cc := cX4_place) (maxL := 1) (ret := none) rfl (by decide) rfl (Nat.le_of_ble_eq_true rfl) ?_
  intro pg en s mi below meth cd hc hnm hw ls hl
  obtain ⟨hx, hb, -, hown, hts, -⟩ := id hc
  have hl : lv_has ls 1 [(0, .ref aS)] := hl
  have hw : xW G _ s.heap (([] : va_W) ++ va_pl L f) s.heap [] := hw
  refine lv_aload_n hx hb dX4_place_0 rfl (lv_at hl 0 rfl) ?_
  refine lv_aload_n hx hb dX4_place_1 rfl (lv_at hl 0 rfl) ?_
  refine pget (C := RX4) (T := TX4) (N := 14) (ci := 4) hc hw inX4_place_X4 hO rfl 1 (by decide) lkX4_place_f15 rfl rfl dX4_place_2 ?_
  refine lv_iconst (v := 0) hx hb dX4_place_5 (by decide) ?_
  refine pnewI hc hw 0 rfl (by omega) lkX4_place_aI (by first | exact Nat.le_of_ble_eq_true rfl | ((try dsimp only); omega)) (by first | exact Nat.le_of_ble_eq_true rfl | ((try dsimp only); omega)) dX4_place_6 (fun q0 L1 f1 H hq0 k1 r1 hw => ?_)
  have hO := hO.kp k1 (fun z => z)
  have hA := hA.fresh k1
  obtain ⟨-, ⟨hE1, hE2⟩, -⟩ := id hA
  refine pcall_r hc hw (prunS (n := 2) (As := [.ref (ad 1), .ref q0]) (rest := [.ref aS]) hc hw (metS_more l G _ _ _ (ad 1) n q0 0 _ (oo 1) (by omega) hE1 (fun j hj => (by obtain ⟨-, b, e1, e2⟩ := hE2 j hj; exact ⟨b, _, _, e1, e2⟩)) r1) gX4_place_X4_more rfl (by decide +kernel) ⟨Nat.le_of_ble_eq_true rfl, Nat.le_of_ble_eq_true rfl⟩ rfl rfl hl.1 (Nat.le_of_ble_eq_true rfl) dX4_place_8 (by first | exact ⟨Nat.le_of_ble_eq_true rfl, Nat.le_of_ble_eq_true rfl⟩ | (refine ⟨?_, ?_⟩ <;> ((try dsimp only); omega)))) (fun r L2 f2 H locs hp hw => ?_)
  obtain ⟨hr, k2, o1, r2, r3, r4⟩ := hp
  obtain ⟨⟨n0, n1, n2, n3, n4, n5⟩, n6⟩ := hA.nin hr
  have hO := hO.kp k2 (fun z => z)
  have hA := hA.fresh k2
  have r1 := r1.kp k2 (fun z => z)
  refine pput (C := RX4) (T := TX4) (N := 14) (ci := 4) (ty := .int) hc hw inX4_place_X4 tyX4 tyX4_ok nmX4 hO rfl 1 (by decide) lkX4_place_f15 rfl rfl rfl rfl (Nat.le_of_ble_eq_true rfl) [.ref (ad 0), .ref r, .ref (ad 2), .ref (ad 3), .int (v 4), .int (v 5), .int (v 6), .ref (ad 4), .ref (ad 5), .int (v 9), .int (v 10), .int (v 11), .int (v 12), .int (v 13)] rfl dX4_place_11 (fun f H locs k3 hO3 hw => ?_)
  have r2 := r2.kp k3 (hO.neA r2).symm
  have r1 := r1.kp k3 (hO.neI r1).symm
  have hA := hA.obj hO k3
  have hO := hO3
  obtain ⟨-, ⟨hE1, hE2⟩, -⟩ := id hA
  refine lv_aload_n hx hb dX4_place_14 rfl (lv_at hl 0 rfl) ?_
  refine pget (C := RX4) (T := TX4) (N := 14) (ci := 4) hc hw inX4_place_X4 hO rfl 4 (by decide) lkX4_place_f25 rfl rfl dX4_place_15 ?_
  have hA := hA.newE (q := r) (n1 := n + 1) (o1 := o1) (xn1 := va_up xn n 0) (xr1 := xr) ⟨r2, fun j hj => ?_⟩ n0 n4 n5 n6
  rotate_left
  · by_cases ej : j = n
    · subst ej
      rw [va_up_self]
      exact ⟨by decide, q0, r4, r1.cg (fun i hi => absurd hi (by omega))⟩
    · obtain ⟨e0, b, e1, e2⟩ := hE2 j (by omega)
      rw [va_up_ne _ _ ej]
      exact ⟨e0, b, (r3 j (by omega)).trans e1, e2⟩
  refine lv_if_ge (tgt := 26) hx hb dX4_place_18 (by decide) (fun hz => ?_) (fun hz => ?_)
  · exact pret_v hc hw (⟨_, _, _, by rw [if_neg (by rw [xltI]; rw [xle] at hz; exact Int.not_lt.mpr hz)]; exact hO, hA⟩) (by first | exact ⟨Nat.le_of_ble_eq_true rfl, Nat.le_of_ble_eq_true rfl⟩ | (refine ⟨?_, ?_⟩ <;> ((try dsimp only); omega))) dX4_place_26
  · refine lv_aload_n hx hb dX4_place_21 rfl (lv_at hl 0 rfl) ?_
    refine lv_iconst (v := 0) hx hb dX4_place_22 (by decide) ?_
    refine pput (C := RX4) (T := TX4) (N := 14) (ci := 4) (ty := .int) hc hw inX4_place_X4 tyX4 tyX4_ok nmX4 hO rfl 4 (by decide) lkX4_place_f25 rfl rfl rfl rfl (Nat.le_of_ble_eq_true rfl) [.ref (ad 0), .ref r, .ref (ad 2), .ref (ad 3), .int 0, .int (v 5), .int (v 6), .ref (ad 4), .ref (ad 5), .int (v 9), .int (v 10), .int (v 11), .int (v 12), .int (v 13)] rfl dX4_place_23 (fun f H locs k4 hO4 hw => ?_)
    have hA := hA.obj hO k4
    have hO := hO4
    exact pret_v hc hw (⟨_, _, _, by rw [if_pos (by rw [xltI]; rw [xle] at hz; exact Int.not_le.mp hz)]; exact hO, hA⟩) (by first | exact ⟨Nat.le_of_ble_eq_true rfl, Nat.le_of_ble_eq_true rfl⟩ | (refine ⟨?_, ?_⟩ <;> ((try dsimp only); omega))) dX4_place_26
set_option maxHeartbeats 40000000 in
set_option maxRecDepth 100000 in
theorem metS_road (l : Launch) (G : xG) (sz : Nat) (L : List Nat) (f : Nat → va_E) (aS : Nat) (v : Nat → Int32) (n : Nat) (xn : Nat → Nat) (xr : Nat → Nat → Int32) (nr : Nat) (rw : Nat → Nat → Int32) (sh ak : Nat → Int32) (wl : Nat) (wy : Nat → Nat → Int32) (mp : Nat → Nat → Bool) (mm : Nat → Nat → Nat → Int32) (S : Sh G L f aS v n xn xr nr rw sh ak wl wy mp mm) (qa qb : Nat) (mil : Int32) (hqa : qa < n) (hqb : qb < n) (hne : qa ≠ qb) (hn10 : n ≤ 10) (hr20 : nr ≤ 19) (hxa : xn qa ≤ 3) (hxb : xn qb ≤ 3) : pMi l yX4_road wsX4_road ⟨1, 4, 56, 23⟩ G [.ref aS, .int (nI qa), .int (nI qb), .int mil] L f sz (fun r u => r = nI (xn qa) ∧ Sh G u.1 u.2 aS v n (va_up (va_up xn qa (xn qa + 1)) qb (xn qb + 1)) (va_up (va_up xr qa (upd (xr qa) (xn qa) (nI nr))) qb (upd (xr qb) (xn qb) (nI nr))) (nr + 1) (va_up rw nr (sRow qa qb mil)) sh ak wl wy mp mm) := by
  obtain ⟨ad, oo, om, hO, hA⟩ := S
  have hO : objS L f aS 4 [.ref (ad 0), .ref (ad 1), .ref (ad 2), .ref (ad 3), .int (v 4), .int (v 5), .int (v 6), .ref (ad 4), .ref (ad 5), .int (v 9), .int (v 10), .int (v 11), .int (v 12), .int (v 13)] := hO
  refine xof (own := RX4) (cc := cX4_road) (maxL := 4) (ret := (some .int)) rfl (by decide) rfl (Nat.le_of_ble_eq_true rfl) ?_
  intro pg en s mi below meth cd hc hnm hw ls hl
  obtain ⟨hx, hb, -, hown, hts, -⟩ := id hc
  have hl : lv_has ls 4 [(0, .ref aS), (1, .int (nI qa)), (2, .int (nI qb)), (3, .int mil)] := hl
  have hw : xW G _ s.heap (([] : va_W) ++ va_pl L f) s.heap [] := hw
  have hA0 := hA
  have hO0 := hO
  refine lv_aload_n hx hb dX4_road_0 rfl (lv_at hl 0 rfl) ?_
  refine lv_aload_n hx hb dX4_road_1 rfl (lv_at hl 0 rfl) ?_
  refine pget (C := RX4) (T := TX4) (N := 14) (ci := 4) hc hw inX4_road_X4 hO rfl 0 (by decide) lkX4_road_f9 rfl rfl dX4_road_2 ?_
  refine lv_iconst (v := 5) hx hb dX4_road_5 (by decide) ?_
  refine pnewI hc hw 5 rfl (by omega) lkX4_road_aI (by first | exact Nat.le_of_ble_eq_true rfl | ((try dsimp only); omega)) (by first | exact Nat.le_of_ble_eq_true rfl | ((try dsimp only); omega)) dX4_road_6 (fun q0 L1 f1 H hq0 k1 r1 hw => ?_)
  have hO := hO.kp k1 (fun z => z)
  obtain ⟨⟨m0, m1, m2, m3, m4, m5⟩, m6⟩ := hA.nin hq0
  have hA := hA.fresh k1
  have kq : pk (fun _ => False) L f L1 f1 := k1
  refine lv_dup hx hb dX4_road_8 rfl ?_
  refine lv_iconst (v := 0) hx hb dX4_road_9 (by decide) ?_
  refine lv_iload_n hx hb dX4_road_10 rfl (lv_at hl 1 rfl) ?_
  refine pist hc hw r1 0 rfl (by decide) (by omega) dX4_road_11 (fun f H locs k2 r2 hw => ?_)
  have kq := kq.off hq0 k2
  have r1 := r2
  refine lv_dup hx hb dX4_road_12 rfl ?_
  refine lv_iconst (v := 1) hx hb dX4_road_13 (by decide) ?_
  refine lv_iload_n hx hb dX4_road_14 rfl (lv_at hl 2 rfl) ?_
  refine pist hc hw r1 1 rfl (by decide) (by omega) dX4_road_15 (fun f H locs k2 r2 hw => ?_)
  have kq := kq.off hq0 k2
  have r1 := r2
  refine lv_dup hx hb dX4_road_16 rfl ?_
  refine lv_iconst (v := 2) hx hb dX4_road_17 (by decide) ?_
  refine lv_iload_n hx hb dX4_road_18 rfl (lv_at hl 3 rfl) ?_
  refine pist hc hw r1 2 rfl (by decide) (by omega) dX4_road_19 (fun f H locs k2 r2 hw => ?_)
  have kq := kq.off hq0 k2
  have r1 := r2
  refine lv_dup hx hb dX4_road_20 rfl ?_
  refine lv_iconst (v := 3) hx hb dX4_road_21 (by decide) ?_
  refine lv_iconst (v := 1) hx hb dX4_road_22 (by decide) ?_
  refine pist hc hw r1 3 rfl (by decide) (by omega) dX4_road_23 (fun f H locs k2 r2 hw => ?_)
  have kq := kq.off hq0 k2
  have r1 := r2
  refine lv_dup hx hb dX4_road_24 rfl ?_
  refine lv_iconst (v := 4) hx hb dX4_road_25 (by decide) ?_
  refine lv_iconst (v := 0) hx hb dX4_road_26 (by decide) ?_
  refine pist hc hw r1 4 rfl (by decide) (by omega) dX4_road_27 (fun f H locs k2 r2 hw => ?_)
  have kq := kq.off hq0 k2
  have r1 := r2
  have hA := hA0.fresh kq
  have hO := hO0.kp kq (fun z => z)
  obtain ⟨⟨hR1, hR2, hR3⟩, -⟩ := id hA
  refine pcall_r hc hw (prunS (n := 2) (As := [.ref (ad 0), .ref q0]) (rest := [.ref aS]) hc hw (metS_more l G _ _ _ (ad 0) nr q0 5 _ (oo 0) (by omega) hR1 (fun j hj => (by obtain ⟨b, e1, e2⟩ := hR2 j hj; exact ⟨b, _, _, e1, e2⟩)) r1) gX4_road_X4_more rfl (by decide +kernel) ⟨Nat.le_of_ble_eq_true rfl, Nat.le_of_ble_eq_true rfl⟩ rfl rfl hl.1 (Nat.le_of_ble_eq_true rfl) dX4_road_28 (by first | exact ⟨Nat.le_of_ble_eq_true rfl, Nat.le_of_ble_eq_true rfl⟩ | (refine ⟨?_, ?_⟩ <;> ((try dsimp only); omega)))) (fun r L2 f2 H locs hp hw => ?_)
  obtain ⟨hr, k2, o1, r2, r3, r4⟩ := hp
  obtain ⟨⟨n0, n1, n2, n3, n4, n5⟩, n6⟩ := hA.nin hr
  have hq1 : ∀ j b, j < nr → oo 0 j = some b → b ≠ q0 := fun j b hj e z => (by
    obtain ⟨b', e1, -⟩ := hA0.1.2.1 j hj
    obtain ⟨e2⟩ : b' = b := Option.some.inj (e1.symm.trans e)
    obtain ⟨b'', e3, e4⟩ := hA0.1.2.1 j hj
    cases e1.symm.trans e3
    exact hq0 (z ▸ e4.1))
  have hO := hO.kp k2 (fun z => z)
  have hA := hA.fresh k2
  have r1 := r1.kp k2 (fun z => z)
  refine pput (C := RX4) (T := TX4) (N := 14) (ci := 4) (ty := .int) hc hw inX4_road_X4 tyX4 tyX4_ok nmX4 hO rfl 0 (by decide) lkX4_road_f9 rfl rfl rfl rfl (Nat.le_of_ble_eq_true rfl) [.ref r, .ref (ad 1), .ref (ad 2), .ref (ad 3), .int (v 4), .int (v 5), .int (v 6), .ref (ad 4), .ref (ad 5), .int (v 9), .int (v 10), .int (v 11), .int (v 12), .int (v 13)] rfl dX4_road_31 (fun f H locs k3 hO3 hw => ?_)
  have r2 := r2.kp k3 (hO.neA r2).symm
  have r1 := r1.kp k3 (hO.neI r1).symm
  have hA := hA.obj hO k3
  have hO := hO3
  obtain ⟨⟨hR1, hR2, hR3⟩, -⟩ := id hA
  have hA := hA.newR (q := r) (nr1 := nr + 1) (o1 := o1) (rw1 := va_up rw nr (sRow qa qb mil)) ⟨r2, fun j hj => ?_, fun i j hi hj he => ?_⟩ n1.symm n6
  rotate_left
  · by_cases ej : j = nr
    · subst ej
      rw [va_up_self]
      exact ⟨q0, r4, r1⟩
    · obtain ⟨b, e1, e2⟩ := hR2 j (by omega)
      rw [va_up_ne _ _ ej]
      exact ⟨b, (r3 j (by omega)).trans e1, e2⟩
  · by_cases ei : i = nr <;> by_cases ej : j = nr
    · omega
    · obtain ⟨b, e1, e2⟩ := hR2 j (by omega)
      subst ei
      rw [r4, r3 j (by omega), e1] at he
      exact absurd (Option.some.inj he).symm (hq1 j b (by omega) e1)
    · obtain ⟨b, e1, e2⟩ := hR2 i (by omega)
      subst ej
      rw [r4, r3 i (by omega), e1] at he
      exact absurd (Option.some.inj he) (hq1 i b (by omega) e1)
    · rw [r3 i (by omega), r3 j (by omega)] at he
      exact hR3 i j (by omega) (by omega) he
  have hO : objS L2 f aS 4 [.ref ((va_up ad 0 r) 0), .ref (ad 1), .ref (ad 2), .ref (ad 3), .int (v 4), .int (v 5), .int (v 6), .ref (ad 4), .ref (ad 5), .int (v 9), .int (v 10), .int (v 11), .int (v 12), .int (v 13)] := hO
  obtain ⟨⟨hR1, hR2, hR3⟩, ⟨hE1, hE2⟩, -⟩ := id hA
  refine lv_aload_n hx hb dX4_road_34 rfl (lv_at hl 0 rfl) ?_
  refine pget (C := RX4) (T := TX4) (N := 14) (ci := 4) hc hw inX4_road_X4 hO rfl 1 (by decide) lkX4_road_f15 rfl rfl dX4_road_35 ?_
  refine lv_iload_n hx hb dX4_road_38 rfl (lv_at hl 1 rfl) ?_
  refine lv_aload_n hx hb dX4_road_39 rfl (lv_at hl 0 rfl) ?_
  refine pget (C := RX4) (T := TX4) (N := 14) (ci := 4) hc hw inX4_road_X4 hO rfl 1 (by decide) lkX4_road_f15 rfl rfl dX4_road_40 ?_
  refine lv_iload_n hx hb dX4_road_43 rfl (lv_at hl 1 rfl) ?_
  obtain ⟨xea, ea, ea1, ea2⟩ := hE2 qa hqa
  refine pald hc hw hE1 qa rfl hqa (by omega) (v := .ref ea) (by rw [ea1]; rfl) dX4_road_44 ?_
  refine lv_aload_n hx hb dX4_road_45 rfl (lv_at hl 0 rfl) ?_
  refine pget (C := RX4) (T := TX4) (N := 14) (ci := 4) hc hw inX4_road_X4 hO rfl 0 (by decide) lkX4_road_f9 rfl rfl dX4_road_46 ?_
  refine plenA hc hw hR1 dX4_road_49 ?_
  refine lv_iconst (v := 1) hx hb dX4_road_50 (by decide) ?_
  refine lv_isub hx hb dX4_road_51 ?_
  refine pcall_r hc hw (prunS (n := 2) (As := [.ref ea, .int ((nI (nr + 1)) - 1)]) (rest := [.int (nI qa), .ref (ad 1)]) hc hw (metS_more_ l G _ _ _ ea (xn qa) _ (xr qa) (by omega) ea2) gX4_road_X4_more_ rfl (by decide +kernel) ⟨Nat.le_of_ble_eq_true rfl, Nat.le_of_ble_eq_true rfl⟩ rfl rfl hl.1 (Nat.le_of_ble_eq_true rfl) dX4_road_52 (by first | exact ⟨Nat.le_of_ble_eq_true rfl, Nat.le_of_ble_eq_true rfl⟩ | (refine ⟨?_, ?_⟩ <;> ((try dsimp only); omega)))) (fun y L3 f3 H locs hp hw => ?_)
  obtain ⟨hy, k4, g1, y1, y2, y3⟩ := hp
  have hO := hO.kp k4 (fun z => z)
  have hA := hA.fresh k4
  obtain ⟨⟨hR1, hR2, hR3⟩, ⟨hE1, hE2⟩, -⟩ := id hA
  refine past hc hw hE1 qa rfl hqa (by omega) y1 dX4_road_55 (fun f H locs k5 r5 hw => ?_)
  have hA' := hA.setE (p := qa) (q := y) (m := xn qa + 1) (g1 := upd (xr qa) (xn qa) (nI nr)) k5 r5 (by omega) (y1.cg (fun j hj => ?_))
  rotate_left
  · by_cases ej : j = xn qa
    · subst ej; rw [pk_us, y3]; exact nI_pred nr
    · rw [pk_un ej]; exact y2 j (by omega)
  have hO := hO.kp k5 (hO.neA hE1)
  have hA := hA'
  obtain ⟨⟨hR1, hR2, hR3⟩, ⟨hE1, hE2⟩, -⟩ := id hA
  have xb : va_up xn qa (xn qa + 1) qb = xn qb := va_up_ne _ _ (Ne.symm hne)
  have xb2 : va_up xr qa (upd (xr qa) (xn qa) (nI nr)) qb = xr qb := va_up_ne _ _ (Ne.symm hne)
  refine lv_aload_n hx hb dX4_road_56 rfl (lv_at hl 0 rfl) ?_
  refine pget (C := RX4) (T := TX4) (N := 14) (ci := 4) hc hw inX4_road_X4 hO rfl 1 (by decide) lkX4_road_f15 rfl rfl dX4_road_57 ?_
  refine lv_iload_n hx hb dX4_road_60 rfl (lv_at hl 2 rfl) ?_
  refine lv_aload_n hx hb dX4_road_61 rfl (lv_at hl 0 rfl) ?_
  refine pget (C := RX4) (T := TX4) (N := 14) (ci := 4) hc hw inX4_road_X4 hO rfl 1 (by decide) lkX4_road_f15 rfl rfl dX4_road_62 ?_
  refine lv_iload_n hx hb dX4_road_65 rfl (lv_at hl 2 rfl) ?_
  obtain ⟨xeb, eb, eb1, eb2⟩ := hE2 qb hqb
  rw [xb, xb2] at eb2
  refine pald hc hw hE1 qb rfl hqb (by omega) (v := .ref eb) (by rw [eb1]; rfl) dX4_road_66 ?_
  refine lv_aload_n hx hb dX4_road_67 rfl (lv_at hl 0 rfl) ?_
  refine pget (C := RX4) (T := TX4) (N := 14) (ci := 4) hc hw inX4_road_X4 hO rfl 0 (by decide) lkX4_road_f9 rfl rfl dX4_road_68 ?_
  refine plenA hc hw hR1 dX4_road_71 ?_
  refine lv_iconst (v := 1) hx hb dX4_road_72 (by decide) ?_
  refine lv_isub hx hb dX4_road_73 ?_
  refine pcall_r hc hw (prunS (n := 2) (As := [.ref eb, .int ((nI (nr + 1)) - 1)]) (rest := [.int (nI qb), .ref (ad 1)]) hc hw (metS_more_ l G _ _ _ eb (xn qb) _ (xr qb) (by omega) eb2) gX4_road_X4_more_ rfl (by decide +kernel) ⟨Nat.le_of_ble_eq_true rfl, Nat.le_of_ble_eq_true rfl⟩ rfl rfl hl.1 (Nat.le_of_ble_eq_true rfl) dX4_road_74 (by first | exact ⟨Nat.le_of_ble_eq_true rfl, Nat.le_of_ble_eq_true rfl⟩ | (refine ⟨?_, ?_⟩ <;> ((try dsimp only); omega)))) (fun y L3 f3 H locs hp hw => ?_)
  obtain ⟨hy, k4, g1, y1, y2, y3⟩ := hp
  have hO := hO.kp k4 (fun z => z)
  have hA := hA.fresh k4
  obtain ⟨⟨hR1, hR2, hR3⟩, ⟨hE1, hE2⟩, -⟩ := id hA
  refine past hc hw hE1 qb rfl hqb (by omega) y1 dX4_road_77 (fun f H locs k5 r5 hw => ?_)
  have hA' := hA.setE (p := qb) (q := y) (m := xn qb + 1) (g1 := upd (xr qb) (xn qb) (nI nr)) k5 r5 (by omega) (y1.cg (fun j hj => ?_))
  rotate_left
  · by_cases ej : j = xn qb
    · subst ej; rw [pk_us, y3]; exact nI_pred nr
    · rw [pk_un ej]; exact y2 j (by omega)
  have hO := hO.kp k5 (hO.neA hE1)
  have hA := hA'
  obtain ⟨⟨hR1, hR2, hR3⟩, ⟨hE1, hE2⟩, -⟩ := id hA
  refine lv_aload_n hx hb dX4_road_78 rfl (lv_at hl 0 rfl) ?_
  refine pget (C := RX4) (T := TX4) (N := 14) (ci := 4) hc hw inX4_road_X4 hO rfl 1 (by decide) lkX4_road_f15 rfl rfl dX4_road_79 ?_
  refine lv_iload_n hx hb dX4_road_82 rfl (lv_at hl 1 rfl) ?_
  obtain ⟨xec, ec, ec1, ec2⟩ := hE2 qa hqa
  refine pald hc hw hE1 qa rfl hqa (by omega) (v := .ref ec) (by rw [ec1]; rfl) dX4_road_83 ?_
  refine plenI hc hw ec2 dX4_road_84 ?_
  refine lv_iconst (v := 1) hx hb dX4_road_85 (by decide) ?_
  refine lv_isub hx hb dX4_road_86 ?_
  have xa : va_up (va_up xn qa (xn qa + 1)) qb (xn qb + 1) qa = xn qa + 1 := by rw [va_up_ne _ _ hne, va_up_self]
  exact pret_i hc hw (⟨by rw [xa]; exact nI_pred _, _, _, _, hO, hA⟩) (by first | exact ⟨Nat.le_of_ble_eq_true rfl, Nat.le_of_ble_eq_true rfl⟩ | (refine ⟨?_, ?_⟩ <;> ((try dsimp only); omega))) dX4_road_87
end
section
theorem inX4_over_X4 : ∀ w ∈ u_ws RX4 TX4 14, w ∈ wsX4_over := fun _ h => List.mem_cons_of_mem _ (List.mem_append_right _ h)
theorem lkX4_over_f29 : Cond.fieldLink RX4 29 "MapCarrierLaw$Sim" "goal" "I" ∈ wsX4_over := List.mem_of_getElem? (i := 1) (by decide +kernel)
theorem lkX4_over_c7 : Cond.classLink RX4 7 "[I" ∈ wsX4_over := List.mem_of_getElem? (i := 2) (by decide +kernel)
theorem lkX4_over_f32 : Cond.fieldLink RX4 32 "MapCarrierLaw$Sim" "way" "[[I" ∈ wsX4_over := List.mem_of_getElem? (i := 3) (by decide +kernel)
theorem lkX4_over_aZ : Cond.arrayClass .boolean ∈ wsX4_over := List.mem_of_getElem? (i := 4) (by decide +kernel)
theorem lkX4_over_f22 : Cond.fieldLink RX4 22 "MapCarrierLaw$Sim" "isAsked" "[Z" ∈ wsX4_over := List.mem_of_getElem? (i := 5) (by decide +kernel)
theorem lkX4_over_f9 : Cond.fieldLink RX4 9 "MapCarrierLaw$Sim" "roads" "[[I" ∈ wsX4_over := List.mem_of_getElem? (i := 6) (by decide +kernel)
theorem inX4_begin_X4 : ∀ w ∈ u_ws RX4 TX4 14, w ∈ wsX4_begin := fun _ h => List.mem_cons_of_mem _ (List.mem_append_right _ h)
theorem lkX4_begin_f25 : Cond.fieldLink RX4 25 "MapCarrierLaw$Sim" "where" "I" ∈ wsX4_begin := List.mem_of_getElem? (i := 1) (by decide +kernel)
theorem lkX4_begin_f29 : Cond.fieldLink RX4 29 "MapCarrierLaw$Sim" "goal" "I" ∈ wsX4_begin := List.mem_of_getElem? (i := 3) (by decide +kernel)
theorem lkX4_begin_f59 : Cond.fieldLink RX4 59 "MapCarrierLaw$Sim" "done" "I" ∈ wsX4_begin := List.mem_of_getElem? (i := 2) (by decide +kernel)
theorem lkX4_far_m76 : Cond.methodLink RX4 76 Lib.Math.min.name ∈ wsX4_far := List.mem_of_getElem? (i := 4) (by decide +kernel)
theorem lkX4_far_msmin : Cond.static Lib.Math.min.name ∈ wsX4_far := List.mem_of_getElem? (i := 5) (by decide +kernel)
theorem lkX4_far_mi : Cond.initialized "java/lang/Math" ∈ wsX4_far := List.mem_of_getElem? (i := 6) (by decide +kernel)
theorem lkX4_far_mcmin : Cond.code Lib.Math.min.name Lib.Math.min.code 2 (some .int) ∈ wsX4_far := List.mem_of_getElem? (i := 7) (by decide +kernel)
theorem inX4_far_X4 : ∀ w ∈ u_ws RX4 TX4 14, w ∈ wsX4_far := fun _ h => List.mem_cons_of_mem _ (List.mem_append_right _ h)
theorem lkX4_far_f9 : Cond.fieldLink RX4 9 "MapCarrierLaw$Sim" "roads" "[[I" ∈ wsX4_far := List.mem_of_getElem? (i := 3) (by decide +kernel)
theorem lkX4_far_f15 : Cond.fieldLink RX4 15 "MapCarrierLaw$Sim" "exits" "[[I" ∈ wsX4_far := List.mem_of_getElem? (i := 1) (by decide +kernel)
theorem lkX4_far_aI : Cond.arrayClass .int ∈ wsX4_far := List.mem_of_getElem? (i := 2) (by decide +kernel)
/-! the second carrier: the end and the start of an errand, miles between two places -/
set_option maxHeartbeats 40000000 in
set_option maxRecDepth 100000 in
theorem lpS_over {p : Program} {l : Launch} {e : Env} {R : Room} {s : State} {m : MethodId} {args : Array Value} {below : List Frame} {meth : Method} {c : Code} {cells slots : Nat} {Q : State → Prop} {ret : Option FieldType} {G : xG} {A : Nat → Prop} (hc : xC p s m args meth c cX4_over 5 RX4 wsX4_over ret G A) {L : List Nat} {aS : Nat} {fs : List Value} {ad : Nat → Nat} {oo om : Nat → Nat → Option Nat} {n : Nat} {xn : Nat → Nat} {xr : Nat → Nat → Int32} {nr : Nat} {rw : Nat → Nat → Int32} {sh ak : Nat → Int32} {wl : Nat} {wy : Nat → Nat → Int32} {mp : Nat → Nat → Bool} {mm : Nat → Nat → Nat → Int32} (hr20 : nr ≤ 20)
    (kx : ∀ (f : Nat → va_E) (H : Heap) (locs : List Loc) (ls : Array Slot), objS L f aS 4 fs → ShA G L f ad oo om n xn xr nr (sOv rw nr) sh ak wl wy mp mm → lv_has ls 5 [(2, .int (nI nr)), (1, .ref (ad 0)), (0, .ref aS)] → xW G A s.heap (([] : va_W) ++ va_pl L f) H locs → W p l e R s m args below meth c H locs cells slots Q (F0 m 52 ls [])) :
    ∀ (d i : Nat), i + d = nr → ∀ (f : Nat → va_E) (H : Heap) (locs : List Loc) (ls : Array Slot), objS L f aS 4 fs → ShA G L f ad oo om n xn xr nr (sOv rw i) sh ak wl wy mp mm → lv_has ls 5 [(3, .int (nI i)), (2, .int (nI nr)), (1, .ref (ad 0)), (0, .ref aS)] → xW G A s.heap (([] : va_W) ++ va_pl L f) H locs → W p l e R s m args below meth c H locs cells slots Q (F0 m 31 ls []) := by
  obtain ⟨hx, hb, -, hown, hts, -⟩ := id hc
  intro d
  induction d with
  | zero =>
    intro i hd f H locs ls hO hA hl hw
    refine lv_iload_n hx hb dX4_over_31 rfl (lv_at hl 0 rfl) ?_
    refine lv_iload_n hx hb dX4_over_32 rfl (lv_at hl 1 rfl) ?_
    refine lv_icmp_ge (tgt := 52) hx hb dX4_over_33 (by decide) (fun hz => ?_) (fun h => absurd (nI_le (by omega) (by omega)) h)
    have ei : i = nr := by omega
    subst ei
    exact kx f H locs ls hO hA (lv_sub hl [1, 2, 3] rfl) hw
  | succ d ih =>
    intro i hd f H locs ls hO hA hl hw
    obtain ⟨hR1, hR2, hR3⟩ := hA.1
    obtain ⟨b, hb1, hb2⟩ := hR2 i (by omega)
    refine lv_iload_n hx hb dX4_over_31 rfl (lv_at hl 0 rfl) ?_
    refine lv_iload_n hx hb dX4_over_32 rfl (lv_at hl 1 rfl) ?_
    refine lv_icmp_ge (tgt := 52) hx hb dX4_over_33 (by decide) (fun h => absurd h (nI_ge (by omega) (by omega))) (fun hz => ?_)
    refine lv_aload_n hx hb dX4_over_36 rfl (lv_at hl 2 rfl) ?_
    refine lv_iload_n hx hb dX4_over_37 rfl (lv_at hl 0 rfl) ?_
    refine pald hc hw hR1 i rfl (by omega) (by omega) (v := .ref b) (by rw [hb1]; rfl) dX4_over_38 ?_
    refine lv_astore (lv' := [(4, .ref b), (3, .int (nI i)), (2, .int (nI nr)), (1, .ref (ad 0)), (0, .ref aS)]) hx hb dX4_over_39 hl (by decide) rfl (fun ls hl => ?_)
    refine lv_aload hx hb dX4_over_41 (lv_at hl 0 rfl) ?_
    refine lv_iconst (v := 4) hx hb dX4_over_43 (by decide) ?_
    refine lv_iconst (v := 0) hx hb dX4_over_44 (by decide) ?_
    refine pist hc hw hb2 4 rfl (by decide) (by omega) dX4_over_45 (fun f H locs k r9 hw => ?_)
    refine lv_iinc (v := nI (i + 1)) (lv' := [(3, .int (nI (i + 1))), (4, .ref b), (2, .int (nI nr)), (1, .ref (ad 0)), (0, .ref aS)]) hx hb dX4_over_46 hl (k := 1) rfl (nI_1 _) (by decide) rfl (fun ls hl => ?_)
    refine lv_goto (tgt := 31) hx hb dX4_over_49 (by decide) ?_
    refine ih (i + 1) (by omega) f H locs ls (hO.kp k (hO.neI hb2)) ?_ (lv_sub hl [0, 2, 3, 4] rfl) hw
    have := hA.setRoad (k := i) (by omega) hb1 k r9
    rw [sOv_s] at this
    exact this
set_option maxHeartbeats 40000000 in
set_option maxRecDepth 100000 in
theorem metS_over (l : Launch) (G : xG) (sz : Nat) (L : List Nat) (f : Nat → va_E) (aS : Nat) (v : Nat → Int32) (n : Nat) (xn : Nat → Nat) (xr : Nat → Nat → Int32) (nr : Nat) (rw : Nat → Nat → Int32) (sh ak : Nat → Int32) (wl : Nat) (wy : Nat → Nat → Int32) (mp : Nat → Nat → Bool) (mm : Nat → Nat → Nat → Int32) (S : Sh G L f aS v n xn xr nr rw sh ak wl wy mp mm) (hr20 : nr ≤ 20) : pMv l yX4_over wsX4_over ⟨0, 2, 10, 0⟩ G [.ref aS] L f sz (fun u => Sh G u.1 u.2 aS (upd v 6 (-1)) n xn xr nr (sOv rw nr) sh (fun _ => 0) 0 wy mp mm) := by
  obtain ⟨ad, oo, om, hO, hA⟩ := S
  have hO : objS L f aS 4 [.ref (ad 0), .ref (ad 1), .ref (ad 2), .ref (ad 3), .int (v 4), .int (v 5), .int (v 6), .ref (ad 4), .ref (ad 5), .int (v 9), .int (v 10), .int (v 11), .int (v 12), .int (v 13)] := hO
  refine xof (own := RX4) (cc := cX4_over) (maxL := 5) (ret := none) rfl (by decide) rfl (Nat.le_of_ble_eq_true rfl) ?_
  intro pg en s mi below meth cd hc hnm hw ls hl
  obtain ⟨hx, hb, -, hown, hts, -⟩ := id hc
  have hl : lv_has ls 5 [(0, .ref aS)] := hl
  have hw : xW G _ s.heap (([] : va_W) ++ va_pl L f) s.heap [] := hw
  refine lv_aload_n hx hb dX4_over_0 rfl (lv_at hl 0 rfl) ?_
  refine lv_iconst (v := (-1)) hx hb dX4_over_1 (by decide) ?_
  refine pput (C := RX4) (T := TX4) (N := 14) (ci := 4) (ty := .int) hc hw inX4_over_X4 tyX4 tyX4_ok nmX4 hO rfl 6 (by decide) lkX4_over_f29 rfl rfl rfl rfl (Nat.le_of_ble_eq_true rfl) [.ref (ad 0), .ref (ad 1), .ref (ad 2), .ref (ad 3), .int (v 4), .int (v 5), .int (-1), .ref (ad 4), .ref (ad 5), .int (v 9), .int (v 10), .int (v 11), .int (v 12), .int (v 13)] rfl dX4_over_2 (fun f H locs k1 hO1 hw => ?_)
  have hA := hA.obj hO k1
  have hO := hO1
  refine lv_aload_n hx hb dX4_over_5 rfl (lv_at hl 0 rfl) ?_
  refine lv_iconst (v := 0) hx hb dX4_over_6 (by decide) ?_
  refine pnewA hc hw 0 rfl (by omega) lkX4_over_c7 (by first | exact Nat.le_of_ble_eq_true rfl | ((try dsimp only); omega)) (by first | exact Nat.le_of_ble_eq_true rfl | ((try dsimp only); omega)) dX4_over_7 (fun q L1 f1 H hq k2 r2 hw => ?_)
  obtain ⟨⟨n0, n1, n2, n3, n4, n5⟩, n6⟩ := hA.nin hq
  have hO := hO.kp k2 (fun z => z)
  have hA := hA.fresh k2
  refine pput (C := RX4) (T := TX4) (N := 14) (ci := 4) (ty := .int) hc hw inX4_over_X4 tyX4 tyX4_ok nmX4 hO rfl 7 (by decide) lkX4_over_f32 rfl rfl rfl rfl (Nat.le_of_ble_eq_true rfl) [.ref (ad 0), .ref (ad 1), .ref (ad 2), .ref (ad 3), .int (v 4), .int (v 5), .int (-1), .ref q, .ref (ad 5), .int (v 9), .int (v 10), .int (v 11), .int (v 12), .int (v 13)] rfl dX4_over_10 (fun f H locs k3 hO3 hw => ?_)
  have r2 := r2.kp k3 (hO.neA r2).symm
  have hA := hA.obj hO k3
  have hO := hO3
  have hA := hA.newW (q := q) (wl1 := 0) (o1 := fun _ => none) (wy1 := wy) ⟨r2, fun k hk => absurd hk (Nat.not_lt_zero _)⟩ n1.symm n6
  refine lv_aload_n hx hb dX4_over_13 rfl (lv_at hl 0 rfl) ?_
  refine lv_bipush (v := 10) hx hb dX4_over_14 (by decide) ?_
  refine pnewZ hc hw 10 rfl (by omega) lkX4_over_aZ (by first | exact Nat.le_of_ble_eq_true rfl | ((try dsimp only); omega)) (by first | exact Nat.le_of_ble_eq_true rfl | ((try dsimp only); omega)) dX4_over_16 (fun z L2 f2 H hz k4 r4 hw => ?_)
  obtain ⟨⟨z0, z1, z2, z3, z4, z5⟩, z6⟩ := hA.nin hz
  have hO := hO.kp k4 (fun z => z)
  have hA := hA.fresh k4
  refine pput (C := RX4) (T := TX4) (N := 14) (ci := 4) (ty := .int) hc hw inX4_over_X4 tyX4 tyX4_ok nmX4 hO rfl 3 (by decide) lkX4_over_f22 rfl rfl rfl rfl (Nat.le_of_ble_eq_true rfl) [.ref (ad 0), .ref (ad 1), .ref (ad 2), .ref z, .int (v 4), .int (v 5), .int (-1), .ref q, .ref (ad 5), .int (v 9), .int (v 10), .int (v 11), .int (v 12), .int (v 13)] rfl dX4_over_18 (fun f H locs k5 hO5 hw => ?_)
  have r4 := r4.kp k5 (hO.neZ r4).symm
  have hA := hA.obj hO k5
  have hO := hO5
  have hA := hA.newAk (q := z) r4 z2.symm
  refine lv_aload_n hx hb dX4_over_21 rfl (lv_at hl 0 rfl) ?_
  refine pget (C := RX4) (T := TX4) (N := 14) (ci := 4) hc hw inX4_over_X4 hO rfl 0 (by decide) lkX4_over_f9 rfl rfl dX4_over_22 ?_
  refine lv_astore_n (lv' := [(1, .ref (ad 0)), (0, .ref aS)]) hx hb dX4_over_25 rfl hl (by decide) rfl (fun ls hl => ?_)
  refine lv_aload_n hx hb dX4_over_26 rfl (lv_at hl 0 rfl) ?_
  refine plenA hc hw hA.1.1 dX4_over_27 ?_
  refine lv_istore_n (lv' := [(2, .int (nI nr)), (1, .ref (ad 0)), (0, .ref aS)]) hx hb dX4_over_28 rfl hl (by decide) rfl (fun ls hl => ?_)
  refine lv_iconst (v := 0) hx hb dX4_over_29 (by decide) ?_
  refine lv_istore_n (lv' := [(3, .int 0), (2, .int (nI nr)), (1, .ref (ad 0)), (0, .ref aS)]) hx hb dX4_over_30 rfl hl (by decide) rfl (fun ls hl => ?_)
  refine lpS_over (ad := va_up (va_up ad 4 q) 3 z) hc hr20 (fun f H locs ls hO hA hl hw => ?_) nr 0 (by omega) f _ _ ls hO (by rw [sOv_0]; exact hA) hl hw
  exact pret_v hc hw (⟨va_up (va_up ad 4 q) 3 z, _, _, hO, hA⟩) (by first | exact ⟨Nat.le_of_ble_eq_true rfl, Nat.le_of_ble_eq_true rfl⟩ | (refine ⟨?_, ?_⟩ <;> ((try dsimp only); omega))) dX4_over_52
set_option maxHeartbeats 40000000 in
set_option maxRecDepth 100000 in
theorem metS_begin (l : Launch) (G : xG) (sz : Nat) (L : List Nat) (f : Nat → va_E) (aS : Nat) (v : Nat → Int32) (n : Nat) (xn : Nat → Nat) (xr : Nat → Nat → Int32) (nr : Nat) (rw : Nat → Nat → Int32) (sh ak : Nat → Int32) (wl : Nat) (wy : Nat → Nat → Int32) (mp : Nat → Nat → Bool) (mm : Nat → Nat → Nat → Int32) (S : Sh G L f aS v n xn xr nr rw sh ak wl wy mp mm) (hr20 : nr ≤ 20) (g : Nat) : pMi l yX4_begin wsX4_begin ⟨1, 2, 10, 24⟩ G [.ref aS, .int (nI g)] L f sz (fun r u => (nI g = v 4 → r = 0 ∧ Sh G u.1 u.2 aS (upd v 11 (v 11 + 1)) n xn xr nr rw sh ak wl wy mp mm) ∧ (¬ nI g = v 4 → r = 1 ∧ Sh G u.1 u.2 aS (upd v 6 (nI g)) n xn xr nr (sOv rw nr) sh (fun _ => 0) 0 wy mp mm)) := by
  obtain ⟨ad, oo, om, hO, hA⟩ := S
  have hO : objS L f aS 4 [.ref (ad 0), .ref (ad 1), .ref (ad 2), .ref (ad 3), .int (v 4), .int (v 5), .int (v 6), .ref (ad 4), .ref (ad 5), .int (v 9), .int (v 10), .int (v 11), .int (v 12), .int (v 13)] := hO
  refine xof (own := RX4) (cc := cX4_begin) (maxL := 2) (ret := (some .boolean)) rfl (by decide) rfl (Nat.le_of_ble_eq_true rfl) ?_
  intro pg en s mi below meth cd hc hnm hw ls hl
  obtain ⟨hx, hb, -, hown, hts, -⟩ := id hc
  have hl : lv_has ls 2 [(0, .ref aS), (1, .int (nI g))] := hl
  have hw : xW G _ s.heap (([] : va_W) ++ va_pl L f) s.heap [] := hw
  refine lv_iload_n hx hb dX4_begin_0 rfl (lv_at hl 1 rfl) ?_
  refine lv_aload_n hx hb dX4_begin_1 rfl (lv_at hl 0 rfl) ?_
  refine pget (C := RX4) (T := TX4) (N := 14) (ci := 4) hc hw inX4_begin_X4 hO rfl 4 (by decide) lkX4_begin_f25 rfl rfl dX4_begin_2 ?_
  refine lv_icmp_ne (tgt := 20) hx hb dX4_begin_5 (by decide) (fun hz => ?_) (fun hz => ?_)
  · refine lv_aload_n hx hb dX4_begin_20 rfl (lv_at hl 0 rfl) ?_
    refine pcall_v hc hw (prunV (n := 0) (As := []) (rest := []) hc hw (metS_over l G _ _ _ aS _ _ _ _ _ _ _ _ _ _ _ _ ⟨ad, oo, om, hO, hA⟩ hr20) gX4_begin_X4_over rfl (by decide +kernel) ⟨Nat.le_of_ble_eq_true rfl, Nat.le_of_ble_eq_true rfl⟩ hO rfl rfl rfl hl.1 (Nat.le_of_ble_eq_true rfl) dX4_begin_21 (by first | exact ⟨Nat.le_of_ble_eq_true rfl, Nat.le_of_ble_eq_true rfl⟩ | (refine ⟨?_, ?_⟩ <;> ((try dsimp only); omega)))) (fun L1 f H locs hp hw => ?_)
    obtain ⟨ad, oo, om, hO, hA⟩ := hp
    have hO : objS L1 f aS 4 [.ref (ad 0), .ref (ad 1), .ref (ad 2), .ref (ad 3), .int (v 4), .int (v 5), .int (-1), .ref (ad 4), .ref (ad 5), .int (v 9), .int (v 10), .int (v 11), .int (v 12), .int (v 13)] := hO
    refine lv_aload_n hx hb dX4_begin_24 rfl (lv_at hl 0 rfl) ?_
    refine lv_iload_n hx hb dX4_begin_25 rfl (lv_at hl 1 rfl) ?_
    refine pput (C := RX4) (T := TX4) (N := 14) (ci := 4) (ty := .int) hc hw inX4_begin_X4 tyX4 tyX4_ok nmX4 hO rfl 6 (by decide) lkX4_begin_f29 rfl rfl rfl rfl (Nat.le_of_ble_eq_true rfl) [.ref (ad 0), .ref (ad 1), .ref (ad 2), .ref (ad 3), .int (v 4), .int (v 5), .int (nI g), .ref (ad 4), .ref (ad 5), .int (v 9), .int (v 10), .int (v 11), .int (v 12), .int (v 13)] rfl dX4_begin_26 (fun f H locs k1 hO1 hw => ?_)
    have hA := hA.obj hO k1
    have hO := hO1
    refine lv_iconst (v := 1) hx hb dX4_begin_29 (by decide) ?_
    exact pret_z hc hw rfl (⟨fun h => absurd h hz, fun _ => ⟨rfl, _, _, _, hO, hA⟩⟩) (by first | exact ⟨Nat.le_of_ble_eq_true rfl, Nat.le_of_ble_eq_true rfl⟩ | (refine ⟨?_, ?_⟩ <;> ((try dsimp only); omega))) dX4_begin_30
  · refine lv_aload_n hx hb dX4_begin_8 rfl (lv_at hl 0 rfl) ?_
    refine lv_dup hx hb dX4_begin_9 rfl ?_
    refine pget (C := RX4) (T := TX4) (N := 14) (ci := 4) hc hw inX4_begin_X4 hO rfl 11 (by decide) lkX4_begin_f59 rfl rfl dX4_begin_10 ?_
    refine lv_iconst (v := 1) hx hb dX4_begin_13 (by decide) ?_
    refine lv_iadd hx hb dX4_begin_14 ?_
    refine pput (C := RX4) (T := TX4) (N := 14) (ci := 4) (ty := .int) hc hw inX4_begin_X4 tyX4 tyX4_ok nmX4 hO rfl 11 (by decide) lkX4_begin_f59 rfl rfl rfl rfl (Nat.le_of_ble_eq_true rfl) [.ref (ad 0), .ref (ad 1), .ref (ad 2), .ref (ad 3), .int (v 4), .int (v 5), .int (v 6), .ref (ad 4), .ref (ad 5), .int (v 9), .int (v 10), .int (v 11 + 1), .int (v 12), .int (v 13)] rfl dX4_begin_15 (fun f H locs k1 hO1 hw => ?_)
    have hA := hA.obj hO k1
    have hO := hO1
    refine lv_iconst (v := 0) hx hb dX4_begin_18 (by decide) ?_
    exact pret_z hc hw rfl (⟨fun _ => ⟨rfl, _, _, _, hO, hA⟩, fun h => absurd hz h⟩) (by first | exact ⟨Nat.le_of_ble_eq_true rfl, Nat.le_of_ble_eq_true rfl⟩ | (refine ⟨?_, ?_⟩ <;> ((try dsimp only); omega))) dX4_begin_19
def sMin (x y : Int32) : Int32 := if y < x then y else x
def sD0 (q : Int32) : Nat → Int32 := fun j => if nI j = q then 0 else 9999
/-- one road is looked at, both ways -/
def sRx (g : Nat → Int32) (d : Nat → Int32) : Nat → Int32 := if g 3 = 0 then d else
  upd (upd d (g 0).toNatClampNeg (sMin (d (g 0).toNatClampNeg) (d (g 1).toNatClampNeg + g 2))) (g 1).toNatClampNeg (sMin (upd d (g 0).toNatClampNeg (sMin (d (g 0).toNatClampNeg) (d (g 1).toNatClampNeg + g 2)) (g 1).toNatClampNeg) (upd d (g 0).toNatClampNeg (sMin (d (g 0).toNatClampNeg) (d (g 1).toNatClampNeg + g 2)) (g 0).toNatClampNeg + g 2))
def sPs (rw : Nat → Nat → Int32) : Nat → (Nat → Int32) → Nat → Int32
  | 0, d => d
  | k + 1, d => sRx (rw k) (sPs rw k d)
def sRs (rw : Nat → Nat → Int32) (nr : Nat) : Nat → (Nat → Int32) → Nat → Int32
  | 0, d => d
  | k + 1, d => sPs rw nr (sRs rw nr k d)
def sFar (rw : Nat → Nat → Int32) (nr n : Nat) (q x : Int32) : Int32 := sMin 9999 (sRs rw nr n (sD0 q) x.toNatClampNeg)
set_option maxHeartbeats 40000000 in
set_option maxRecDepth 100000 in
theorem lpS_farA {p : Program} {l : Launch} {e : Env} {R : Room} {s : State} {m : MethodId} {args : Array Value} {below : List Frame} {meth : Method} {c : Code} {cells slots : Nat} {Q : State → Prop} {ret : Option FieldType} {G : xG} {A : Nat → Prop} (hc : xC p s m args meth c cX4_far 9 RX4 wsX4_far ret G A) {L : List Nat} {aS : Nat} {ad : Nat → Nat} {oo om : Nat → Nat → Option Nat} {v : Nat → Int32} {n : Nat} {xn : Nat → Nat} {xr : Nat → Nat → Int32} {nr : Nat} {rw : Nat → Nat → Int32} {sh ak : Nat → Int32} {wl : Nat} {wy : Nat → Nat → Int32} {mp : Nat → Nat → Bool} {mm : Nat → Nat → Nat → Int32} {f0 : Nat → va_E} {q x : Int32} {r : Nat} (hn : n ≤ 10)
    (kx : ∀ (f : Nat → va_E) (H : Heap) (locs : List Loc) (ls : Array Slot), rowI G L f r n (fun j => if j < n then sD0 q j else 0) → pk (fun b => b = r) L f0 L f → lv_has ls 9 [(3, .ref r), (0, .ref aS), (1, .int q), (2, .int x)] → xW G A s.heap (([] : va_W) ++ va_pl L f) H locs → W p l e R s m args below meth c H locs cells slots Q (F0 m 41 ls [])) :
    ∀ (d i : Nat), i + d = n → ∀ (f : Nat → va_E) (H : Heap) (locs : List Loc) (ls : Array Slot), rowI G L f r n (fun j => if j < i then sD0 q j else 0) → pk (fun b => b = r) L f0 L f → lv_has ls 9 [(4, .int (nI i)), (3, .ref r), (0, .ref aS), (1, .int q), (2, .int x)] → xW G A s.heap (([] : va_W) ++ va_pl L f) H locs → W p l e R s m args below meth c H locs cells slots Q (F0 m 11 ls []) := by
  obtain ⟨hx, hb, -, hown, hts, -⟩ := id hc
  intro d
  induction d with
  | zero =>
    intro i hd f H locs ls hr k0 hl hw
    refine lv_iload hx hb dX4_far_11 (lv_at hl 0 rfl) ?_
    refine lv_aload_n hx hb dX4_far_13 rfl (lv_at hl 1 rfl) ?_
    refine plenI hc hw hr dX4_far_14 ?_
    refine lv_icmp_ge (tgt := 41) hx hb dX4_far_15 (by decide) (fun hz => ?_) (fun h => absurd (nI_le (by omega) (by omega)) h)
    have ei : i = n := by omega
    subst ei
    exact kx f H locs ls hr k0 (lv_sub hl [1, 2, 3, 4] rfl) hw
  | succ d ih =>
    intro i hd f H locs ls hr k0 hl hw
    refine lv_iload hx hb dX4_far_11 (lv_at hl 0 rfl) ?_
    refine lv_aload_n hx hb dX4_far_13 rfl (lv_at hl 1 rfl) ?_
    refine plenI hc hw hr dX4_far_14 ?_
    refine lv_icmp_ge (tgt := 41) hx hb dX4_far_15 (by decide) (fun h => absurd h (nI_ge (by omega) (by omega))) (fun hz => ?_)
    refine lv_aload_n hx hb dX4_far_18 rfl (lv_at hl 1 rfl) ?_
    refine lv_iload hx hb dX4_far_19 (lv_at hl 0 rfl) ?_
    refine lv_iload hx hb dX4_far_21 (lv_at hl 0 rfl) ?_
    refine lv_iload_n hx hb dX4_far_23 rfl (lv_at hl 3 rfl) ?_
    refine lv_icmp_ne (tgt := 31) hx hb dX4_far_24 (by decide) (fun hz => ?_) (fun hz => ?_)
    · refine lv_sipush (v := 9999) hx hb dX4_far_31 (by decide) ?_
      refine pist hc hw hr i rfl (by omega) (by omega) dX4_far_34 (fun f H locs k r9 hw => ?_)
      refine lv_iinc (v := nI (i + 1)) (lv' := [(4, .int (nI (i + 1))), (3, .ref r), (0, .ref aS), (1, .int q), (2, .int x)]) hx hb dX4_far_35 hl (k := 0) rfl (nI_1 _) (by decide) rfl (fun ls hl => ?_)
      refine lv_goto (tgt := 11) hx hb dX4_far_38 (by decide) ?_
      refine ih (i + 1) (by omega) f H locs ls (r9.cg (fun j hj => ?_)) (k0.tr k) hl hw
      show upd (fun j => if j < i then sD0 q j else 0) i 9999 j = if j < i + 1 then sD0 q j else 0
      by_cases ej : j = i
      · subst ej; rw [pk_us, if_pos (Nat.lt_succ_self _)]; unfold sD0; rw [if_neg hz]
      · rw [pk_un ej]
        by_cases d : j < i
        · rw [if_pos d, if_pos (by omega)]
        · rw [if_neg d, if_neg (by omega)]
    · refine lv_iconst (v := 0) hx hb dX4_far_27 (by decide) ?_
      refine lv_goto (tgt := 34) hx hb dX4_far_28 (by decide) ?_
      refine pist hc hw hr i rfl (by omega) (by omega) dX4_far_34 (fun f H locs k r9 hw => ?_)
      refine lv_iinc (v := nI (i + 1)) (lv' := [(4, .int (nI (i + 1))), (3, .ref r), (0, .ref aS), (1, .int q), (2, .int x)]) hx hb dX4_far_35 hl (k := 0) rfl (nI_1 _) (by decide) rfl (fun ls hl => ?_)
      refine lv_goto (tgt := 11) hx hb dX4_far_38 (by decide) ?_
      refine ih (i + 1) (by omega) f H locs ls (r9.cg (fun j hj => ?_)) (k0.tr k) hl hw
      show upd (fun j => if j < i then sD0 q j else 0) i 0 j = if j < i + 1 then sD0 q j else 0
      by_cases ej : j = i
      · subst ej; rw [pk_us, if_pos (Nat.lt_succ_self _)]; unfold sD0; rw [if_pos hz]
      · rw [pk_un ej]
        by_cases d : j < i
        · rw [if_pos d, if_pos (by omega)]
        · rw [if_neg d, if_neg (by omega)]
set_option maxHeartbeats 40000000 in
set_option maxRecDepth 100000 in
theorem lpS_farB {p : Program} {l : Launch} {e : Env} {R : Room} {s : State} {m : MethodId} {args : Array Value} {below : List Frame} {meth : Method} {c : Code} {cells slots : Nat} {Q : State → Prop} {ret : Option FieldType} {G : xG} {A : Nat → Prop} (hc : xC p s m args meth c cX4_far 9 RX4 wsX4_far ret G A) {L : List Nat} {aS : Nat} {ad : Nat → Nat} {oo om : Nat → Nat → Option Nat} {v : Nat → Int32} {n : Nat} {xn : Nat → Nat} {xr : Nat → Nat → Int32} {nr : Nat} {rw : Nat → Nat → Int32} {sh ak : Nat → Int32} {wl : Nat} {wy : Nat → Nat → Int32} {mp : Nat → Nat → Bool} {mm : Nat → Nat → Nat → Int32} {f0 : Nat → va_E} {d0 : Nat → Int32} {q x : Int32} {r t : Nat} (hX : sX n xn xr nr rw) (hR1 : rowA G L f0 (ad 0) nr (oo 0)) (hR2 : ∀ k, k < nr → ∃ a, oo 0 k = some a ∧ rowI G L f0 a 5 (rw k)) (hne : ¬ ad 0 = r) (hr0 : ∀ k a, k < nr → oo 0 k = some a → ¬ a = r) (hRf : 1 ≤ R.frames) (hRl : 20 ≤ R.locals) (hRc : cells ≤ R.cells ∧ slots ≤ R.slots)
    (kx : ∀ (f : Nat → va_E) (H : Heap) (locs : List Loc) (ls : Array Slot), rowI G L f r n (sPs rw nr d0) → pk (fun b => b = r) L f0 L f → lv_has ls 9 [(4, .int (nI t)), (3, .ref r), (0, .ref aS), (1, .int q), (2, .int x)] → xW G A s.heap (([] : va_W) ++ va_pl L f) H locs → W p l e R s m args below meth c H locs cells slots Q (F0 m 147 ls [])) :
    ∀ (d i : Nat), i + d = nr → ∀ (f : Nat → va_E) (H : Heap) (locs : List Loc) (ls : Array Slot), rowI G L f r n (sPs rw i d0) → pk (fun b => b = r) L f0 L f → lv_has ls 9 [(7, .int (nI i)), (6, .int (nI nr)), (5, .ref (ad 0)), (4, .int (nI t)), (3, .ref r), (0, .ref aS), (1, .int q), (2, .int x)] → xW G A s.heap (([] : va_W) ++ va_pl L f) H locs → W p l e R s m args below meth c H locs cells slots Q (F0 m 65 ls []) := by
  obtain ⟨hx, hb, -, hown, hts, -⟩ := id hc
  intro d
  induction d with
  | zero =>
    intro i hd f H locs ls hr k0 hl hw
    have hr20 : nr ≤ 20 := hX.2.1
    refine lv_iload hx hb dX4_far_65 (lv_at hl 0 rfl) ?_
    refine lv_iload hx hb dX4_far_67 (lv_at hl 1 rfl) ?_
    refine lv_icmp_ge (tgt := 147) hx hb dX4_far_69 (by decide) (fun hz => ?_) (fun h => absurd (nI_le (by omega) (by omega)) h)
    have ei : i = nr := by omega
    subst ei
    exact kx f H locs ls hr k0 (lv_sub hl [3, 4, 5, 6, 7] rfl) hw
  | succ d ih =>
    intro i hd f H locs ls hr k0 hl hw
    have hr20 : nr ≤ 20 := hX.2.1
    have hn10 : n ≤ 10 := hX.1
    obtain ⟨b, hb1, hb2⟩ := hR2 i (by omega)
    obtain ⟨y, z, hy1, hy2, hz1, hz2⟩ := hX.2.2.2 i (by omega)
    have hbr : ¬ b = r := fun z => hr0 i b (by omega) hb1 z
    have hR1' := hR1.kp k0 (fun z => hne z)
    have hb2 := hb2.kp k0 hbr
    have cy : (rw i 0).toNatClampNeg = y := by rw [hy1, nI_clamp (by omega)]
    have cz : (rw i 1).toNatClampNeg = z := by rw [hz1, nI_clamp (by omega)]
    refine lv_iload hx hb dX4_far_65 (lv_at hl 0 rfl) ?_
    refine lv_iload hx hb dX4_far_67 (lv_at hl 1 rfl) ?_
    refine lv_icmp_ge (tgt := 147) hx hb dX4_far_69 (by decide) (fun h => absurd h (nI_ge (by omega) (by omega))) (fun hz => ?_)
    refine lv_aload hx hb dX4_far_72 (lv_at hl 2 rfl) ?_
    refine lv_iload hx hb dX4_far_74 (lv_at hl 0 rfl) ?_
    refine pald hc hw hR1' i rfl (by omega) (by omega) (v := .ref b) (by rw [hb1]; rfl) dX4_far_76 ?_
    refine lv_astore (lv' := [(8, .ref b), (7, .int (nI i)), (6, .int (nI nr)), (5, .ref (ad 0)), (4, .int (nI t)), (3, .ref r), (0, .ref aS), (1, .int q), (2, .int x)]) hx hb dX4_far_77 hl (by decide) rfl (fun ls hl => ?_)
    refine lv_aload hx hb dX4_far_79 (lv_at hl 0 rfl) ?_
    refine lv_iconst (v := 3) hx hb dX4_far_81 (by decide) ?_
    refine pild hc hw hb2 3 rfl (by decide) (by omega) (v := (rw i 3)) rfl dX4_far_82 ?_
    refine lv_if_ne (tgt := 89) hx hb dX4_far_83 (by decide) (fun hz => ?_) (fun hz => ?_)
    · refine lv_aload_n hx hb dX4_far_89 rfl (lv_at hl 5 rfl) ?_
      refine lv_aload hx hb dX4_far_90 (lv_at hl 0 rfl) ?_
      refine lv_iconst (v := 0) hx hb dX4_far_92 (by decide) ?_
      refine pild hc hw hb2 0 rfl (by decide) (by omega) (v := (nI y)) hy1 dX4_far_93 ?_
      refine lv_aload_n hx hb dX4_far_94 rfl (lv_at hl 5 rfl) ?_
      refine lv_aload hx hb dX4_far_95 (lv_at hl 0 rfl) ?_
      refine lv_iconst (v := 0) hx hb dX4_far_97 (by decide) ?_
      refine pild hc hw hb2 0 rfl (by decide) (by omega) (v := (nI y)) hy1 dX4_far_98 ?_
      refine pild hc hw hr y rfl hy2 (by omega) (v := (sPs rw i d0 y)) rfl dX4_far_99 ?_
      refine lv_aload_n hx hb dX4_far_100 rfl (lv_at hl 5 rfl) ?_
      refine lv_aload hx hb dX4_far_101 (lv_at hl 0 rfl) ?_
      refine lv_iconst (v := 1) hx hb dX4_far_103 (by decide) ?_
      refine pild hc hw hb2 1 rfl (by decide) (by omega) (v := (nI z)) hz1 dX4_far_104 ?_
      refine pild hc hw hr z rfl hz2 (by omega) (v := (sPs rw i d0 z)) rfl dX4_far_105 ?_
      refine lv_aload hx hb dX4_far_106 (lv_at hl 0 rfl) ?_
      refine lv_iconst (v := 2) hx hb dX4_far_108 (by decide) ?_
      refine pild hc hw hb2 2 rfl (by decide) (by omega) (v := (rw i 2)) rfl dX4_far_109 ?_
      refine lv_iadd hx hb dX4_far_110 ?_
      refine pmin (rest := [.int (nI y), .ref r]) hc lkX4_far_m76 lkX4_far_msmin lkX4_far_mi lkX4_far_mcmin hl.1 hRf (Nat.le_trans (Nat.le_of_ble_eq_true rfl) hRl) hRc dX4_far_111 ?_
      refine pist hc hw hr y rfl hy2 (by omega) dX4_far_114 (fun f H locs k r9 hw => ?_)
      have hb2 := hb2.kp k hbr
      refine lv_aload_n hx hb dX4_far_115 rfl (lv_at hl 5 rfl) ?_
      refine lv_aload hx hb dX4_far_116 (lv_at hl 0 rfl) ?_
      refine lv_iconst (v := 1) hx hb dX4_far_118 (by decide) ?_
      refine pild hc hw hb2 1 rfl (by decide) (by omega) (v := (nI z)) hz1 dX4_far_119 ?_
      refine lv_aload_n hx hb dX4_far_120 rfl (lv_at hl 5 rfl) ?_
      refine lv_aload hx hb dX4_far_121 (lv_at hl 0 rfl) ?_
      refine lv_iconst (v := 1) hx hb dX4_far_123 (by decide) ?_
      refine pild hc hw hb2 1 rfl (by decide) (by omega) (v := (nI z)) hz1 dX4_far_124 ?_
      refine pild hc hw r9 z rfl hz2 (by omega) (v := ((upd (sPs rw i d0) y (sMin (sPs rw i d0 y) (sPs rw i d0 z + rw i 2))) z)) rfl dX4_far_125 ?_
      refine lv_aload_n hx hb dX4_far_126 rfl (lv_at hl 5 rfl) ?_
      refine lv_aload hx hb dX4_far_127 (lv_at hl 0 rfl) ?_
      refine lv_iconst (v := 0) hx hb dX4_far_129 (by decide) ?_
      refine pild hc hw hb2 0 rfl (by decide) (by omega) (v := (nI y)) hy1 dX4_far_130 ?_
      refine pild hc hw r9 y rfl hy2 (by omega) (v := ((upd (sPs rw i d0) y (sMin (sPs rw i d0 y) (sPs rw i d0 z + rw i 2))) y)) rfl dX4_far_131 ?_
      refine lv_aload hx hb dX4_far_132 (lv_at hl 0 rfl) ?_
      refine lv_iconst (v := 2) hx hb dX4_far_134 (by decide) ?_
      refine pild hc hw hb2 2 rfl (by decide) (by omega) (v := (rw i 2)) rfl dX4_far_135 ?_
      refine lv_iadd hx hb dX4_far_136 ?_
      refine pmin (rest := [.int (nI z), .ref r]) hc lkX4_far_m76 lkX4_far_msmin lkX4_far_mi lkX4_far_mcmin hl.1 hRf (Nat.le_trans (Nat.le_of_ble_eq_true rfl) hRl) hRc dX4_far_137 ?_
      refine pist hc hw r9 z rfl hz2 (by omega) dX4_far_140 (fun f H locs k2 r8 hw => ?_)
      refine lv_iinc (v := nI (i + 1)) (lv' := [(7, .int (nI (i + 1))), (8, .ref b), (6, .int (nI nr)), (5, .ref (ad 0)), (4, .int (nI t)), (3, .ref r), (0, .ref aS), (1, .int q), (2, .int x)]) hx hb dX4_far_141 hl (k := 1) rfl (nI_1 _) (by decide) rfl (fun ls hl => ?_)
      refine lv_goto (tgt := 65) hx hb dX4_far_144 (by decide) ?_
      refine ih (i + 1) (by omega) f H locs ls ?_ ((k0.tr k).tr k2) (lv_sub hl [0, 2, 3, 4, 5, 6, 7, 8] rfl) hw
      rw [show sPs rw (i + 1) d0 = sRx (rw i) (sPs rw i d0) from rfl]
      unfold sRx
      rw [if_neg hz, cy, cz]
      exact r8
    · refine lv_goto (tgt := 141) hx hb dX4_far_86 (by decide) ?_
      refine lv_iinc (v := nI (i + 1)) (lv' := [(7, .int (nI (i + 1))), (8, .ref b), (6, .int (nI nr)), (5, .ref (ad 0)), (4, .int (nI t)), (3, .ref r), (0, .ref aS), (1, .int q), (2, .int x)]) hx hb dX4_far_141 hl (k := 1) rfl (nI_1 _) (by decide) rfl (fun ls hl => ?_)
      refine lv_goto (tgt := 65) hx hb dX4_far_144 (by decide) ?_
      refine ih (i + 1) (by omega) f H locs ls ?_ k0 (lv_sub hl [0, 2, 3, 4, 5, 6, 7, 8] rfl) hw
      rw [show sPs rw (i + 1) d0 = sRx (rw i) (sPs rw i d0) from rfl]
      unfold sRx
      rw [if_pos hz]
      exact hr
set_option maxHeartbeats 40000000 in
set_option maxRecDepth 100000 in
theorem lpS_farC {p : Program} {l : Launch} {e : Env} {R : Room} {s : State} {m : MethodId} {args : Array Value} {below : List Frame} {meth : Method} {c : Code} {cells slots : Nat} {Q : State → Prop} {ret : Option FieldType} {G : xG} {A : Nat → Prop} (hc : xC p s m args meth c cX4_far 9 RX4 wsX4_far ret G A) {L : List Nat} {aS : Nat} {ad : Nat → Nat} {oo om : Nat → Nat → Option Nat} {v : Nat → Int32} {n : Nat} {xn : Nat → Nat} {xr : Nat → Nat → Int32} {nr : Nat} {rw : Nat → Nat → Int32} {sh ak : Nat → Int32} {wl : Nat} {wy : Nat → Nat → Int32} {mp : Nat → Nat → Bool} {mm : Nat → Nat → Nat → Int32} {f0 : Nat → va_E} {q x : Int32} {r : Nat} (hX : sX n xn xr nr rw) (hR1 : rowA G L f0 (ad 0) nr (oo 0)) (hR2 : ∀ k, k < nr → ∃ a, oo 0 k = some a ∧ rowI G L f0 a 5 (rw k)) (hne : ¬ ad 0 = r) (hr0 : ∀ k a, k < nr → oo 0 k = some a → ¬ a = r) (hRf : 1 ≤ R.frames) (hRl : 20 ≤ R.locals) (hRc : cells ≤ R.cells ∧ slots ≤ R.slots) (hO0 : objS L f0 aS 4 [.ref (ad 0), .ref (ad 1), .ref (ad 2), .ref (ad 3), .int (v 4), .int (v 5), .int (v 6), .ref (ad 4), .ref (ad 5), .int (v 9), .int (v 10), .int (v 11), .int (v 12), .int (v 13)]) (hOr : ¬ aS = r)
    (kx : ∀ (f : Nat → va_E) (H : Heap) (locs : List Loc) (ls : Array Slot), rowI G L f r n (sRs rw nr n (sD0 q)) → pk (fun b => b = r) L f0 L f → lv_has ls 9 [(3, .ref r), (0, .ref aS), (1, .int q), (2, .int x)] → xW G A s.heap (([] : va_W) ++ va_pl L f) H locs → W p l e R s m args below meth c H locs cells slots Q (F0 m 153 ls [])) :
    ∀ (d i : Nat), i + d = n → ∀ (f : Nat → va_E) (H : Heap) (locs : List Loc) (ls : Array Slot), rowI G L f r n (sRs rw nr i (sD0 q)) → pk (fun b => b = r) L f0 L f → lv_has ls 9 [(4, .int (nI i)), (3, .ref r), (0, .ref aS), (1, .int q), (2, .int x)] → xW G A s.heap (([] : va_W) ++ va_pl L f) H locs → W p l e R s m args below meth c H locs cells slots Q (F0 m 44 ls []) := by
  obtain ⟨hx, hb, -, hown, hts, -⟩ := id hc
  intro d
  induction d with
  | zero =>
    intro i hd f H locs ls hr k0 hl hw
    have hn10 : n ≤ 10 := hX.1
    refine lv_iload hx hb dX4_far_44 (lv_at hl 0 rfl) ?_
    refine lv_aload_n hx hb dX4_far_46 rfl (lv_at hl 1 rfl) ?_
    refine plenI hc hw hr dX4_far_47 ?_
    refine lv_icmp_ge (tgt := 153) hx hb dX4_far_48 (by decide) (fun hz => ?_) (fun h => absurd (nI_le (by omega) (by omega)) h)
    have ei : i = n := by omega
    subst ei
    exact kx f H locs ls hr k0 (lv_sub hl [1, 2, 3, 4] rfl) hw
  | succ d ih =>
    intro i hd f H locs ls hr k0 hl hw
    have hn10 : n ≤ 10 := hX.1
    have hO := hO0.kp k0 hOr
    have hR1' := hR1.kp k0 (fun z => hne z)
    refine lv_iload hx hb dX4_far_44 (lv_at hl 0 rfl) ?_
    refine lv_aload_n hx hb dX4_far_46 rfl (lv_at hl 1 rfl) ?_
    refine plenI hc hw hr dX4_far_47 ?_
    refine lv_icmp_ge (tgt := 153) hx hb dX4_far_48 (by decide) (fun h => absurd h (nI_ge (by omega) (by omega))) (fun hz => ?_)
    refine lv_aload_n hx hb dX4_far_51 rfl (lv_at hl 2 rfl) ?_
    refine pget (C := RX4) (T := TX4) (N := 14) (ci := 4) hc hw inX4_far_X4 hO rfl 0 (by decide) lkX4_far_f9 rfl rfl dX4_far_52 ?_
    refine lv_astore (lv' := [(5, .ref (ad 0)), (4, .int (nI i)), (3, .ref r), (0, .ref aS), (1, .int q), (2, .int x)]) hx hb dX4_far_55 hl (by decide) rfl (fun ls hl => ?_)
    refine lv_aload hx hb dX4_far_57 (lv_at hl 0 rfl) ?_
    refine plenA hc hw hR1' dX4_far_59 ?_
    refine lv_istore (lv' := [(6, .int (nI nr)), (5, .ref (ad 0)), (4, .int (nI i)), (3, .ref r), (0, .ref aS), (1, .int q), (2, .int x)]) hx hb dX4_far_60 hl (by decide) rfl (fun ls hl => ?_)
    refine lv_iconst (v := 0) hx hb dX4_far_62 (by decide) ?_
    refine lv_istore (lv' := [(7, .int 0), (6, .int (nI nr)), (5, .ref (ad 0)), (4, .int (nI i)), (3, .ref r), (0, .ref aS), (1, .int q), (2, .int x)]) hx hb dX4_far_63 hl (by decide) rfl (fun ls hl => ?_)
    refine lpS_farB (t := i) (d0 := sRs rw nr i (sD0 q)) (v := v) (sh := sh) (ak := ak) (wl := wl) (wy := wy) (mp := mp) (mm := mm) (aS := aS) (om := om) hc hX hR1' (fun k hk => ?_) hne hr0 hRf hRl hRc (fun f2 H locs ls hr2 k2 hl hw => ?_) nr 0 (by omega) f H locs ls hr pk.rf hl hw
    · obtain ⟨b, e1, e2⟩ := hR2 k hk
      exact ⟨b, e1, e2.kp k0 (hr0 k b hk e1)⟩
    refine lv_iinc (v := nI (i + 1)) (lv' := [(4, .int (nI (i + 1))), (3, .ref r), (0, .ref aS), (1, .int q), (2, .int x)]) hx hb dX4_far_147 hl (k := 0) rfl (nI_1 _) (by decide) rfl (fun ls hl => ?_)
    refine lv_goto (tgt := 44) hx hb dX4_far_150 (by decide) ?_
    exact ih (i + 1) (by omega) f2 H locs ls hr2 (k0.tr k2) hl hw
set_option maxHeartbeats 40000000 in
set_option maxRecDepth 100000 in
theorem metS_far (l : Launch) (G : xG) (sz : Nat) (L : List Nat) (f : Nat → va_E) (aS : Nat) (v : Nat → Int32) (n : Nat) (xn : Nat → Nat) (xr : Nat → Nat → Int32) (nr : Nat) (rw : Nat → Nat → Int32) (sh ak : Nat → Int32) (wl : Nat) (wy : Nat → Nat → Int32) (mp : Nat → Nat → Bool) (mm : Nat → Nat → Nat → Int32) (S : Sh G L f aS v n xn xr nr rw sh ak wl wy mp mm) (hX : sX n xn xr nr rw) (q x : Int32) (hxx : ∃ j, x = nI j ∧ j < n) : pMi l yX4_far wsX4_far ⟨1, 1, 10, 20⟩ G [.ref aS, .int q, .int x] L f sz (fun r u => r = sFar rw nr n q x ∧ pk (fun _ => False) L f u.1 u.2) := by
  obtain ⟨ad, oo, om, hO, hA⟩ := S
  have hO : objS L f aS 4 [.ref (ad 0), .ref (ad 1), .ref (ad 2), .ref (ad 3), .int (v 4), .int (v 5), .int (v 6), .ref (ad 4), .ref (ad 5), .int (v 9), .int (v 10), .int (v 11), .int (v 12), .int (v 13)] := hO
  refine xof (own := RX4) (cc := cX4_far) (maxL := 9) (ret := (some .int)) rfl (by decide) rfl (Nat.le_of_ble_eq_true rfl) ?_
  intro pg en s mi below meth cd hc hnm hw ls hl
  obtain ⟨hx, hb, -, hown, hts, -⟩ := id hc
  have hl : lv_has ls 9 [(0, .ref aS), (1, .int q), (2, .int x)] := hl
  have hw : xW G _ s.heap (([] : va_W) ++ va_pl L f) s.heap [] := hw
  obtain ⟨⟨hR1, hR2, hR3⟩, ⟨hE1, hE2⟩, -⟩ := id hA
  have hn10 : n ≤ 10 := hX.1
  obtain ⟨j, hxj, hj⟩ := hxx
  refine lv_aload_n hx hb dX4_far_0 rfl (lv_at hl 0 rfl) ?_
  refine pget (C := RX4) (T := TX4) (N := 14) (ci := 4) hc hw inX4_far_X4 hO rfl 1 (by decide) lkX4_far_f15 rfl rfl dX4_far_1 ?_
  refine plenA hc hw hE1 dX4_far_4 ?_
  refine pnewI hc hw n rfl (by omega) lkX4_far_aI (by first | exact Nat.le_of_ble_eq_true rfl | ((try dsimp only); omega)) (by first | exact Nat.le_of_ble_eq_true rfl | ((try dsimp only); omega)) dX4_far_5 (fun r L1 f1 H hr k1 r1 hw => ?_)
  have hO1 := hO.kp k1 (fun z => z)
  have hA1 := hA.fresh k1
  obtain ⟨⟨n0, -⟩, -⟩ := hA.nin hr
  obtain ⟨⟨hR1, hR2, hR3⟩, ⟨hE1, hE2⟩, -⟩ := id hA1
  refine lv_astore_n (lv' := [(3, .ref r), (0, .ref aS), (1, .int q), (2, .int x)]) hx hb dX4_far_7 rfl hl (by decide) rfl (fun ls hl => ?_)
  refine lv_iconst (v := 0) hx hb dX4_far_8 (by decide) ?_
  refine lv_istore (lv' := [(4, .int 0), (3, .ref r), (0, .ref aS), (1, .int q), (2, .int x)]) hx hb dX4_far_9 hl (by decide) rfl (fun ls hl => ?_)
  refine lpS_farA (v := v) (xn := xn) (xr := xr) (nr := nr) (rw := rw) (sh := sh) (ak := ak) (wl := wl) (wy := wy) (mp := mp) (mm := mm) (aS := aS) (ad := ad) (oo := oo) (om := om) hc hn10 (fun f2 H locs ls r2 k2 hl hw => ?_) n 0 (by omega) f1 _ _ ls (r1.cg (fun j hj => (if_neg (Nat.not_lt_zero _)).symm)) pk.rf hl hw
  refine lv_iconst (v := 0) hx hb dX4_far_41 (by decide) ?_
  refine lv_istore (lv' := [(4, .int 0), (3, .ref r), (0, .ref aS), (1, .int q), (2, .int x)]) hx hb dX4_far_42 hl (by decide) rfl (fun ls hl => ?_)
  refine lpS_farC (v := v) (sh := sh) (ak := ak) (wl := wl) (wy := wy) (mp := mp) (mm := mm) (om := om) hc hX (hR1.kp k2 n0.symm) (fun k hk => ?_) n0.symm (fun k a hk e1 z => ?_) (Nat.le_of_ble_eq_true rfl) (Nat.le_of_ble_eq_true rfl) (by refine ⟨Nat.le_of_ble_eq_true rfl, ?_⟩; (try dsimp only); omega) (hO1.kp k2 (fun z => hr (z ▸ hO.1))) (fun z => hr (z ▸ hO.1)) (fun f3 H locs ls r3 k3 hl hw => ?_) n 0 (by omega) f2 H locs ls (r2.cg (fun j hj => if_pos hj)) pk.rf hl hw
  · obtain ⟨b, e1, e2⟩ := hR2 k hk
    exact ⟨b, e1, e2.kp k2 (fun z => hr (z ▸ (by obtain ⟨b', e3, e4⟩ := hA.1.2.1 k hk; cases e1.symm.trans e3; exact e4.1)))⟩
  · obtain ⟨b', e3, e4⟩ := hA.1.2.1 k hk
    cases e1.symm.trans e3
    exact hr (z ▸ e4.1)
  refine lv_sipush (v := 9999) hx hb dX4_far_153 (by decide) ?_
  refine lv_aload_n hx hb dX4_far_156 rfl (lv_at hl 0 rfl) ?_
  refine lv_iload_n hx hb dX4_far_157 rfl (lv_at hl 3 rfl) ?_
  refine pild hc hw r3 j hxj hj (by omega) (v := (sRs rw nr n (sD0 q) j)) rfl dX4_far_158 ?_
  refine pmin hc lkX4_far_m76 lkX4_far_msmin lkX4_far_mi lkX4_far_mcmin hl.1 (Nat.le_of_ble_eq_true rfl) (Nat.le_of_ble_eq_true rfl) (by refine ⟨Nat.le_of_ble_eq_true rfl, ?_⟩; (try dsimp only); omega) dX4_far_159 ?_
  exact pret_i hc hw (⟨by unfold sFar; rw [hxj, nI_clamp (by omega)]; rfl, (k1.off hr k2).off hr k3⟩) (by first | exact ⟨Nat.le_of_ble_eq_true rfl, Nat.le_of_ble_eq_true rfl⟩ | (refine ⟨?_, ?_⟩ <;> ((try dsimp only); omega))) dX4_far_162
end
section
theorem inX4_chosen_X4 : ∀ w ∈ u_ws RX4 TX4 14, w ∈ wsX4_chosen := fun _ h => List.mem_cons_of_mem _ (List.mem_append_right _ h)
theorem lkX4_chosen_f15 : Cond.fieldLink RX4 15 "MapCarrierLaw$Sim" "exits" "[[I" ∈ wsX4_chosen := List.mem_of_getElem? (i := 8) (by decide +kernel)
theorem lkX4_chosen_f25 : Cond.fieldLink RX4 25 "MapCarrierLaw$Sim" "where" "I" ∈ wsX4_chosen := List.mem_of_getElem? (i := 3) (by decide +kernel)
theorem lkX4_chosen_f9 : Cond.fieldLink RX4 9 "MapCarrierLaw$Sim" "roads" "[[I" ∈ wsX4_chosen := List.mem_of_getElem? (i := 9) (by decide +kernel)
theorem lkX4_chosen_f29 : Cond.fieldLink RX4 29 "MapCarrierLaw$Sim" "goal" "I" ∈ wsX4_chosen := List.mem_of_getElem? (i := 2) (by decide +kernel)
theorem lkX4_chosen_f18 : Cond.fieldLink RX4 18 "MapCarrierLaw$Sim" "shepherd" "[Z" ∈ wsX4_chosen := List.mem_of_getElem? (i := 4) (by decide +kernel)
theorem lkX4_chosen_f22 : Cond.fieldLink RX4 22 "MapCarrierLaw$Sim" "isAsked" "[Z" ∈ wsX4_chosen := List.mem_of_getElem? (i := 5) (by decide +kernel)
theorem lkX4_chosen_f50 : Cond.fieldLink RX4 50 "MapCarrierLaw$Sim" "coins" "I" ∈ wsX4_chosen := List.mem_of_getElem? (i := 6) (by decide +kernel)
theorem lkX4_chosen_f65 : Cond.fieldLink RX4 65 "MapCarrierLaw$Sim" "asked" "I" ∈ wsX4_chosen := List.mem_of_getElem? (i := 7) (by decide +kernel)
theorem lkX4_chosen_f37 : Cond.fieldLink RX4 37 "MapCarrierLaw$Sim" "memory" "[[[I" ∈ wsX4_chosen := List.mem_of_getElem? (i := 1) (by decide +kernel)
theorem lkX4_chosen_aI : Cond.arrayClass .int ∈ wsX4_chosen := List.mem_of_getElem? (i := 10) (by decide +kernel)
/-! the second carrier: which exit is chosen -/
/-- what of it changes is in range -/
def sVd (n : Nat) (xn : Nat → Nat) (v : Nat → Int32) (wl : Nat) (wy : Nat → Nat → Int32) (mp : Nat → Nat → Bool) (mm : Nat → Nat → Nat → Int32) : Prop := (∀ g q, g < 10 → q < n → mp g q = true → ∃ x, mm g q 0 = nI x ∧ x < xn q) ∧ wl ≤ 20 ∧ ∀ k, k < wl → ∃ q x, wy k 0 = nI q ∧ q < n ∧ wy k 1 = nI x ∧ x < xn q
/-- the miles by an exit to a goal -/
def sIts (n : Nat) (xr : Nat → Nat → Int32) (nr : Nat) (rw : Nat → Nat → Int32) (q : Nat) (g : Int32) (x : Nat) : Int32 := if rw (xr q x).toNatClampNeg 3 = 0 then 9999 else rw (xr q x).toNatClampNeg 2 + sFar rw nr n (sTo rw xr q x) g
/-- the best of the exits, of several the first, looked at from the last: after k of N -/
def sBst (its : Nat → Int32) (N : Nat) : Nat → Int32 × Int32
  | 0 => (-1, 9999)
  | k + 1 => if 9999 ≤ its (N - 1 - k) then sBst its N k else if (sBst its N k).2 < its (N - 1 - k) then sBst its N k else (nI (N - 1 - k), its (N - 1 - k))
/-- the first free exit from the x-th on -/
def sFst (rw xr : Nat → Nat → Int32) (q : Nat) : Nat → Nat → Int32
  | 0, _ => -1
  | d + 1, x => if sFr rw xr q x = 0 then sFst rw xr q d (x + 1) else nI x
theorem sBst_in (its : Nat → Int32) (N : Nat) : ∀ k, k ≤ N → (sBst its N k).1 = -1 ∨ ∃ x, (sBst its N k).1 = nI x ∧ x < N
  | 0, _ => Or.inl rfl
  | k + 1, h => by
    rw [sBst]
    split
    · exact sBst_in its N k (by omega)
    · split
      · exact sBst_in its N k (by omega)
      · exact Or.inr ⟨N - 1 - k, rfl, by omega⟩
/-- how an exit is chosen: the answer, and what is changed by the asking -/
def sChR (v : Nat → Int32) (n : Nat) (xn : Nat → Nat) (xr : Nat → Nat → Int32) (nr : Nat) (rw : Nat → Nat → Int32) (sh ak : Nat → Int32) (mp : Nat → Nat → Bool) (mm : Nat → Nat → Nat → Int32) (q g : Nat) (r : Int32) (v' ak' : Nat → Int32) (mp' : Nat → Nat → Bool) (mm' : Nat → Nat → Nat → Int32) : Prop :=
  ((mp g q = true ∧ ¬ sFr rw xr q (mm g q 0).toNatClampNeg = 0) ∧ r = mm g q 0 ∧ v' = v ∧ ak' = ak ∧ mp' = mp ∧ mm' = mm) ∨
  (¬ (mp g q = true ∧ ¬ sFr rw xr q (mm g q 0).toNatClampNeg = 0) ∧ ¬ (¬ sh q = 0 ∧ ak q = 0 ∧ 0 < v 5) ∧ r = sFst rw xr q (xn q) 0 ∧ v' = v ∧ ak' = ak ∧ mp' = mp ∧ mm' = mm) ∨
  (¬ (mp g q = true ∧ ¬ sFr rw xr q (mm g q 0).toNatClampNeg = 0) ∧ (¬ sh q = 0 ∧ ak q = 0 ∧ 0 < v 5) ∧ v' = upd (upd v 5 (v 5 - 1)) 13 (v 13 + 1) ∧ ak' = upd ak q 1 ∧
    (((sBst (sIts n xr nr rw q (nI g)) (xn q) (xn q)).1 < 0 ∧ r = sFst rw xr q (xn q) 0 ∧ mp' = mp ∧ mm' = mm) ∨
     (¬ (sBst (sIts n xr nr rw q (nI g)) (xn q) (xn q)).1 < 0 ∧ mp' = va_up mp g (va_up (mp g) q true) ∧ mm' = va_up mm g (va_up (mm g) q (upd (upd (fun _ => 0) 0 (sBst (sIts n xr nr rw q (nI g)) (xn q) (xn q)).1) 1 3)) ∧
       r = if sFr rw xr q (sBst (sIts n xr nr rw q (nI g)) (xn q) (xn q)).1.toNatClampNeg = 0 then sFst rw xr q (xn q) 0 else (sBst (sIts n xr nr rw q (nI g)) (xn q) (xn q)).1)))
theorem sTo_in {n : Nat} {xn : Nat → Nat} {xr : Nat → Nat → Int32} {nr : Nat} {rw : Nat → Nat → Int32} (hX : sX n xn xr nr rw) {q x : Nat} (hq : q < n) (hx : x < xn q) : ∃ b, sTo rw xr q x = nI b ∧ b < n := by
  obtain ⟨k, hk1, hk2⟩ := hX.2.2.1 q x hq hx
  have hr := hX.2.1
  obtain ⟨a, b, h1, h2, h3, h4⟩ := hX.2.2.2 k hk2
  unfold sTo
  rw [hk1, nI_clamp (by omega)]
  split
  · exact ⟨b, h3, h4⟩
  · exact ⟨a, h1, h2⟩
set_option maxHeartbeats 40000000 in
set_option maxRecDepth 100000 in
theorem lpS_chF {p : Program} {l : Launch} {e : Env} {R : Room} {s : State} {m : MethodId} {args : Array Value} {below : List Frame} {meth : Method} {c : Code} {cells slots : Nat} {Q : State → Prop} {ret : Option FieldType} {G : xG} {A : Nat → Prop} (hc : xC p s m args meth c cX4_chosen 7 RX4 wsX4_chosen ret G A) {aS : Nat} {ad : Nat → Nat} {oo om : Nat → Nat → Option Nat} {v : Nat → Int32} {n : Nat} {xn : Nat → Nat} {xr : Nat → Nat → Int32} {nr : Nat} {rw : Nat → Nat → Int32} {sh ak : Nat → Int32} {wl : Nat} {wy : Nat → Nat → Int32} {mp : Nat → Nat → Bool} {mm : Nat → Nat → Nat → Int32} {L : List Nat} {f : Nat → va_E} (hX : sX n xn xr nr rw) (hV : sVd n xn v wl wy mp mm) {q g : Nat} (hq4 : v 4 = nI q) (hq : q < n) (hg6 : v 6 = nI g) (hg : g < n) (hRf : 3 ≤ R.frames) (hRl : 80 ≤ R.locals) (hRc : cells ≤ R.cells ∧ slots ≤ R.slots) (hO : objS L f aS 4 [.ref (ad 0), .ref (ad 1), .ref (ad 2), .ref (ad 3), .int (v 4), .int (v 5), .int (v 6), .ref (ad 4), .ref (ad 5), .int (v 9), .int (v 10), .int (v 11), .int (v 12), .int (v 13)]) (hA : ShA G L f ad oo om n xn xr nr rw sh ak wl wy mp mm)
    (kx : True) :
    ∀ (d i : Nat), i + d = xn q → ∀  (H : Heap) (locs : List Loc) (ls : Array Slot), (∀ (H : Heap) (locs : List Loc) (ls : Array Slot) (x : Int32) (pc : Nat), sFst rw xr q d i = x → xW G A s.heap (([] : va_W) ++ va_pl L f) H locs → decode cX4_chosen pc = .ok (.ireturn, 1) → W p l e R s m args below meth c H locs cells slots Q (F0 m pc ls [.int x])) → lv_has ls 7 [(2, .int (nI i)), (0, .ref aS)] → xW G A s.heap (([] : va_W) ++ va_pl L f) H locs → W p l e R s m args below meth c H locs cells slots Q (F0 m 250 ls []) := by
  obtain ⟨hx, hb, -, hown, hts, -⟩ := id hc
  intro d
  induction d with
  | zero =>
    intro i hd  H locs ls ke hl hw
    have hn10 : n ≤ 10 := hX.1
    have hE := hA.2.1
    obtain ⟨hx4, ea, hea1, hea2⟩ := hE.2 q hq
    refine lv_iload_n hx hb dX4_chosen_250 rfl (lv_at hl 0 rfl) ?_
    refine lv_aload_n hx hb dX4_chosen_251 rfl (lv_at hl 1 rfl) ?_
    refine pget (C := RX4) (T := TX4) (N := 14) (ci := 4) hc hw inX4_chosen_X4 hO rfl 1 (by decide) lkX4_chosen_f15 rfl rfl dX4_chosen_252 ?_
    refine lv_aload_n hx hb dX4_chosen_255 rfl (lv_at hl 1 rfl) ?_
    refine pget (C := RX4) (T := TX4) (N := 14) (ci := 4) hc hw inX4_chosen_X4 hO rfl 4 (by decide) lkX4_chosen_f25 rfl rfl dX4_chosen_256 ?_
    refine pald hc hw hE.1 q hq4 hq (by omega) (v := .ref ea) (by rw [hea1]; rfl) dX4_chosen_259 ?_
    refine plenI hc hw hea2 dX4_chosen_260 ?_
    refine lv_icmp_ge (tgt := 280) hx hb dX4_chosen_261 (by decide) (fun hz => ?_) (fun h => absurd (nI_le (by omega) (by omega)) h)
    refine lv_iconst (v := (-1)) hx hb dX4_chosen_280 (by decide) ?_
    exact ke H locs ls (-1) 281 (by rw [sFst]) hw dX4_chosen_281
  | succ d ih =>
    intro i hd  H locs ls ke hl hw
    have hn10 : n ≤ 10 := hX.1
    have hE := hA.2.1
    obtain ⟨hx4, ea, hea1, hea2⟩ := hE.2 q hq
    refine lv_iload_n hx hb dX4_chosen_250 rfl (lv_at hl 0 rfl) ?_
    refine lv_aload_n hx hb dX4_chosen_251 rfl (lv_at hl 1 rfl) ?_
    refine pget (C := RX4) (T := TX4) (N := 14) (ci := 4) hc hw inX4_chosen_X4 hO rfl 1 (by decide) lkX4_chosen_f15 rfl rfl dX4_chosen_252 ?_
    refine lv_aload_n hx hb dX4_chosen_255 rfl (lv_at hl 1 rfl) ?_
    refine pget (C := RX4) (T := TX4) (N := 14) (ci := 4) hc hw inX4_chosen_X4 hO rfl 4 (by decide) lkX4_chosen_f25 rfl rfl dX4_chosen_256 ?_
    refine pald hc hw hE.1 q hq4 hq (by omega) (v := .ref ea) (by rw [hea1]; rfl) dX4_chosen_259 ?_
    refine plenI hc hw hea2 dX4_chosen_260 ?_
    refine lv_icmp_ge (tgt := 280) hx hb dX4_chosen_261 (by decide) (fun h => absurd h (nI_ge (by omega) (by omega))) (fun hz => ?_)
    refine lv_aload_n hx hb dX4_chosen_264 rfl (lv_at hl 1 rfl) ?_
    refine lv_iload_n hx hb dX4_chosen_265 rfl (lv_at hl 0 rfl) ?_
    refine pcall_i hc hw (prunV (n := 1) (As := [.int (nI i)]) (rest := []) hc hw (metS_isFree l G _ _ _ aS v n xn xr nr rw _ _ _ _ _ _ ⟨_, _, _, hO, hA⟩ hX q i ⟨hq4, hq⟩ (by omega)) gX4_chosen_X4_isFree rfl (by decide +kernel) ⟨by (try dsimp only); omega, by (try dsimp only); omega⟩ hO rfl rfl rfl hl.1 (Nat.le_of_ble_eq_true rfl) dX4_chosen_266 ⟨by (try dsimp only); omega, by (try dsimp only); omega⟩) (fun y L9 f9 H locs hp hw => ?_)
    obtain ⟨hey, eu⟩ := hp
    obtain ⟨eL, ef⟩ := Prod.mk.inj eu
    rw [eL, ef] at hw
    refine lv_if_eq (tgt := 274) hx hb dX4_chosen_269 (by decide) (fun hz => ?_) (fun hz => ?_)
    · refine lv_iinc (v := nI (i + 1)) (lv' := [(2, .int (nI (i + 1))), (0, .ref aS)]) hx hb dX4_chosen_274 hl (k := 0) rfl (nI_1 _) (by decide) rfl (fun ls hl => ?_)
      refine lv_goto (tgt := 250) hx hb dX4_chosen_277 (by decide) ?_
      exact ih (i + 1) (by omega) H locs ls (fun H2 locs2 ls2 x pc hx => ke H2 locs2 ls2 x pc (by rw [sFst, if_pos (by rw [← hey]; exact hz)]; exact hx)) hl hw
    · refine lv_iload_n hx hb dX4_chosen_272 rfl (lv_at hl 0 rfl) ?_
      exact ke H locs ls (nI i) 273 (by rw [sFst, if_neg (by rw [← hey]; exact hz)]) hw dX4_chosen_273
theorem xdec (x : Int32) : x + Int32.ofInt (-1) = x - 1 := by rw [Int32.sub_eq_add_neg, show Int32.ofInt (-1) = -(1 : Int32) from by decide]
theorem pW_eq {p : Program} {l : Launch} {e : Env} {R : Room} {s : State} {m : MethodId} {args : Array Value} {below : List Frame} {meth : Method} {c : Code} {H : Heap} {locs : List Loc} {c1 c2 s1 s2 : Nat} {Q : State → Prop} {g : JFrame} (h1 : c1 = c2) (h2 : s1 = s2) (k : W p l e R s m args below meth c H locs c2 s2 Q g) : W p l e R s m args below meth c H locs c1 s1 Q g := by subst h1; subst h2; exact k
theorem pW_le {p : Program} {l : Launch} {e : Env} {R : Room} {s : State} {m : MethodId} {args : Array Value} {below : List Frame} {meth : Method} {c : Code} {H : Heap} {locs : List Loc} {c1 c2 s1 s2 : Nat} {Q : State → Prop} {g : JFrame} (h1 : c1 ≤ c2) (h2 : s1 ≤ s2) (k : W p l e R s m args below meth c H locs c2 s2 Q g) : W p l e R s m args below meth c H locs c1 s1 Q g := W.widen h1 h2 k
set_option maxHeartbeats 40000000 in
set_option maxRecDepth 100000 in
theorem lpS_chB {p : Program} {l : Launch} {e : Env} {R : Room} {s : State} {m : MethodId} {args : Array Value} {below : List Frame} {meth : Method} {c : Code} {cells slots : Nat} {Q : State → Prop} {ret : Option FieldType} {G : xG} {A : Nat → Prop} (hc : xC p s m args meth c cX4_chosen 7 RX4 wsX4_chosen ret G A) {aS : Nat} {ad : Nat → Nat} {oo om : Nat → Nat → Option Nat} {v : Nat → Int32} {n : Nat} {xn : Nat → Nat} {xr : Nat → Nat → Int32} {nr : Nat} {rw : Nat → Nat → Int32} {sh ak : Nat → Int32} {wl : Nat} {wy : Nat → Nat → Int32} {mp : Nat → Nat → Bool} {mm : Nat → Nat → Nat → Int32} {L0 : List Nat} {f0 : Nat → va_E} (hX : sX n xn xr nr rw) (hV : sVd n xn v wl wy mp mm) {q g : Nat} (hq4 : v 4 = nI q) (hq : q < n) (hg6 : v 6 = nI g) (hg : g < n) (hRf : 3 ≤ R.frames) (hRl : 80 ≤ R.locals) (hRc : cells + 4 ≤ R.cells ∧ slots + 40 ≤ R.slots) (hxq : xn q < 5)
    (kx : ∀ (L : List Nat) (f : Nat → va_E) (H : Heap) (locs : List Loc) (ls : Array Slot), objS L f aS 4 [.ref (ad 0), .ref (ad 1), .ref (ad 2), .ref (ad 3), .int (v 4), .int (v 5), .int (v 6), .ref (ad 4), .ref (ad 5), .int (v 9), .int (v 10), .int (v 11), .int (v 12), .int (v 13)] → ShA G L f ad oo om n xn xr nr rw sh ak wl wy mp mm → pk (fun _ => False) L0 f0 L f → lv_has ls 7 [(3, .int ((sBst (sIts n xr nr rw q (nI g)) (xn q) (xn q)).2)), (2, .int ((sBst (sIts n xr nr rw q (nI g)) (xn q) (xn q)).1)), (0, .ref aS)] → xW G A s.heap (([] : va_W) ++ va_pl L f) H locs → W p l e R s m args below meth c H locs (cells + xn q) (slots + 10 * xn q) Q (F0 m 205 ls [])) :
    ∀ (d k : Nat), k + d = xn q → ∀ (L : List Nat) (f : Nat → va_E) (H : Heap) (locs : List Loc) (ls : Array Slot), objS L f aS 4 [.ref (ad 0), .ref (ad 1), .ref (ad 2), .ref (ad 3), .int (v 4), .int (v 5), .int (v 6), .ref (ad 4), .ref (ad 5), .int (v 9), .int (v 10), .int (v 11), .int (v 12), .int (v 13)] → ShA G L f ad oo om n xn xr nr rw sh ak wl wy mp mm → pk (fun _ => False) L0 f0 L f → lv_has ls 7 [(4, .int (nI d - 1)), (3, .int ((sBst (sIts n xr nr rw q (nI g)) (xn q) k).2)), (2, .int ((sBst (sIts n xr nr rw q (nI g)) (xn q) k).1)), (0, .ref aS)] → xW G A s.heap (([] : va_W) ++ va_pl L f) H locs → W p l e R s m args below meth c H locs (cells + k) (slots + 10 * k) Q (F0 m 114 ls []) := by
  obtain ⟨hx, hb, -, hown, hts, -⟩ := id hc
  intro d
  induction d with
  | zero =>
    intro k hd L f H locs ls hO hA k0 hl hw
    refine lv_iload hx hb dX4_chosen_114 (lv_at hl 0 rfl) ?_
    refine lv_if_lt (tgt := 205) hx hb dX4_chosen_116 (by decide) (fun hz => ?_) (fun h => absurd (by decide) h)
    have ek : k = xn q := by omega
    subst ek
    exact kx L f H locs ls hO hA k0 (lv_sub hl [1, 2, 3] rfl) hw
  | succ d ih =>
    intro k hd L f H locs ls hO hA k0 hl hw
    rw [nI_pred] at hl
    have hn10 : n ≤ 10 := hX.1
    have hr20 : nr ≤ 20 := hX.2.1
    have hd2 : xn q - 1 - k = d := by omega
    obtain ⟨⟨hR1, hR2, hR3⟩, ⟨hE1, hE2⟩, -⟩ := id hA
    obtain ⟨hx4, ea, he1, he2⟩ := hE2 q hq
    obtain ⟨y, hy1, hy2⟩ := hX.2.2.1 q d hq (by omega)
    obtain ⟨ra, hr1, hr2⟩ := hR2 y hy2
    have hkc : (xr q d).toNatClampNeg = y := by rw [hy1, nI_clamp (by omega)]
    refine lv_iload hx hb dX4_chosen_114 (lv_at hl 0 rfl) ?_
    refine lv_if_lt (tgt := 205) hx hb dX4_chosen_116 (by decide) (fun h => absurd h (nI_pos (by omega))) (fun hz => ?_)
    refine lv_aload_n hx hb dX4_chosen_119 rfl (lv_at hl 3 rfl) ?_
    refine pget (C := RX4) (T := TX4) (N := 14) (ci := 4) hc hw inX4_chosen_X4 hO rfl 0 (by decide) lkX4_chosen_f9 rfl rfl dX4_chosen_120 ?_
    refine lv_aload_n hx hb dX4_chosen_123 rfl (lv_at hl 3 rfl) ?_
    refine pget (C := RX4) (T := TX4) (N := 14) (ci := 4) hc hw inX4_chosen_X4 hO rfl 1 (by decide) lkX4_chosen_f15 rfl rfl dX4_chosen_124 ?_
    refine lv_aload_n hx hb dX4_chosen_127 rfl (lv_at hl 3 rfl) ?_
    refine pget (C := RX4) (T := TX4) (N := 14) (ci := 4) hc hw inX4_chosen_X4 hO rfl 4 (by decide) lkX4_chosen_f25 rfl rfl dX4_chosen_128 ?_
    refine pald hc hw hE1 q hq4 hq (by omega) (v := .ref ea) (by rw [he1]; rfl) dX4_chosen_131 ?_
    refine lv_iload hx hb dX4_chosen_132 (lv_at hl 0 rfl) ?_
    refine pild hc hw he2 d rfl (by omega) (by omega) (v := (nI y)) hy1 dX4_chosen_134 ?_
    refine pald hc hw hR1 y rfl hy2 (by omega) (v := .ref ra) (by rw [hr1]; rfl) dX4_chosen_135 ?_
    refine lv_astore (lv' := [(5, .ref ra), (4, .int (nI d)), (3, .int ((sBst (sIts n xr nr rw q (nI g)) (xn q) k).2)), (2, .int ((sBst (sIts n xr nr rw q (nI g)) (xn q) k).1)), (0, .ref aS)]) hx hb dX4_chosen_136 hl (by decide) rfl (fun ls hl => ?_)
    refine lv_aload hx hb dX4_chosen_138 (lv_at hl 0 rfl) ?_
    refine lv_iconst (v := 3) hx hb dX4_chosen_140 (by decide) ?_
    refine pild hc hw hr2 3 rfl (by decide) (by omega) (v := (rw y 3)) rfl dX4_chosen_141 ?_
    refine lv_if_ne (tgt := 151) hx hb dX4_chosen_142 (by decide) (fun hz => ?_) (fun hz => ?_)
    · refine lv_aload hx hb dX4_chosen_151 (lv_at hl 0 rfl) ?_
      refine lv_iconst (v := 2) hx hb dX4_chosen_153 (by decide) ?_
      refine pild hc hw hr2 2 rfl (by decide) (by omega) (v := (rw y 2)) rfl dX4_chosen_154 ?_
      refine lv_aload_n hx hb dX4_chosen_155 rfl (lv_at hl 4 rfl) ?_
      refine lv_aload_n hx hb dX4_chosen_156 rfl (lv_at hl 4 rfl) ?_
      refine lv_aload_n hx hb dX4_chosen_157 rfl (lv_at hl 4 rfl) ?_
      refine pget (C := RX4) (T := TX4) (N := 14) (ci := 4) hc hw inX4_chosen_X4 hO rfl 4 (by decide) lkX4_chosen_f25 rfl rfl dX4_chosen_158 ?_
      refine lv_iload hx hb dX4_chosen_161 (lv_at hl 1 rfl) ?_
      rw [hq4]
      refine pcall_i hc hw (prunV (n := 2) (As := [.int (nI q), .int (nI d)]) (rest := [.ref aS, .int (rw y 2)]) hc hw (metS_to l G _ _ _ aS v n xn xr nr rw _ _ _ _ _ _ ⟨_, _, _, hO, hA⟩ hX q d hq (by omega)) gX4_chosen_X4_to rfl (by decide +kernel) ⟨by (try dsimp only); omega, by (try dsimp only); omega⟩ hO rfl rfl rfl hl.1 (Nat.le_of_ble_eq_true rfl) dX4_chosen_163 ⟨by (try dsimp only); omega, by (try dsimp only); omega⟩) (fun t L9 f9 H locs hp hw => ?_)
      obtain ⟨het, eu⟩ := hp
      obtain ⟨eL, ef⟩ := Prod.mk.inj eu
      rw [eL, ef] at hw
      refine lv_aload_n hx hb dX4_chosen_166 rfl (lv_at hl 4 rfl) ?_
      refine pget (C := RX4) (T := TX4) (N := 14) (ci := 4) hc hw inX4_chosen_X4 hO rfl 6 (by decide) lkX4_chosen_f29 rfl rfl dX4_chosen_167 ?_
      refine pcall_i hc hw (prunV (n := 2) (As := [.int t, .int (v 6)]) (rest := [.int (rw y 2)]) hc hw (metS_far l G _ L f aS v n xn xr nr rw _ _ _ _ _ _ ⟨_, _, _, hO, hA⟩ hX t (v 6) ⟨g, hg6, hg⟩) gX4_chosen_X4_far rfl (by decide +kernel) ⟨by (try dsimp only); omega, by (try dsimp only); omega⟩ hO rfl rfl rfl hl.1 (Nat.le_of_ble_eq_true rfl) dX4_chosen_170 ⟨by (try dsimp only); omega, by (try dsimp only); omega⟩) (fun z L1 f1 H locs hp hw => ?_)
      obtain ⟨hez, k1⟩ := hp
      have hO := hO.kp k1 (fun z => z)
      have hA := hA.fresh k1
      have k0 := k0.tr k1
      rw [het, hg6] at hez
      refine lv_iadd hx hb dX4_chosen_173 ?_
      refine lv_istore (lv' := [(6, .int ((rw y 2) + z)), (5, .ref ra), (4, .int (nI d)), (3, .int ((sBst (sIts n xr nr rw q (nI g)) (xn q) k).2)), (2, .int ((sBst (sIts n xr nr rw q (nI g)) (xn q) k).1)), (0, .ref aS)]) hx hb dX4_chosen_174 hl (by decide) rfl (fun ls hl => ?_)
      refine lv_iload hx hb dX4_chosen_176 (lv_at hl 0 rfl) ?_
      refine lv_sipush (v := 9999) hx hb dX4_chosen_178 (by decide) ?_
      have hi : (rw y 2 + z) = sIts n xr nr rw q (nI g) (xn q - 1 - k) := by rw [hd2]; unfold sIts; rw [hkc, if_neg hz, ← hez]
      refine lv_icmp_ge (tgt := 199) hx hb dX4_chosen_181 (by decide) (fun hz => ?_) (fun hz => ?_)
      · refine lv_iinc (v := nI d - 1) (lv' := [(4, .int (nI d - 1)), (6, .int ((rw y 2) + z)), (5, .ref ra), (3, .int ((sBst (sIts n xr nr rw q (nI g)) (xn q) k).2)), (2, .int ((sBst (sIts n xr nr rw q (nI g)) (xn q) k).1)), (0, .ref aS)]) hx hb dX4_chosen_199 hl (k := 2) rfl (xdec _) (by decide) rfl (fun ls hl => ?_)
        refine lv_goto (tgt := 114) hx hb dX4_chosen_202 (by decide) ?_
        have hs : sBst (sIts n xr nr rw q (nI g)) (xn q) (k + 1) = sBst (sIts n xr nr rw q (nI g)) (xn q) k := by rw [sBst, ← hi, if_pos hz]
        refine pW_le (c2 := cells + (k + 1)) (s2 := slots + 10 * (k + 1)) (by (try dsimp only); omega) (by (try dsimp only); omega) ?_
        refine ih (k + 1) (by omega) L1 f1 H locs ls hO hA k0 ?_ hw
        rw [hs]
        exact lv_sub hl [0, 3, 4, 5] rfl
      · refine lv_iload hx hb dX4_chosen_184 (lv_at hl 0 rfl) ?_
        refine lv_iload_n hx hb dX4_chosen_186 rfl (lv_at hl 3 rfl) ?_
        refine lv_icmp_le (tgt := 193) hx hb dX4_chosen_187 (by decide) (fun hz2 => ?_) (fun hz2 => ?_)
        · refine lv_iload hx hb dX4_chosen_193 (lv_at hl 2 rfl) ?_
          refine lv_istore_n (lv' := [(2, .int (nI d)), (6, .int ((rw y 2) + z)), (5, .ref ra), (4, .int (nI d)), (3, .int ((sBst (sIts n xr nr rw q (nI g)) (xn q) k).2)), (0, .ref aS)]) hx hb dX4_chosen_195 rfl hl (by decide) rfl (fun ls hl => ?_)
          refine lv_iload hx hb dX4_chosen_196 (lv_at hl 1 rfl) ?_
          refine lv_istore_n (lv' := [(3, .int ((rw y 2) + z)), (2, .int (nI d)), (6, .int ((rw y 2) + z)), (5, .ref ra), (4, .int (nI d)), (0, .ref aS)]) hx hb dX4_chosen_198 rfl hl (by decide) rfl (fun ls hl => ?_)
          refine lv_iinc (v := nI d - 1) (lv' := [(4, .int (nI d - 1)), (3, .int ((rw y 2) + z)), (2, .int (nI d)), (6, .int ((rw y 2) + z)), (5, .ref ra), (0, .ref aS)]) hx hb dX4_chosen_199 hl (k := 4) rfl (xdec _) (by decide) rfl (fun ls hl => ?_)
          refine lv_goto (tgt := 114) hx hb dX4_chosen_202 (by decide) ?_
          have hs : sBst (sIts n xr nr rw q (nI g)) (xn q) (k + 1) = (nI d, rw y 2 + z) := by rw [sBst, ← hi, if_neg hz, if_neg (by rw [xltI]; rw [xle] at hz2; exact Int.not_lt.mpr hz2), hd2]
          refine pW_le (c2 := cells + (k + 1)) (s2 := slots + 10 * (k + 1)) (by (try dsimp only); omega) (by (try dsimp only); omega) ?_
          refine ih (k + 1) (by omega) L1 f1 H locs ls hO hA k0 ?_ hw
          rw [hs]
          exact lv_sub hl [0, 1, 2, 5] rfl
        · refine lv_goto (tgt := 199) hx hb dX4_chosen_190 (by decide) ?_
          refine lv_iinc (v := nI d - 1) (lv' := [(4, .int (nI d - 1)), (6, .int ((rw y 2) + z)), (5, .ref ra), (3, .int ((sBst (sIts n xr nr rw q (nI g)) (xn q) k).2)), (2, .int ((sBst (sIts n xr nr rw q (nI g)) (xn q) k).1)), (0, .ref aS)]) hx hb dX4_chosen_199 hl (k := 2) rfl (xdec _) (by decide) rfl (fun ls hl => ?_)
          refine lv_goto (tgt := 114) hx hb dX4_chosen_202 (by decide) ?_
          have hs : sBst (sIts n xr nr rw q (nI g)) (xn q) (k + 1) = sBst (sIts n xr nr rw q (nI g)) (xn q) k := by rw [sBst, ← hi, if_neg hz, if_pos (by rw [xltI]; rw [xle] at hz2; exact Int.not_le.mp hz2)]
          refine pW_le (c2 := cells + (k + 1)) (s2 := slots + 10 * (k + 1)) (by (try dsimp only); omega) (by (try dsimp only); omega) ?_
          refine ih (k + 1) (by omega) L1 f1 H locs ls hO hA k0 ?_ hw
          rw [hs]
          exact lv_sub hl [0, 3, 4, 5] rfl
    · refine lv_sipush (v := 9999) hx hb dX4_chosen_145 (by decide) ?_
      refine lv_goto (tgt := 174) hx hb dX4_chosen_148 (by decide) ?_
      refine lv_istore (lv' := [(6, .int 9999), (5, .ref ra), (4, .int (nI d)), (3, .int ((sBst (sIts n xr nr rw q (nI g)) (xn q) k).2)), (2, .int ((sBst (sIts n xr nr rw q (nI g)) (xn q) k).1)), (0, .ref aS)]) hx hb dX4_chosen_174 hl (by decide) rfl (fun ls hl => ?_)
      refine lv_iload hx hb dX4_chosen_176 (lv_at hl 0 rfl) ?_
      refine lv_sipush (v := 9999) hx hb dX4_chosen_178 (by decide) ?_
      have hi : 9999 = sIts n xr nr rw q (nI g) (xn q - 1 - k) := by rw [hd2]; unfold sIts; rw [hkc, if_pos hz]
      refine lv_icmp_ge (tgt := 199) hx hb dX4_chosen_181 (by decide) (fun hz => ?_) (fun hz => ?_)
      · refine lv_iinc (v := nI d - 1) (lv' := [(4, .int (nI d - 1)), (6, .int 9999), (5, .ref ra), (3, .int ((sBst (sIts n xr nr rw q (nI g)) (xn q) k).2)), (2, .int ((sBst (sIts n xr nr rw q (nI g)) (xn q) k).1)), (0, .ref aS)]) hx hb dX4_chosen_199 hl (k := 2) rfl (xdec _) (by decide) rfl (fun ls hl => ?_)
        refine lv_goto (tgt := 114) hx hb dX4_chosen_202 (by decide) ?_
        have hs : sBst (sIts n xr nr rw q (nI g)) (xn q) (k + 1) = sBst (sIts n xr nr rw q (nI g)) (xn q) k := by rw [sBst, ← hi, if_pos hz]
        refine pW_le (c2 := cells + (k + 1)) (s2 := slots + 10 * (k + 1)) (by (try dsimp only); omega) (by (try dsimp only); omega) ?_
        refine ih (k + 1) (by omega) L f H locs ls hO hA k0 ?_ hw
        rw [hs]
        exact lv_sub hl [0, 3, 4, 5] rfl
      · refine lv_iload hx hb dX4_chosen_184 (lv_at hl 0 rfl) ?_
        refine lv_iload_n hx hb dX4_chosen_186 rfl (lv_at hl 3 rfl) ?_
        refine lv_icmp_le (tgt := 193) hx hb dX4_chosen_187 (by decide) (fun hz2 => ?_) (fun hz2 => ?_)
        · refine lv_iload hx hb dX4_chosen_193 (lv_at hl 2 rfl) ?_
          refine lv_istore_n (lv' := [(2, .int (nI d)), (6, .int 9999), (5, .ref ra), (4, .int (nI d)), (3, .int ((sBst (sIts n xr nr rw q (nI g)) (xn q) k).2)), (0, .ref aS)]) hx hb dX4_chosen_195 rfl hl (by decide) rfl (fun ls hl => ?_)
          refine lv_iload hx hb dX4_chosen_196 (lv_at hl 1 rfl) ?_
          refine lv_istore_n (lv' := [(3, .int 9999), (2, .int (nI d)), (6, .int 9999), (5, .ref ra), (4, .int (nI d)), (0, .ref aS)]) hx hb dX4_chosen_198 rfl hl (by decide) rfl (fun ls hl => ?_)
          refine lv_iinc (v := nI d - 1) (lv' := [(4, .int (nI d - 1)), (3, .int 9999), (2, .int (nI d)), (6, .int 9999), (5, .ref ra), (0, .ref aS)]) hx hb dX4_chosen_199 hl (k := 4) rfl (xdec _) (by decide) rfl (fun ls hl => ?_)
          refine lv_goto (tgt := 114) hx hb dX4_chosen_202 (by decide) ?_
          have hs : sBst (sIts n xr nr rw q (nI g)) (xn q) (k + 1) = (nI d, 9999) := by rw [sBst, ← hi, if_neg hz, if_neg (by rw [xltI]; rw [xle] at hz2; exact Int.not_lt.mpr hz2), hd2]
          refine pW_le (c2 := cells + (k + 1)) (s2 := slots + 10 * (k + 1)) (by (try dsimp only); omega) (by (try dsimp only); omega) ?_
          refine ih (k + 1) (by omega) L f H locs ls hO hA k0 ?_ hw
          rw [hs]
          exact lv_sub hl [0, 1, 2, 5] rfl
        · refine lv_goto (tgt := 199) hx hb dX4_chosen_190 (by decide) ?_
          refine lv_iinc (v := nI d - 1) (lv' := [(4, .int (nI d - 1)), (6, .int 9999), (5, .ref ra), (3, .int ((sBst (sIts n xr nr rw q (nI g)) (xn q) k).2)), (2, .int ((sBst (sIts n xr nr rw q (nI g)) (xn q) k).1)), (0, .ref aS)]) hx hb dX4_chosen_199 hl (k := 2) rfl (xdec _) (by decide) rfl (fun ls hl => ?_)
          refine lv_goto (tgt := 114) hx hb dX4_chosen_202 (by decide) ?_
          have hs : sBst (sIts n xr nr rw q (nI g)) (xn q) (k + 1) = sBst (sIts n xr nr rw q (nI g)) (xn q) k := by rw [sBst, ← hi, if_neg hz, if_pos (by rw [xltI]; rw [xle] at hz2; exact Int.not_le.mp hz2)]
          refine pW_le (c2 := cells + (k + 1)) (s2 := slots + 10 * (k + 1)) (by (try dsimp only); omega) (by (try dsimp only); omega) ?_
          refine ih (k + 1) (by omega) L f H locs ls hO hA k0 ?_ hw
          rw [hs]
          exact lv_sub hl [0, 3, 4, 5] rfl
set_option maxHeartbeats 40000000 in
set_option maxRecDepth 100000 in
theorem lpS_chT {p : Program} {l : Launch} {e : Env} {R : Room} {s : State} {m : MethodId} {args : Array Value} {below : List Frame} {meth : Method} {c : Code} {cells slots : Nat} {Q : State → Prop} {ret : Option FieldType} {G : xG} {A : Nat → Prop} (hc : xC p s m args meth c cX4_chosen 7 RX4 wsX4_chosen ret G A) {aS : Nat} {ad : Nat → Nat} {oo om : Nat → Nat → Option Nat} {v : Nat → Int32} {n : Nat} {xn : Nat → Nat} {xr : Nat → Nat → Int32} {nr : Nat} {rw : Nat → Nat → Int32} {sh ak : Nat → Int32} {wl : Nat} {wy : Nat → Nat → Int32} {mp : Nat → Nat → Bool} {mm : Nat → Nat → Nat → Int32} {L : List Nat} {f : Nat → va_E} (hX : sX n xn xr nr rw) (hV : sVd n xn v wl wy mp mm) {q g : Nat} (hq4 : v 4 = nI q) (hq : q < n) (hg6 : v 6 = nI g) (hg : g < n) (hRf : 3 ≤ R.frames) (hRl : 80 ≤ R.locals) (hRc : cells + 5 ≤ R.cells ∧ slots + 42 ≤ R.slots) (hsh : ∀ k, k < 10 → sh k = 0 ∨ sh k = 1) (hO : objS L f aS 4 [.ref (ad 0), .ref (ad 1), .ref (ad 2), .ref (ad 3), .int (v 4), .int (v 5), .int (v 6), .ref (ad 4), .ref (ad 5), .int (v 9), .int (v 10), .int (v 11), .int (v 12), .int (v 13)]) (hA : ShA G L f ad oo om n xn xr nr rw sh ak wl wy mp mm) (hK : ¬ (mp g q = true ∧ ¬ sFr rw xr q (mm g q 0).toNatClampNeg = 0))
    (kr : ∀ (L : List Nat) (f : Nat → va_E) (H : Heap) (locs : List Loc) (ls : Array Slot) (r : Int32) (pc : Nat) (v2 ak2 : Nat → Int32) (mp2 : Nat → Nat → Bool) (mm2 : Nat → Nat → Nat → Int32), sChR v n xn xr nr rw sh ak mp mm q g r v2 ak2 mp2 mm2 → Sh G L f aS v2 n xn xr nr rw sh ak2 wl wy mp2 mm2 → xW G A s.heap (([] : va_W) ++ va_pl L f) H locs → decode cX4_chosen pc = .ok (.ireturn, 1) → W p l e R s m args below meth c H locs (cells + 5) (slots + 42) Q (F0 m pc ls [.int r])) {H : Heap} {locs : List Loc} {ls : Array Slot} (hl : lv_has ls 7 [(0, .ref aS)]) (hw : xW G A s.heap (([] : va_W) ++ va_pl L f) H locs) : W p l e R s m args below meth c H locs cells slots Q (F0 m 33 ls []) := by
  obtain ⟨hx, hb, -, hown, hts, -⟩ := id hc
  have hn10 : n ≤ 10 := hX.1
  obtain ⟨⟨hR1, hR2, hR3⟩, ⟨hE1, hE2⟩, ⟨hZ1, hZ2, hZ3⟩, -⟩ := id hA
  obtain ⟨hx4, ea, he1, he2⟩ := hE2 q hq
  refine lv_aload_n hx hb dX4_chosen_33 rfl (lv_at hl 0 rfl) ?_
  refine pget (C := RX4) (T := TX4) (N := 14) (ci := 4) hc hw inX4_chosen_X4 hO rfl 2 (by decide) lkX4_chosen_f18 rfl rfl dX4_chosen_34 ?_
  refine lv_aload_n hx hb dX4_chosen_37 rfl (lv_at hl 0 rfl) ?_
  refine pget (C := RX4) (T := TX4) (N := 14) (ci := 4) hc hw inX4_chosen_X4 hO rfl 4 (by decide) lkX4_chosen_f25 rfl rfl dX4_chosen_38 ?_
  refine pzld hc hw hZ1 q hq4 (by omega) (by omega) (v := (sh q)) rfl dX4_chosen_41 ?_
  refine lv_if_eq (tgt := 248) hx hb dX4_chosen_42 (by decide) (fun hs => ?_) (fun hs => ?_)
  · refine lv_iconst (v := 0) hx hb dX4_chosen_248 (by decide) ?_
    refine lv_istore_n (lv' := [(2, .int 0), (0, .ref aS)]) hx hb dX4_chosen_249 rfl hl (by decide) rfl (fun ls hl => ?_)
    refine lpS_chF (v := v) (ak := ak) hc hX hV hq4 hq hg6 hg (Nat.le_trans (by decide) hRf) (Nat.le_trans (by decide) hRl) (by refine ⟨?_, ?_⟩ <;> ((try dsimp only); omega)) hO hA trivial (xn q) 0 (by omega) _ _ ls (fun H locs ls x pc hx2 hw hd => ?_) (lv_sub hl [0, 1] rfl) hw
    refine W.widen (by (try dsimp only); omega) (by (try dsimp only); omega) (kr _ _ H locs ls x pc v ak mp mm (Or.inr (Or.inl ⟨hK, fun z => z.1 hs, hx2.symm, rfl, rfl, rfl, rfl⟩)) ⟨_, _, _, hO, hA⟩ hw hd)
  · refine lv_aload_n hx hb dX4_chosen_45 rfl (lv_at hl 0 rfl) ?_
    refine pget (C := RX4) (T := TX4) (N := 14) (ci := 4) hc hw inX4_chosen_X4 hO rfl 3 (by decide) lkX4_chosen_f22 rfl rfl dX4_chosen_46 ?_
    refine lv_aload_n hx hb dX4_chosen_49 rfl (lv_at hl 0 rfl) ?_
    refine pget (C := RX4) (T := TX4) (N := 14) (ci := 4) hc hw inX4_chosen_X4 hO rfl 4 (by decide) lkX4_chosen_f25 rfl rfl dX4_chosen_50 ?_
    refine pzld hc hw hZ2 q hq4 (by omega) (by omega) (v := (ak q)) rfl dX4_chosen_53 ?_
    refine lv_if_ne (tgt := 248) hx hb dX4_chosen_54 (by decide) (fun ha => ?_) (fun ha => ?_)
    · refine lv_iconst (v := 0) hx hb dX4_chosen_248 (by decide) ?_
      refine lv_istore_n (lv' := [(2, .int 0), (0, .ref aS)]) hx hb dX4_chosen_249 rfl hl (by decide) rfl (fun ls hl => ?_)
      refine lpS_chF (v := v) (ak := ak) hc hX hV hq4 hq hg6 hg (Nat.le_trans (by decide) hRf) (Nat.le_trans (by decide) hRl) (by refine ⟨?_, ?_⟩ <;> ((try dsimp only); omega)) hO hA trivial (xn q) 0 (by omega) _ _ ls (fun H locs ls x pc hx2 hw hd => ?_) (lv_sub hl [0, 1] rfl) hw
      refine W.widen (by (try dsimp only); omega) (by (try dsimp only); omega) (kr _ _ H locs ls x pc v ak mp mm (Or.inr (Or.inl ⟨hK, fun z => ha z.2.1, hx2.symm, rfl, rfl, rfl, rfl⟩)) ⟨_, _, _, hO, hA⟩ hw hd)
    · refine lv_aload_n hx hb dX4_chosen_57 rfl (lv_at hl 0 rfl) ?_
      refine pget (C := RX4) (T := TX4) (N := 14) (ci := 4) hc hw inX4_chosen_X4 hO rfl 5 (by decide) lkX4_chosen_f50 rfl rfl dX4_chosen_58 ?_
      refine lv_if_le (tgt := 248) hx hb dX4_chosen_61 (by decide) (fun hco => ?_) (fun hco => ?_)
      · refine lv_iconst (v := 0) hx hb dX4_chosen_248 (by decide) ?_
        refine lv_istore_n (lv' := [(2, .int 0), (0, .ref aS)]) hx hb dX4_chosen_249 rfl hl (by decide) rfl (fun ls hl => ?_)
        refine lpS_chF (v := v) (ak := ak) hc hX hV hq4 hq hg6 hg (Nat.le_trans (by decide) hRf) (Nat.le_trans (by decide) hRl) (by refine ⟨?_, ?_⟩ <;> ((try dsimp only); omega)) hO hA trivial (xn q) 0 (by omega) _ _ ls (fun H locs ls x pc hx2 hw hd => ?_) (lv_sub hl [0, 1] rfl) hw
        refine W.widen (by (try dsimp only); omega) (by (try dsimp only); omega) (kr _ _ H locs ls x pc v ak mp mm (Or.inr (Or.inl ⟨hK, fun z => absurd z.2.2 (by rw [xltI]; rw [xle] at hco; exact Int.not_lt.mpr hco), hx2.symm, rfl, rfl, rfl, rfl⟩)) ⟨_, _, _, hO, hA⟩ hw hd)
      · refine lv_aload_n hx hb dX4_chosen_64 rfl (lv_at hl 0 rfl) ?_
        refine lv_dup hx hb dX4_chosen_65 rfl ?_
        refine pget (C := RX4) (T := TX4) (N := 14) (ci := 4) hc hw inX4_chosen_X4 hO rfl 5 (by decide) lkX4_chosen_f50 rfl rfl dX4_chosen_66 ?_
        refine lv_iconst (v := 1) hx hb dX4_chosen_69 (by decide) ?_
        refine lv_isub hx hb dX4_chosen_70 ?_
        refine pput (C := RX4) (T := TX4) (N := 14) (ci := 4) (ty := .int) hc hw inX4_chosen_X4 tyX4 tyX4_ok nmX4 hO rfl 5 (by decide) lkX4_chosen_f50 rfl rfl rfl rfl (Nat.le_of_ble_eq_true rfl) [.ref (ad 0), .ref (ad 1), .ref (ad 2), .ref (ad 3), .int (v 4), .int (v 5 - 1), .int (v 6), .ref (ad 4), .ref (ad 5), .int (v 9), .int (v 10), .int (v 11), .int (v 12), .int (v 13)] rfl dX4_chosen_71 (fun f H locs k1 hO1 hw => ?_)
        have hA := hA.obj hO k1
        have hO := hO1
        refine lv_aload_n hx hb dX4_chosen_74 rfl (lv_at hl 0 rfl) ?_
        refine lv_dup hx hb dX4_chosen_75 rfl ?_
        refine pget (C := RX4) (T := TX4) (N := 14) (ci := 4) hc hw inX4_chosen_X4 hO rfl 13 (by decide) lkX4_chosen_f65 rfl rfl dX4_chosen_76 ?_
        refine lv_iconst (v := 1) hx hb dX4_chosen_79 (by decide) ?_
        refine lv_iadd hx hb dX4_chosen_80 ?_
        refine pput (C := RX4) (T := TX4) (N := 14) (ci := 4) (ty := .int) hc hw inX4_chosen_X4 tyX4 tyX4_ok nmX4 hO rfl 13 (by decide) lkX4_chosen_f65 rfl rfl rfl rfl (Nat.le_of_ble_eq_true rfl) [.ref (ad 0), .ref (ad 1), .ref (ad 2), .ref (ad 3), .int (v 4), .int (v 5 - 1), .int (v 6), .ref (ad 4), .ref (ad 5), .int (v 9), .int (v 10), .int (v 11), .int (v 12), .int (v 13 + 1)] rfl dX4_chosen_81 (fun f H locs k1 hO1 hw => ?_)
        have hA := hA.obj hO k1
        have hO := hO1
        obtain ⟨⟨hR1, hR2, hR3⟩, ⟨hE1, hE2⟩, ⟨hZ1, hZ2, hZ3⟩, -⟩ := id hA
        obtain ⟨hx4, ea, he1, he2⟩ := hE2 q hq
        refine lv_aload_n hx hb dX4_chosen_84 rfl (lv_at hl 0 rfl) ?_
        refine pget (C := RX4) (T := TX4) (N := 14) (ci := 4) hc hw inX4_chosen_X4 hO rfl 3 (by decide) lkX4_chosen_f22 rfl rfl dX4_chosen_85 ?_
        refine lv_aload_n hx hb dX4_chosen_88 rfl (lv_at hl 0 rfl) ?_
        refine pget (C := RX4) (T := TX4) (N := 14) (ci := 4) hc hw inX4_chosen_X4 hO rfl 4 (by decide) lkX4_chosen_f25 rfl rfl dX4_chosen_89 ?_
        refine lv_iconst (v := 1) hx hb dX4_chosen_92 (by decide) ?_
        refine pzst hc hw hZ2 q hq4 (by omega) (by omega) rfl dX4_chosen_93 (fun f H locs k1 r1 hw => ?_)
        have hO := hO.kp k1 (hO.neZ hZ2)
        have hA := hA.setAk k1 r1
        have hO : objS L _ aS 4 [.ref (ad 0), .ref (ad 1), .ref (ad 2), .ref (ad 3), .int ((upd (upd v 5 (v 5 - 1)) 13 (v 13 + 1)) 4), .int ((upd (upd v 5 (v 5 - 1)) 13 (v 13 + 1)) 5), .int ((upd (upd v 5 (v 5 - 1)) 13 (v 13 + 1)) 6), .ref (ad 4), .ref (ad 5), .int ((upd (upd v 5 (v 5 - 1)) 13 (v 13 + 1)) 9), .int ((upd (upd v 5 (v 5 - 1)) 13 (v 13 + 1)) 10), .int ((upd (upd v 5 (v 5 - 1)) 13 (v 13 + 1)) 11), .int ((upd (upd v 5 (v 5 - 1)) 13 (v 13 + 1)) 12), .int ((upd (upd v 5 (v 5 - 1)) 13 (v 13 + 1)) 13)] := hO
        obtain ⟨⟨hR1, hR2, hR3⟩, ⟨hE1, hE2⟩, ⟨hZ1, hZ2, hZ3⟩, -⟩ := id hA
        obtain ⟨hx4, ea, he1, he2⟩ := hE2 q hq
        have hq42 : (upd (upd v 5 (v 5 - 1)) 13 (v 13 + 1)) 4 = nI q := hq4
        have hg62 : (upd (upd v 5 (v 5 - 1)) 13 (v 13 + 1)) 6 = nI g := hg6
        have hco2 : 0 < v 5 := by rw [xltI]; rw [xle] at hco; exact Int.not_le.mp hco
        have hask : ¬ sh q = 0 ∧ ak q = 0 ∧ 0 < v 5 := ⟨hs, ha, hco2⟩
        refine lv_iconst (v := (-1)) hx hb dX4_chosen_94 (by decide) ?_
        refine lv_istore_n (lv' := [(2, .int (-1)), (0, .ref aS)]) hx hb dX4_chosen_95 rfl hl (by decide) rfl (fun ls hl => ?_)
        refine lv_sipush (v := 9999) hx hb dX4_chosen_96 (by decide) ?_
        refine lv_istore_n (lv' := [(3, .int 9999), (2, .int (-1)), (0, .ref aS)]) hx hb dX4_chosen_99 rfl hl (by decide) rfl (fun ls hl => ?_)
        refine lv_aload_n hx hb dX4_chosen_100 rfl (lv_at hl 2 rfl) ?_
        refine pget (C := RX4) (T := TX4) (N := 14) (ci := 4) hc hw inX4_chosen_X4 hO rfl 1 (by decide) lkX4_chosen_f15 rfl rfl dX4_chosen_101 ?_
        refine lv_aload_n hx hb dX4_chosen_104 rfl (lv_at hl 2 rfl) ?_
        refine pget (C := RX4) (T := TX4) (N := 14) (ci := 4) hc hw inX4_chosen_X4 hO rfl 4 (by decide) lkX4_chosen_f25 rfl rfl dX4_chosen_105 ?_
        refine pald hc hw hE1 q hq42 hq (by omega) (v := .ref ea) (by rw [he1]; rfl) dX4_chosen_108 ?_
        refine plenI hc hw he2 dX4_chosen_109 ?_
        refine lv_iconst (v := 1) hx hb dX4_chosen_110 (by decide) ?_
        refine lv_isub hx hb dX4_chosen_111 ?_
        refine lv_istore (lv' := [(4, .int ((nI (xn q)) - 1)), (3, .int 9999), (2, .int (-1)), (0, .ref aS)]) hx hb dX4_chosen_112 hl (by decide) rfl (fun ls hl => ?_)
        refine lpS_chB (v := (upd (upd v 5 (v 5 - 1)) 13 (v 13 + 1))) (ak := (upd ak q 1)) (cells := cells) (slots := slots) hc hX hV hq42 hq hg62 hg (Nat.le_trans (by decide) hRf) (Nat.le_trans (by decide) hRl) (by refine ⟨?_, ?_⟩ <;> ((try dsimp only); omega)) hx4 (fun L1 f1 H locs ls hO hA k2 hl hw => ?_) (xn q) 0 (by omega) _ _ _ _ ls hO hA pk.rf hl hw
        refine lv_iload_n hx hb dX4_chosen_205 rfl (lv_at hl 1 rfl) ?_
        refine lv_if_lt (tgt := 234) hx hb dX4_chosen_206 (by decide) (fun hz => ?_) (fun hz => ?_)
        · refine lv_iload_n hx hb dX4_chosen_234 rfl (lv_at hl 1 rfl) ?_
          refine lv_if_lt (tgt := 248) hx hb dX4_chosen_235 (by decide) (fun hz2 => ?_) (fun h => absurd hz h)
          refine lv_iconst (v := 0) hx hb dX4_chosen_248 (by decide) ?_
          refine lv_istore_n (lv' := [(2, .int 0), (3, .int ((sBst (sIts n xr nr rw q (nI g)) (xn q) (xn q)).2)), (0, .ref aS)]) hx hb dX4_chosen_249 rfl hl (by decide) rfl (fun ls hl => ?_)
          refine lpS_chF (v := (upd (upd v 5 (v 5 - 1)) 13 (v 13 + 1))) (ak := (upd ak q 1)) hc hX hV hq42 hq hg62 hg (Nat.le_trans (by decide) hRf) (Nat.le_trans (by decide) hRl) (by refine ⟨?_, ?_⟩ <;> ((try dsimp only); omega)) hO hA trivial (xn q) 0 (by omega) _ _ ls (fun H locs ls x pc hx2 hw hd => ?_) (lv_sub hl [0, 2] rfl) hw
          refine W.widen (by (try dsimp only); omega) (by (try dsimp only); omega) (kr _ _ H locs ls x pc (upd (upd v 5 (v 5 - 1)) 13 (v 13 + 1)) (upd ak q 1) mp mm (Or.inr (Or.inr ⟨hK, hask, rfl, rfl, Or.inl ⟨hz, hx2.symm, rfl, rfl⟩⟩)) ⟨_, _, _, hO, hA⟩ hw hd)
        · obtain ⟨xb, hxb, hxb2⟩ : ∃ x, (sBst (sIts n xr nr rw q (nI g)) (xn q) (xn q)).1 = nI x ∧ x < xn q := (by
            rcases sBst_in (sIts n xr nr rw q (nI g)) (xn q) (xn q) (Nat.le_refl _) with h | h
            · exact absurd (by rw [h]; decide) hz
            · exact h)
          obtain ⟨-, -, -, -, hM, -⟩ := id hA
          obtain ⟨hM1, hM2, hM3⟩ := hM
          obtain ⟨ga, hga1, hga2, hga3⟩ := hM3 g (by omega)
          have hA0z := hA
          refine lv_aload_n hx hb dX4_chosen_209 rfl (lv_at hl 2 rfl) ?_
          refine pget (C := RX4) (T := TX4) (N := 14) (ci := 4) hc hw inX4_chosen_X4 hO rfl 8 (by decide) lkX4_chosen_f37 rfl rfl dX4_chosen_210 ?_
          refine lv_aload_n hx hb dX4_chosen_213 rfl (lv_at hl 2 rfl) ?_
          refine pget (C := RX4) (T := TX4) (N := 14) (ci := 4) hc hw inX4_chosen_X4 hO rfl 6 (by decide) lkX4_chosen_f29 rfl rfl dX4_chosen_214 ?_
          refine pbld hc hw hM1 g hg62 (by omega) (by omega) (v := .ref ga) (by rw [hga1]; rfl) dX4_chosen_217 ?_
          refine lv_aload_n hx hb dX4_chosen_218 rfl (lv_at hl 2 rfl) ?_
          refine pget (C := RX4) (T := TX4) (N := 14) (ci := 4) hc hw inX4_chosen_X4 hO rfl 4 (by decide) lkX4_chosen_f25 rfl rfl dX4_chosen_219 ?_
          refine lv_iconst (v := 2) hx hb dX4_chosen_222 (by decide) ?_
          refine pnewI hc hw 2 rfl (by omega) lkX4_chosen_aI (by first | exact Nat.le_of_ble_eq_true rfl | ((try dsimp only); omega)) (by first | exact Nat.le_of_ble_eq_true rfl | ((try dsimp only); omega)) dX4_chosen_223 (fun z L2 f2 H hzn k3 r3 hw => ?_)
          have hO := hO.kp k3 (fun z => z)
          have hA := hA.fresh k3
          have hga2 := hga2.kp k3 (fun z => z)
          refine lv_dup hx hb dX4_chosen_225 rfl ?_
          refine lv_iconst (v := 0) hx hb dX4_chosen_226 (by decide) ?_
          refine lv_iload_n hx hb dX4_chosen_227 rfl (lv_at hl 1 rfl) ?_
          refine pist hc hw r3 0 rfl (by decide) (by omega) dX4_chosen_228 (fun f H locs k4 r4 hw => ?_)
          have kz := k4
          refine lv_dup hx hb dX4_chosen_229 rfl ?_
          refine lv_iconst (v := 1) hx hb dX4_chosen_230 (by decide) ?_
          refine lv_iconst (v := 3) hx hb dX4_chosen_231 (by decide) ?_
          refine pist hc hw r4 1 rfl (by decide) (by omega) dX4_chosen_232 (fun f H locs k5 r5 hw => ?_)
          have kz2 := kz.tr k5
          have hOz := hO.kp kz2 (hO.neI r3)
          have hga2 := hga2.kp kz2 (fun w => (r3.neA hga2) w.symm)
          have hA := hA0z.fresh (k3.off hzn kz2)
          have hO := hOz
          refine past hc hw hga2 q hq42 (by omega) (by omega) r5 dX4_chosen_233 (fun f H locs k6 r6 hw => ?_)
          have hO := hO.kp k6 (hO.neA hga2)
          have hA := hA.setM (g := g) (p := q) (b1 := true) (g1 := upd (upd (fun _ => 0) 0 ((sBst (sIts n xr nr rw q (nI g)) (xn q) (xn q)).1)) 1 3) (by omega) hga1 k6 r6 (Or.inr ⟨rfl, z, rfl, r5⟩)
          have hV2 : sVd n xn v wl wy (va_up mp g (va_up (mp g) q true)) (va_up mm g (va_up (mm g) q (upd (upd (fun _ => 0) 0 ((sBst (sIts n xr nr rw q (nI g)) (xn q) (xn q)).1)) 1 3))) := (by
            refine ⟨fun g' q' h1 h2 h3 => ?_, hV.2⟩
            by_cases c1 : g' = g
            · subst c1
              rw [va_up_self] at h3 ⊢
              by_cases c2 : q' = q
              · subst c2
                rw [va_up_self]
                exact ⟨xb, hxb, hxb2⟩
              · rw [va_up_ne _ _ c2] at h3 ⊢
                exact hV.1 g' q' h1 h2 h3
            · rw [va_up_ne _ _ c1] at h3 ⊢
              exact hV.1 g' q' h1 h2 h3)
          refine lv_iload_n hx hb dX4_chosen_234 rfl (lv_at hl 1 rfl) ?_
          refine lv_if_lt (tgt := 248) hx hb dX4_chosen_235 (by decide) (fun h => absurd h hz) (fun hz2 => ?_)
          refine lv_aload_n hx hb dX4_chosen_238 rfl (lv_at hl 2 rfl) ?_
          refine lv_iload_n hx hb dX4_chosen_239 rfl (lv_at hl 1 rfl) ?_
          rw [hxb]
          refine pcall_i hc hw (prunV (n := 1) (As := [.int (nI xb)]) (rest := []) hc hw (metS_isFree l G _ _ _ aS (upd (upd v 5 (v 5 - 1)) 13 (v 13 + 1)) n xn xr nr rw _ _ _ _ _ _ ⟨_, _, _, hO, hA⟩ hX q xb ⟨hq42, hq⟩ hxb2) gX4_chosen_X4_isFree rfl (by decide +kernel) ⟨by (try dsimp only); omega, by (try dsimp only); omega⟩ hO rfl rfl rfl hl.1 (Nat.le_of_ble_eq_true rfl) dX4_chosen_240 ⟨by (try dsimp only); omega, by (try dsimp only); omega⟩) (fun y L9 f9 H locs hp hw => ?_)
          obtain ⟨hey, eu⟩ := hp
          obtain ⟨eL, ef⟩ := Prod.mk.inj eu
          rw [eL, ef] at hw
          refine lv_if_eq (tgt := 248) hx hb dX4_chosen_243 (by decide) (fun hf => ?_) (fun hf => ?_)
          · refine lv_iconst (v := 0) hx hb dX4_chosen_248 (by decide) ?_
            refine lv_istore_n (lv' := [(2, .int 0), (3, .int ((sBst (sIts n xr nr rw q (nI g)) (xn q) (xn q)).2)), (0, .ref aS)]) hx hb dX4_chosen_249 rfl hl (by decide) rfl (fun ls hl => ?_)
            refine lpS_chF (v := (upd (upd v 5 (v 5 - 1)) 13 (v 13 + 1))) (ak := (upd ak q 1)) hc hX hV2 hq42 hq hg62 hg (Nat.le_trans (by decide) hRf) (Nat.le_trans (by decide) hRl) (by refine ⟨?_, ?_⟩ <;> ((try dsimp only); omega)) hO hA trivial (xn q) 0 (by omega) _ _ ls (fun H locs ls x pc hx2 hw hd => ?_) (lv_sub hl [0, 2] rfl) hw
            refine W.widen (by (try dsimp only); omega) (by (try dsimp only); omega) (kr _ _ H locs ls x pc (upd (upd v 5 (v 5 - 1)) 13 (v 13 + 1)) (upd ak q 1) (va_up mp g (va_up (mp g) q true)) (va_up mm g (va_up (mm g) q (upd (upd (fun _ => 0) 0 ((sBst (sIts n xr nr rw q (nI g)) (xn q) (xn q)).1)) 1 3))) (Or.inr (Or.inr ⟨hK, hask, rfl, rfl, Or.inr ⟨hz, rfl, rfl, by rw [hxb, nI_clamp (by omega), if_pos (by rw [← hey]; exact hf)]; exact hx2.symm⟩⟩)) ⟨_, _, _, hO, hA⟩ hw hd)
          · refine lv_iload_n hx hb dX4_chosen_246 rfl (lv_at hl 1 rfl) ?_
            refine W.widen (by (try dsimp only); omega) (by (try dsimp only); omega) (kr _ _ _ _ ls _ 247 (upd (upd v 5 (v 5 - 1)) 13 (v 13 + 1)) (upd ak q 1) (va_up mp g (va_up (mp g) q true)) (va_up mm g (va_up (mm g) q (upd (upd (fun _ => 0) 0 ((sBst (sIts n xr nr rw q (nI g)) (xn q) (xn q)).1)) 1 3))) (Or.inr (Or.inr ⟨hK, hask, rfl, rfl, Or.inr ⟨hz, rfl, rfl, by rw [if_neg (by rw [hxb, nI_clamp (by omega), ← hey]; exact hf)]⟩⟩)) ⟨_, _, _, hO, hA⟩ hw dX4_chosen_247)
set_option maxHeartbeats 40000000 in
set_option maxRecDepth 100000 in
theorem metS_chosen (l : Launch) (G : xG) (sz : Nat) (L : List Nat) (f : Nat → va_E) (aS : Nat) (v : Nat → Int32) (n : Nat) (xn : Nat → Nat) (xr : Nat → Nat → Int32) (nr : Nat) (rw : Nat → Nat → Int32) (sh ak : Nat → Int32) (wl : Nat) (wy : Nat → Nat → Int32) (mp : Nat → Nat → Bool) (mm : Nat → Nat → Nat → Int32) (q g : Nat) (S : Sh G L f aS v n xn xr nr rw sh ak wl wy mp mm) (hX : sX n xn xr nr rw) (hV : sVd n xn v wl wy mp mm) (hq4 : v 4 = nI q) (hq : q < n) (hg6 : v 6 = nI g) (hg : g < n) (hsh : ∀ k, k < 10 → sh k = 0 ∨ sh k = 1) : pMi l yX4_chosen wsX4_chosen ⟨3, 5, 42, 80⟩ G [.ref aS] L f sz (fun r u => ∃ (v2 ak2 : Nat → Int32) (mp2 : Nat → Nat → Bool) (mm2 : Nat → Nat → Nat → Int32), sChR v n xn xr nr rw sh ak mp mm q g r v2 ak2 mp2 mm2 ∧ Sh G u.1 u.2 aS v2 n xn xr nr rw sh ak2 wl wy mp2 mm2) := by
  obtain ⟨ad, oo, om, hO, hA⟩ := S
  have hO : objS L f aS 4 [.ref (ad 0), .ref (ad 1), .ref (ad 2), .ref (ad 3), .int (v 4), .int (v 5), .int (v 6), .ref (ad 4), .ref (ad 5), .int (v 9), .int (v 10), .int (v 11), .int (v 12), .int (v 13)] := hO
  refine xof (own := RX4) (cc := cX4_chosen) (maxL := 7) (ret := (some .int)) rfl (by decide) rfl (Nat.le_of_ble_eq_true rfl) ?_
  intro pg en s mi below meth cd hc hnm hw ls hl
  obtain ⟨hx, hb, -, hown, hts, -⟩ := id hc
  have hl : lv_has ls 7 [(0, .ref aS)] := hl
  have hw : xW G _ s.heap (([] : va_W) ++ va_pl L f) s.heap [] := hw
  have hn10 : n ≤ 10 := hX.1
  obtain ⟨-, -, -, -, ⟨hM1, hM2, hM3⟩, -⟩ := id hA
  obtain ⟨ga, hga1, hga2, hga3⟩ := hM3 g (by omega)
  refine lv_aload_n hx hb dX4_chosen_0 rfl (lv_at hl 0 rfl) ?_
  refine pget (C := RX4) (T := TX4) (N := 14) (ci := 4) hc hw inX4_chosen_X4 hO rfl 8 (by decide) lkX4_chosen_f37 rfl rfl dX4_chosen_1 ?_
  refine lv_aload_n hx hb dX4_chosen_4 rfl (lv_at hl 0 rfl) ?_
  refine pget (C := RX4) (T := TX4) (N := 14) (ci := 4) hc hw inX4_chosen_X4 hO rfl 6 (by decide) lkX4_chosen_f29 rfl rfl dX4_chosen_5 ?_
  refine pbld hc hw hM1 g hg6 (by omega) (by omega) (v := .ref ga) (by rw [hga1]; rfl) dX4_chosen_8 ?_
  refine lv_aload_n hx hb dX4_chosen_9 rfl (lv_at hl 0 rfl) ?_
  refine pget (C := RX4) (T := TX4) (N := 14) (ci := 4) hc hw inX4_chosen_X4 hO rfl 4 (by decide) lkX4_chosen_f25 rfl rfl dX4_chosen_10 ?_
  rcases hga3 q (by omega) with ⟨hn1, hn2⟩ | ⟨hn2, b, hn1, hn3⟩
  · refine pald hc hw hga2 q hq4 (by omega) (by omega) (v := .null) (by rw [hn1]; rfl) dX4_chosen_13 ?_
    refine lv_astore_nN (lv' := [(1, .null), (0, .ref aS)]) hx hb dX4_chosen_14 rfl hl (by decide) rfl (fun ls hl => ?_)
    refine lv_aload_nN hx hb dX4_chosen_15 rfl (lv_at hl 0 rfl) ?_
    refine lv_ifnullN (tgt := 33) hx hb dX4_chosen_16 (by decide) ?_
    exact lpS_chT (cells := 0) (slots := 0) hc hX hV hq4 hq hg6 hg (Nat.le_of_ble_eq_true rfl) (Nat.le_of_ble_eq_true rfl) ⟨Nat.le_of_ble_eq_true rfl, Nat.le_of_ble_eq_true rfl⟩ hsh hO hA (fun z => by rw [hn2] at z; exact absurd z.1 (by decide)) (fun L f H locs ls r pc v2 ak2 mp2 mm2 h1 h2 hw hd => pret_i hc hw ⟨v2, ak2, mp2, mm2, h1, h2⟩ ⟨Nat.le_of_ble_eq_true rfl, Nat.le_of_ble_eq_true rfl⟩ hd) (lv_sub hl [1] rfl) hw
  · obtain ⟨x, hx0, hx1⟩ := hV.1 g q (by omega) hq hn2
    refine pald hc hw hga2 q hq4 (by omega) (by omega) (v := .ref b) (by rw [hn1]; rfl) dX4_chosen_13 ?_
    have hx4 := (hA.2.1.2 q hq).1
    refine lv_astore_n (lv' := [(1, .ref b), (0, .ref aS)]) hx hb dX4_chosen_14 rfl hl (by decide) rfl (fun ls hl => ?_)
    refine lv_aload_n hx hb dX4_chosen_15 rfl (lv_at hl 0 rfl) ?_
    refine lv_ifnull hx hb dX4_chosen_16 ?_
    refine lv_aload_n hx hb dX4_chosen_19 rfl (lv_at hl 1 rfl) ?_
    refine lv_aload_n hx hb dX4_chosen_20 rfl (lv_at hl 0 rfl) ?_
    refine lv_iconst (v := 0) hx hb dX4_chosen_21 (by decide) ?_
    refine pild hc hw hn3 0 rfl (by decide) (by omega) (v := (nI x)) hx0 dX4_chosen_22 ?_
    refine pcall_i hc hw (prunV (n := 1) (As := [.int (nI x)]) (rest := []) hc hw (metS_isFree l G _ _ _ aS v n xn xr nr rw _ _ _ _ _ _ ⟨_, _, _, hO, hA⟩ hX q x ⟨hq4, hq⟩ hx1) gX4_chosen_X4_isFree rfl (by decide +kernel) ⟨Nat.le_of_ble_eq_true rfl, Nat.le_of_ble_eq_true rfl⟩ hO rfl rfl rfl hl.1 (Nat.le_of_ble_eq_true rfl) dX4_chosen_23 (by first | exact ⟨Nat.le_of_ble_eq_true rfl, Nat.le_of_ble_eq_true rfl⟩ | (refine ⟨?_, ?_⟩ <;> ((try dsimp only); omega)))) (fun y L9 f9 H locs hp hw => ?_)
    obtain ⟨hey, eu⟩ := hp
    obtain ⟨eL, ef⟩ := Prod.mk.inj eu
    rw [eL, ef] at hw
    refine lv_if_eq (tgt := 33) hx hb dX4_chosen_26 (by decide) (fun hz => ?_) (fun hz => ?_)
    · exact lpS_chT (cells := 0) (slots := 0) hc hX hV hq4 hq hg6 hg (Nat.le_of_ble_eq_true rfl) (Nat.le_of_ble_eq_true rfl) ⟨Nat.le_of_ble_eq_true rfl, Nat.le_of_ble_eq_true rfl⟩ hsh hO hA (fun z => z.2 (by rw [hx0, nI_clamp (by omega), ← hey]; exact hz)) (fun L f H locs ls r pc v2 ak2 mp2 mm2 h1 h2 hw hd => pret_i hc hw ⟨v2, ak2, mp2, mm2, h1, h2⟩ ⟨Nat.le_of_ble_eq_true rfl, Nat.le_of_ble_eq_true rfl⟩ hd) (lv_sub hl [1] rfl) hw
    · refine lv_aload_n hx hb dX4_chosen_29 rfl (lv_at hl 0 rfl) ?_
      refine lv_iconst (v := 0) hx hb dX4_chosen_30 (by decide) ?_
      refine pild hc hw hn3 0 rfl (by decide) (by omega) (v := (mm g q 0)) rfl dX4_chosen_31 ?_
      exact pret_i hc hw ⟨v, ak, mp, mm, Or.inl ⟨⟨hn2, by rw [hx0, nI_clamp (by omega), ← hey]; exact hz⟩, rfl, rfl, rfl, rfl, rfl⟩, _, _, _, hO, hA⟩ ⟨Nat.le_of_ble_eq_true rfl, Nat.le_of_ble_eq_true rfl⟩ dX4_chosen_32
end
section
theorem inX4_step_X4 : ∀ w ∈ u_ws RX4 TX4 14, w ∈ wsX4_step := fun _ h => List.mem_cons_of_mem _ (List.mem_append_right _ h)
theorem lkX4_step_f32 : Cond.fieldLink RX4 32 "MapCarrierLaw$Sim" "way" "[[I" ∈ wsX4_step := List.mem_of_getElem? (i := 4) (by decide +kernel)
theorem lkX4_step_f37 : Cond.fieldLink RX4 37 "MapCarrierLaw$Sim" "memory" "[[[I" ∈ wsX4_step := List.mem_of_getElem? (i := 11) (by decide +kernel)
theorem lkX4_step_f29 : Cond.fieldLink RX4 29 "MapCarrierLaw$Sim" "goal" "I" ∈ wsX4_step := List.mem_of_getElem? (i := 10) (by decide +kernel)
theorem lkX4_step_aI : Cond.arrayClass .int ∈ wsX4_step := List.mem_of_getElem? (i := 5) (by decide +kernel)
theorem lkX4_step_m76 : Cond.methodLink RX4 76 Lib.Math.min.name ∈ wsX4_step := List.mem_of_getElem? (i := 12) (by decide +kernel)
theorem lkX4_step_msmin : Cond.static Lib.Math.min.name ∈ wsX4_step := List.mem_of_getElem? (i := 13) (by decide +kernel)
theorem lkX4_step_mi : Cond.initialized "java/lang/Math" ∈ wsX4_step := List.mem_of_getElem? (i := 14) (by decide +kernel)
theorem lkX4_step_mcmin : Cond.code Lib.Math.min.name Lib.Math.min.code 2 (some .int) ∈ wsX4_step := List.mem_of_getElem? (i := 15) (by decide +kernel)
theorem lkX4_step_f25 : Cond.fieldLink RX4 25 "MapCarrierLaw$Sim" "where" "I" ∈ wsX4_step := List.mem_of_getElem? (i := 3) (by decide +kernel)
theorem lkX4_step_f59 : Cond.fieldLink RX4 59 "MapCarrierLaw$Sim" "done" "I" ∈ wsX4_step := List.mem_of_getElem? (i := 16) (by decide +kernel)
theorem lkX4_step_c7 : Cond.classLink RX4 7 "[I" ∈ wsX4_step := List.mem_of_getElem? (i := 8) (by decide +kernel)
theorem lkX4_step_f9 : Cond.fieldLink RX4 9 "MapCarrierLaw$Sim" "roads" "[[I" ∈ wsX4_step := List.mem_of_getElem? (i := 1) (by decide +kernel)
theorem lkX4_step_f15 : Cond.fieldLink RX4 15 "MapCarrierLaw$Sim" "exits" "[[I" ∈ wsX4_step := List.mem_of_getElem? (i := 2) (by decide +kernel)
theorem lkX4_step_f53 : Cond.fieldLink RX4 53 "MapCarrierLaw$Sim" "walked" "I" ∈ wsX4_step := List.mem_of_getElem? (i := 6) (by decide +kernel)
theorem lkX4_step_f56 : Cond.fieldLink RX4 56 "MapCarrierLaw$Sim" "doubled" "I" ∈ wsX4_step := List.mem_of_getElem? (i := 9) (by decide +kernel)
theorem lkX4_step_f62 : Cond.fieldLink RX4 62 "MapCarrierLaw$Sim" "vain" "I" ∈ wsX4_step := List.mem_of_getElem? (i := 7) (by decide +kernel)
/-! the second carrier: a step, and steps -/
def sL3 (mp : Bool) (m0 m1 x : Int32) : Int32 := if mp = true ∧ m0 = x then sMin 9 (m1 + 3) else 3
/-- what is remembered of a way's first k exits, for a goal -/
def sLp (wy : Nat → Nat → Int32) (g : Nat) (mp : Nat → Nat → Bool) : Nat → Nat → Nat → Bool
  | 0 => mp
  | k + 1 => va_up (sLp wy g mp k) g (va_up (sLp wy g mp k g) (wy k 0).toNatClampNeg true)
def sLm (wy : Nat → Nat → Int32) (g : Nat) (mp : Nat → Nat → Bool) (mm : Nat → Nat → Nat → Int32) : Nat → Nat → Nat → Nat → Int32
  | 0 => mm
  | k + 1 => va_up (sLm wy g mp mm k) g (va_up (sLm wy g mp mm k g) (wy k 0).toNatClampNeg (upd (upd (fun _ => 0) 0 (wy k 1)) 1 (sL3 (sLp wy g mp k g (wy k 0).toNatClampNeg) (sLm wy g mp mm k g (wy k 0).toNatClampNeg 0) (sLm wy g mp mm k g (wy k 0).toNatClampNeg 1) (wy k 1))))
def sWy (wy : Nat → Nat → Int32) (k q x : Nat) : Nat → Nat → Int32 := va_up wy k (upd (upd (fun _ => 0) 0 (nI q)) 1 (nI x))
/-- what a step does behind the choice: where it is then, before the goal is looked at -/
def sMv (v : Nat → Int32) (xr rw : Nat → Nat → Int32) (wl : Nat) (wy : Nat → Nat → Int32) (q : Nat) (r : Int32) (v' : Nat → Int32) (rw' : Nat → Nat → Int32) (wl' : Nat) (wy' : Nat → Nat → Int32) : Prop :=
  (∃ x, r = nI x ∧ rw' = va_up rw (xr q x).toNatClampNeg (upd (rw (xr q x).toNatClampNeg) 4 1) ∧ wl' = wl + 1 ∧ wy' = sWy wy wl q x ∧ v' = upd (upd v 4 (sTo rw xr q x)) 9 (v 9 + rw (xr q x).toNatClampNeg 2)) ∨
  (r < 0 ∧ 0 < wl ∧ rw' = rw ∧ wl' = wl - 1 ∧ wy' = wy ∧ ∃ mi, mi = rw (xr (wy (wl - 1) 0).toNatClampNeg (wy (wl - 1) 1).toNatClampNeg).toNatClampNeg 2 ∧ v' = upd (upd (upd v 4 (wy (wl - 1) 0)) 9 (v 9 + mi)) 10 (v 10 + mi))
/-- a step: the answer, and what is changed -/
def sStR (v : Nat → Int32) (n : Nat) (xn : Nat → Nat) (xr : Nat → Nat → Int32) (nr : Nat) (rw : Nat → Nat → Int32) (sh ak : Nat → Int32) (wl : Nat) (wy : Nat → Nat → Int32) (mp : Nat → Nat → Bool) (mm : Nat → Nat → Nat → Int32) (q g : Nat) (b : Int32) (v' : Nat → Int32) (rw' : Nat → Nat → Int32) (ak' : Nat → Int32) (wl' : Nat) (wy' : Nat → Nat → Int32) (mp' : Nat → Nat → Bool) (mm' : Nat → Nat → Nat → Int32) : Prop :=
  ∃ (r : Int32) (v1 ak1 : Nat → Int32) (mp1 : Nat → Nat → Bool) (mm1 : Nat → Nat → Nat → Int32), sChR v n xn xr nr rw sh ak mp mm q g r v1 ak1 mp1 mm1 ∧
    ((r < 0 ∧ wl = 0 ∧ b = 0 ∧ v' = upd (upd v1 12 (v1 12 + 1)) 6 (-1) ∧ rw' = sOv rw nr ∧ ak' = (fun _ => 0) ∧ wl' = 0 ∧ wy' = wy ∧ mp' = mp1 ∧ mm' = mm1) ∨
     ∃ (v2 : Nat → Int32) (rw2 : Nat → Nat → Int32) (wl2 : Nat) (wy2 : Nat → Nat → Int32), sMv v1 xr rw wl wy q r v2 rw2 wl2 wy2 ∧ b = 1 ∧
      ((¬ v2 4 = v2 6 ∧ v' = v2 ∧ rw' = rw2 ∧ ak' = ak1 ∧ wl' = wl2 ∧ wy' = wy2 ∧ mp' = mp1 ∧ mm' = mm1) ∨
       (v2 4 = v2 6 ∧ v' = upd (upd v2 11 (v2 11 + 1)) 6 (-1) ∧ rw' = sOv rw2 nr ∧ ak' = (fun _ => 0) ∧ wl' = 0 ∧ wy' = wy2 ∧ mp' = sLp wy2 g mp1 wl2 ∧ mm' = sLm wy2 g mp1 mm1 wl2)))
set_option maxHeartbeats 40000000 in
set_option maxRecDepth 100000 in
theorem lpS_stD {p : Program} {l : Launch} {e : Env} {R : Room} {s : State} {m : MethodId} {args : Array Value} {below : List Frame} {meth : Method} {c : Code} {cells slots : Nat} {Q : State → Prop} {ret : Option FieldType} {G : xG} {A : Nat → Prop} (hc : xC p s m args meth c cX4_step 7 RX4 wsX4_step ret G A) {aS : Nat} {ad : Nat → Nat} {oo : Nat → Nat → Option Nat} {v : Nat → Int32} {n : Nat} {xn : Nat → Nat} {xr : Nat → Nat → Int32} {nr : Nat} {rw : Nat → Nat → Int32} {sh ak : Nat → Int32} {wl : Nat} {wy : Nat → Nat → Int32} {mp : Nat → Nat → Bool} {mm : Nat → Nat → Nat → Int32} {om : Nat → Nat → Option Nat} {L : List Nat} {f0 : Nat → va_E} {r b t : Nat} (ht : t < wl) (hwl : wl ≤ 20) (hne : ¬ ad 0 = r ∧ ¬ ad 1 = r ∧ ¬ ad 4 = r ∧ ¬ ad 5 = r ∧ ∀ g a, g < 10 → oo 3 g = some a → ¬ a = r)
    (kx : ∀ (f : Nat → va_E) (H : Heap) (locs : List Loc) (ls : Array Slot) (o1 : Nat → Option Nat), objS L f aS 4 [.ref (ad 0), .ref (ad 1), .ref (ad 2), .ref (ad 3), .int (v 4), .int (v 5), .int (v 6), .ref (ad 4), .ref (ad 5), .int (v 9), .int (v 10), .int (v 11), .int (v 12), .int (v 13)] → ShA G L f ad oo om n xn xr nr rw sh ak wl wy mp mm → rowA G L f r t o1 → (∀ j, j < t → o1 j = oo 2 j) → pk (fun x => x = r) L f0 L f → lv_has ls 7 [(3, .ref r), (2, .ref b), (0, .ref aS)] → xW G A s.heap (([] : va_W) ++ va_pl L f) H locs → W p l e R s m args below meth c H locs cells slots Q (F0 m 158 ls [])) :
    ∀ (d i : Nat), i + d = t → ∀ (f : Nat → va_E) (H : Heap) (locs : List Loc) (ls : Array Slot), objS L f aS 4 [.ref (ad 0), .ref (ad 1), .ref (ad 2), .ref (ad 3), .int (v 4), .int (v 5), .int (v 6), .ref (ad 4), .ref (ad 5), .int (v 9), .int (v 10), .int (v 11), .int (v 12), .int (v 13)] → ShA G L f ad oo om n xn xr nr rw sh ak wl wy mp mm → (∃ o1, rowA G L f r t o1 ∧ ∀ j, j < i → o1 j = oo 2 j) → pk (fun x => x = r) L f0 L f → lv_has ls 7 [(4, .int (nI i)), (3, .ref r), (2, .ref b), (0, .ref aS)] → xW G A s.heap (([] : va_W) ++ va_pl L f) H locs → W p l e R s m args below meth c H locs cells slots Q (F0 m 134 ls []) := by
  obtain ⟨hx, hb, -, hown, hts, -⟩ := id hc
  intro d
  induction d with
  | zero =>
    intro i hd f H locs ls hO hA hr k0 hl hw
    obtain ⟨o1, r1, r2⟩ := hr
    refine lv_iload hx hb dX4_step_134 (lv_at hl 0 rfl) ?_
    refine lv_aload_n hx hb dX4_step_136 rfl (lv_at hl 1 rfl) ?_
    refine plenA hc hw r1 dX4_step_137 ?_
    refine lv_icmp_ge (tgt := 158) hx hb dX4_step_138 (by decide) (fun hz => ?_) (fun h => absurd (nI_le (by omega) (by omega)) h)
    exact kx f H locs ls o1 hO hA r1 (fun j hj => r2 j (by omega)) k0 (lv_sub hl [1, 2, 3] rfl) hw
  | succ d ih =>
    intro i hd f H locs ls hO hA hr k0 hl hw
    obtain ⟨o1, r1, r2⟩ := hr
    obtain ⟨-, -, -, ⟨hW1, hW2⟩, -⟩ := id hA
    obtain ⟨y, hy1, hy2⟩ := hW2 i (by omega)
    refine lv_iload hx hb dX4_step_134 (lv_at hl 0 rfl) ?_
    refine lv_aload_n hx hb dX4_step_136 rfl (lv_at hl 1 rfl) ?_
    refine plenA hc hw r1 dX4_step_137 ?_
    refine lv_icmp_ge (tgt := 158) hx hb dX4_step_138 (by decide) (fun h => absurd h (nI_ge (by omega) (by omega))) (fun hz => ?_)
    refine lv_aload_n hx hb dX4_step_141 rfl (lv_at hl 1 rfl) ?_
    refine lv_iload hx hb dX4_step_142 (lv_at hl 0 rfl) ?_
    refine lv_aload_n hx hb dX4_step_144 rfl (lv_at hl 3 rfl) ?_
    refine pget (C := RX4) (T := TX4) (N := 14) (ci := 4) hc hw inX4_step_X4 hO rfl 7 (by decide) lkX4_step_f32 rfl rfl dX4_step_145 ?_
    refine lv_iload hx hb dX4_step_148 (lv_at hl 0 rfl) ?_
    refine pald hc hw hW1 i rfl (by omega) (by omega) (v := .ref y) (by rw [hy1]; rfl) dX4_step_150 ?_
    refine past hc hw r1 i rfl (by omega) (by omega) hy2 dX4_step_151 (fun f H locs k r9 hw => ?_)
    refine lv_iinc (v := nI (i + 1)) (lv' := [(4, .int (nI (i + 1))), (3, .ref r), (2, .ref b), (0, .ref aS)]) hx hb dX4_step_152 hl (k := 0) rfl (nI_1 _) (by decide) rfl (fun ls hl => ?_)
    refine lv_goto (tgt := 134) hx hb dX4_step_155 (by decide) ?_
    refine ih (i + 1) (by omega) f H locs ls (hO.kp k (hO.neA r1)) ?_ ⟨_, r9, fun j hj => ?_⟩ (k0.tr k) hl hw
    · obtain ⟨h1, h2, h3, h4, h5, h6⟩ := hA
      have hS : ∀ a m g, m < 5 → rowI G L _ a m g → ¬ a = r := fun a m g _ q => q.neA r1
      refine ⟨h1.kp k hne.1 (fun k' a hk' e' => ?_), h2.kp k hne.2.1 hS, h3.kp k (h3.1.neA r1) (h3.2.1.neA r1), h4.kp k hne.2.2.1 hS, h5.kp k hne.2.2.2.1 hS hne.2.2.2.2, h6⟩
      obtain ⟨a', e2, q⟩ := h1.2.1 k' hk'
      cases e'.symm.trans e2
      exact q.neA r1
    · by_cases ej : j = i
      · subst ej; rw [va_up_self, hy1]
      · rw [va_up_ne _ _ ej]; exact r2 j (by omega)
set_option maxHeartbeats 40000000 in
set_option maxRecDepth 100000 in
theorem lpS_stL {p : Program} {l : Launch} {e : Env} {R : Room} {s : State} {m : MethodId} {args : Array Value} {below : List Frame} {meth : Method} {c : Code} {cells slots : Nat} {Q : State → Prop} {ret : Option FieldType} {G : xG} {A : Nat → Prop} (hc : xC p s m args meth c cX4_step 7 RX4 wsX4_step ret G A) {aS : Nat} {ad : Nat → Nat} {oo : Nat → Nat → Option Nat} {v : Nat → Int32} {n : Nat} {xn : Nat → Nat} {xr : Nat → Nat → Int32} {nr : Nat} {rw : Nat → Nat → Int32} {sh ak : Nat → Int32} {wl : Nat} {wy : Nat → Nat → Int32} {mp : Nat → Nat → Bool} {mm : Nat → Nat → Nat → Int32} {g : Nat} (hg6 : v 6 = nI g) (hg : g < 10) (hn10 : n ≤ 10) (hwl : wl ≤ 21) (hwv : ∀ k, k < wl → ∃ q x, wy k 0 = nI q ∧ q < n ∧ wy k 1 = nI x ∧ x < xn q) (hRf : 3 ≤ R.frames) (hRl : 80 ≤ R.locals) (hRc : cells + 21 ≤ R.cells ∧ slots + 42 ≤ R.slots)
    (kx : ∀ (L : List Nat) (f : Nat → va_E) (H : Heap) (locs : List Loc) (ls : Array Slot), objS L f aS 4 [.ref (ad 0), .ref (ad 1), .ref (ad 2), .ref (ad 3), .int (v 4), .int (v 5), .int (v 6), .ref (ad 4), .ref (ad 5), .int (v 9), .int (v 10), .int (v 11), .int (v 12), .int (v 13)] → (∃ om, ShA G L f ad oo om n xn xr nr rw sh ak wl wy (sLp wy g mp wl) (sLm wy g mp mm wl)) → lv_has ls 7 [(0, .ref aS)] → xW G A s.heap (([] : va_W) ++ va_pl L f) H locs → W p l e R s m args below meth c H locs (cells + wl) (slots + 2 * wl) Q (F0 m 329 ls [])) :
    ∀ (d k : Nat), k + d = wl → ∀ (L : List Nat) (f : Nat → va_E) (H : Heap) (locs : List Loc) (ls : Array Slot), objS L f aS 4 [.ref (ad 0), .ref (ad 1), .ref (ad 2), .ref (ad 3), .int (v 4), .int (v 5), .int (v 6), .ref (ad 4), .ref (ad 5), .int (v 9), .int (v 10), .int (v 11), .int (v 12), .int (v 13)] → (∃ om, ShA G L f ad oo om n xn xr nr rw sh ak wl wy (sLp wy g mp k) (sLm wy g mp mm k)) → lv_has ls 7 [(4, .int (nI k)), (3, .int (nI wl)), (2, .ref (ad 4)), (0, .ref aS)] → xW G A s.heap (([] : va_W) ++ va_pl L f) H locs → W p l e R s m args below meth c H locs (cells + k) (slots + 2 * k) Q (F0 m 237 ls []) := by
  obtain ⟨hx, hb, -, hown, hts, -⟩ := id hc
  intro d
  induction d with
  | zero =>
    intro k hd L f H locs ls hO hA hl hw
    refine lv_iload hx hb dX4_step_237 (lv_at hl 0 rfl) ?_
    refine lv_iload_n hx hb dX4_step_239 rfl (lv_at hl 1 rfl) ?_
    refine lv_icmp_ge (tgt := 329) hx hb dX4_step_240 (by decide) (fun hz => ?_) (fun h => absurd (nI_le (by omega) (by omega)) h)
    have ek : k = wl := by omega
    subst ek
    exact kx L f H locs ls hO hA (lv_sub hl [3] rfl) hw
  | succ d ih =>
    intro k hd L f H locs ls hO hA hl hw
    obtain ⟨om, hA⟩ := hA
    obtain ⟨-, -, -, ⟨hW1, hW2⟩, ⟨hM1, hM2, hM3⟩, -⟩ := id hA
    obtain ⟨y, hy1, hy2⟩ := hW2 k (by omega)
    obtain ⟨q, x, hq1, hq2, hx1, hx2⟩ := hwv k (by omega)
    obtain ⟨ga, hga1, hga2, hga3⟩ := hM3 g (by omega)
    have cq : (wy k 0).toNatClampNeg = q := by rw [hq1, nI_clamp (by omega)]
    have ep : sLp wy g mp (k + 1) = va_up (sLp wy g mp k) g (va_up (sLp wy g mp k g) q true) := by rw [sLp, cq]
    have em : sLm wy g mp mm (k + 1) = va_up (sLm wy g mp mm k) g (va_up (sLm wy g mp mm k g) q (upd (upd (fun _ => 0) 0 (nI x)) 1 (sL3 (sLp wy g mp k g q) (sLm wy g mp mm k g q 0) (sLm wy g mp mm k g q 1) (nI x)))) := by rw [sLm, cq, hx1]
    refine lv_iload hx hb dX4_step_237 (lv_at hl 0 rfl) ?_
    refine lv_iload_n hx hb dX4_step_239 rfl (lv_at hl 1 rfl) ?_
    refine lv_icmp_ge (tgt := 329) hx hb dX4_step_240 (by decide) (fun h => absurd h (nI_ge (by omega) (by omega))) (fun hz => ?_)
    refine lv_aload_n hx hb dX4_step_243 rfl (lv_at hl 2 rfl) ?_
    refine lv_iload hx hb dX4_step_244 (lv_at hl 0 rfl) ?_
    refine pald hc hw hW1 k rfl (by omega) (by omega) (v := .ref y) (by rw [hy1]; rfl) dX4_step_246 ?_
    refine lv_astore (lv' := [(5, .ref y), (4, .int (nI k)), (3, .int (nI wl)), (2, .ref (ad 4)), (0, .ref aS)]) hx hb dX4_step_247 hl (by decide) rfl (fun ls hl => ?_)
    refine lv_aload_n hx hb dX4_step_249 rfl (lv_at hl 4 rfl) ?_
    refine pget (C := RX4) (T := TX4) (N := 14) (ci := 4) hc hw inX4_step_X4 hO rfl 8 (by decide) lkX4_step_f37 rfl rfl dX4_step_250 ?_
    refine lv_aload_n hx hb dX4_step_253 rfl (lv_at hl 4 rfl) ?_
    refine pget (C := RX4) (T := TX4) (N := 14) (ci := 4) hc hw inX4_step_X4 hO rfl 6 (by decide) lkX4_step_f29 rfl rfl dX4_step_254 ?_
    refine pbld hc hw hM1 g hg6 (by omega) (by omega) (v := .ref ga) (by rw [hga1]; rfl) dX4_step_257 ?_
    refine lv_aload hx hb dX4_step_258 (lv_at hl 0 rfl) ?_
    refine lv_iconst (v := 0) hx hb dX4_step_260 (by decide) ?_
    refine pild hc hw hy2 0 rfl (by decide) (by omega) (v := (nI q)) hq1 dX4_step_261 ?_
    rcases hga3 q (by omega) with ⟨hn1, hn2⟩ | ⟨hn2, b, hn1, hn3⟩
    · refine pald hc hw hga2 q rfl (by omega) (by omega) (v := .null) (by rw [hn1]; rfl) dX4_step_262 ?_
      have hyL := hy2.1
      have hAo := hA
      refine lv_astoreN (lv' := [(6, .null), (5, .ref y), (4, .int (nI k)), (3, .int (nI wl)), (2, .ref (ad 4)), (0, .ref aS)]) hx hb dX4_step_263 hl (by decide) rfl (fun ls hl => ?_)
      refine lv_aload_n hx hb dX4_step_265 rfl (lv_at hl 5 rfl) ?_
      refine pget (C := RX4) (T := TX4) (N := 14) (ci := 4) hc hw inX4_step_X4 hO rfl 8 (by decide) lkX4_step_f37 rfl rfl dX4_step_266 ?_
      refine lv_aload_n hx hb dX4_step_269 rfl (lv_at hl 5 rfl) ?_
      refine pget (C := RX4) (T := TX4) (N := 14) (ci := 4) hc hw inX4_step_X4 hO rfl 6 (by decide) lkX4_step_f29 rfl rfl dX4_step_270 ?_
      refine pbld hc hw hM1 g hg6 (by omega) (by omega) (v := .ref ga) (by rw [hga1]; rfl) dX4_step_273 ?_
      refine lv_aload hx hb dX4_step_274 (lv_at hl 1 rfl) ?_
      refine lv_iconst (v := 0) hx hb dX4_step_276 (by decide) ?_
      refine pild hc hw hy2 0 rfl (by decide) (by omega) (v := (nI q)) hq1 dX4_step_277 ?_
      refine lv_iconst (v := 2) hx hb dX4_step_278 (by decide) ?_
      refine pnewI hc hw 2 rfl (by omega) lkX4_step_aI (by first | exact Nat.le_of_ble_eq_true rfl | ((try dsimp only); omega)) (by first | exact Nat.le_of_ble_eq_true rfl | ((try dsimp only); omega)) dX4_step_279 (fun z L1 f1 H hzn k1 r1 hw => ?_)
      have hO := hO.kp k1 (fun z => z)
      have hA := hA.fresh k1
      have hA0z := hA
      have hy2 := hy2.kp k1 (fun z => z)
      have hga2 := hga2.kp k1 (fun z => z)
      have hy0 := hy2
      refine lv_dup hx hb dX4_step_281 rfl ?_
      refine lv_iconst (v := 0) hx hb dX4_step_282 (by decide) ?_
      refine lv_aload hx hb dX4_step_283 (lv_at hl 1 rfl) ?_
      refine lv_iconst (v := 1) hx hb dX4_step_285 (by decide) ?_
      refine pild hc hw hy2 1 rfl (by decide) (by omega) (v := (nI x)) hx1 dX4_step_286 ?_
      refine pist hc hw r1 0 rfl (by decide) (by omega) dX4_step_287 (fun f H locs k2 r2 hw => ?_)
      have hzy : ¬ y = z := fun w => hzn (w ▸ hyL)
      have hy2 := hy2.kp k2 hzy
      have kz := k2
      refine lv_dup hx hb dX4_step_288 rfl ?_
      refine lv_iconst (v := 1) hx hb dX4_step_289 (by decide) ?_
      refine lv_aloadN hx hb dX4_step_290 (lv_at hl 0 rfl) ?_
      refine lv_ifnullN (tgt := 320) hx hb dX4_step_292 (by decide) ?_
      refine lv_iconst (v := 3) hx hb dX4_step_320 (by decide) ?_
      have e3 : 3 = sL3 (sLp wy g mp k g q) (sLm wy g mp mm k g q 0) (sLm wy g mp mm k g q 1) (nI x) := by unfold sL3; rw [hn2, if_neg (fun z => absurd z.1 (by decide))]
      refine pist hc hw r2 1 rfl (by decide) (by omega) dX4_step_321 (fun f H locs k4 r4 hw => ?_)
      have kz2 := kz.tr k4
      have hOz := hO.kp kz2 (hO.neI r1)
      have hga3' := hga2.kp kz2 (fun w => (r1.neA hga2) w.symm)
      have hA := hAo.fresh (k1.off hzn kz2)
      have hO := hOz
      refine past hc hw hga3' q rfl (by omega) (by omega) r4 dX4_step_322 (fun f H locs k6 r6 hw => ?_)
      have hO := hO.kp k6 (hO.neA hga3')
      have hA := hA.setM (g := g) (p := q) (b1 := true) (g1 := upd (upd (fun _ => 0) 0 (nI x)) 1 (sL3 (sLp wy g mp k g q) (sLm wy g mp mm k g q 0) (sLm wy g mp mm k g q 1) (nI x))) (by omega) hga1 k6 r6 (Or.inr ⟨rfl, z, rfl, by rw [← e3]; exact r4⟩)
      rw [← ep, ← em] at hA
      refine lv_iinc (v := nI (k + 1)) (lv' := [(4, .int (nI (k + 1))), (6, .null), (5, .ref y), (3, .int (nI wl)), (2, .ref (ad 4)), (0, .ref aS)]) hx hb dX4_step_323 hl (k := 2) rfl (nI_1 _) (by decide) rfl (fun ls hl => ?_)
      refine lv_goto (tgt := 237) hx hb dX4_step_326 (by decide) ?_
      exact pW_eq rfl (by omega) (ih (k + 1) (by omega) L1 f H locs ls hO ⟨_, hA⟩ (lv_sub hl [0, 3, 4, 5] rfl) hw)
    · refine pald hc hw hga2 q rfl (by omega) (by omega) (v := .ref b) (by rw [hn1]; rfl) dX4_step_262 ?_
      have hyL := hy2.1
      have hb0 := hn3.1
      have hAo := hA
      refine lv_astore (lv' := [(6, .ref b), (5, .ref y), (4, .int (nI k)), (3, .int (nI wl)), (2, .ref (ad 4)), (0, .ref aS)]) hx hb dX4_step_263 hl (by decide) rfl (fun ls hl => ?_)
      refine lv_aload_n hx hb dX4_step_265 rfl (lv_at hl 5 rfl) ?_
      refine pget (C := RX4) (T := TX4) (N := 14) (ci := 4) hc hw inX4_step_X4 hO rfl 8 (by decide) lkX4_step_f37 rfl rfl dX4_step_266 ?_
      refine lv_aload_n hx hb dX4_step_269 rfl (lv_at hl 5 rfl) ?_
      refine pget (C := RX4) (T := TX4) (N := 14) (ci := 4) hc hw inX4_step_X4 hO rfl 6 (by decide) lkX4_step_f29 rfl rfl dX4_step_270 ?_
      refine pbld hc hw hM1 g hg6 (by omega) (by omega) (v := .ref ga) (by rw [hga1]; rfl) dX4_step_273 ?_
      refine lv_aload hx hb dX4_step_274 (lv_at hl 1 rfl) ?_
      refine lv_iconst (v := 0) hx hb dX4_step_276 (by decide) ?_
      refine pild hc hw hy2 0 rfl (by decide) (by omega) (v := (nI q)) hq1 dX4_step_277 ?_
      refine lv_iconst (v := 2) hx hb dX4_step_278 (by decide) ?_
      refine pnewI hc hw 2 rfl (by omega) lkX4_step_aI (by first | exact Nat.le_of_ble_eq_true rfl | ((try dsimp only); omega)) (by first | exact Nat.le_of_ble_eq_true rfl | ((try dsimp only); omega)) dX4_step_279 (fun z L1 f1 H hzn k1 r1 hw => ?_)
      have hO := hO.kp k1 (fun z => z)
      have hA := hA.fresh k1
      have hA0z := hA
      have hy2 := hy2.kp k1 (fun z => z)
      have hga2 := hga2.kp k1 (fun z => z)
      have hy0 := hy2
      have hn3 := hn3.kp k1 (fun z => z)
      refine lv_dup hx hb dX4_step_281 rfl ?_
      refine lv_iconst (v := 0) hx hb dX4_step_282 (by decide) ?_
      refine lv_aload hx hb dX4_step_283 (lv_at hl 1 rfl) ?_
      refine lv_iconst (v := 1) hx hb dX4_step_285 (by decide) ?_
      refine pild hc hw hy2 1 rfl (by decide) (by omega) (v := (nI x)) hx1 dX4_step_286 ?_
      refine pist hc hw r1 0 rfl (by decide) (by omega) dX4_step_287 (fun f H locs k2 r2 hw => ?_)
      have hzb : ¬ b = z := fun w => hzn (w ▸ hb0)
      have hzy : ¬ y = z := fun w => hzn (w ▸ hyL)
      have hy2 := hy2.kp k2 hzy
      have hn3 := hn3.kp k2 (fun w => hzb w)
      have kz := k2
      refine lv_dup hx hb dX4_step_288 rfl ?_
      refine lv_iconst (v := 1) hx hb dX4_step_289 (by decide) ?_
      refine lv_aload hx hb dX4_step_290 (lv_at hl 0 rfl) ?_
      refine lv_ifnull hx hb dX4_step_292 ?_
      refine lv_aload hx hb dX4_step_295 (lv_at hl 0 rfl) ?_
      refine lv_iconst (v := 0) hx hb dX4_step_297 (by decide) ?_
      refine pild hc hw hn3 0 rfl (by decide) (by omega) (v := (sLm wy g mp mm k g q 0)) rfl dX4_step_298 ?_
      refine lv_aload hx hb dX4_step_299 (lv_at hl 1 rfl) ?_
      refine lv_iconst (v := 1) hx hb dX4_step_301 (by decide) ?_
      refine pild hc hw hy2 1 rfl (by decide) (by omega) (v := (nI x)) hx1 dX4_step_302 ?_
      refine lv_icmp_ne (tgt := 320) hx hb dX4_step_303 (by decide) (fun hs => ?_) (fun hs => ?_)
      · refine lv_iconst (v := 3) hx hb dX4_step_320 (by decide) ?_
        have e3 : 3 = sL3 (sLp wy g mp k g q) (sLm wy g mp mm k g q 0) (sLm wy g mp mm k g q 1) (nI x) := by unfold sL3; rw [if_neg (fun z => hs z.2)]
        refine pist hc hw r2 1 rfl (by decide) (by omega) dX4_step_321 (fun f H locs k4 r4 hw => ?_)
        have kz2 := kz.tr k4
        have hOz := hO.kp kz2 (hO.neI r1)
        have hga3' := hga2.kp kz2 (fun w => (r1.neA hga2) w.symm)
        have hA := hAo.fresh (k1.off hzn kz2)
        have hO := hOz
        refine past hc hw hga3' q rfl (by omega) (by omega) r4 dX4_step_322 (fun f H locs k6 r6 hw => ?_)
        have hO := hO.kp k6 (hO.neA hga3')
        have hA := hA.setM (g := g) (p := q) (b1 := true) (g1 := upd (upd (fun _ => 0) 0 (nI x)) 1 (sL3 (sLp wy g mp k g q) (sLm wy g mp mm k g q 0) (sLm wy g mp mm k g q 1) (nI x))) (by omega) hga1 k6 r6 (Or.inr ⟨rfl, z, rfl, by rw [← e3]; exact r4⟩)
        rw [← ep, ← em] at hA
        refine lv_iinc (v := nI (k + 1)) (lv' := [(4, .int (nI (k + 1))), (6, .ref b), (5, .ref y), (3, .int (nI wl)), (2, .ref (ad 4)), (0, .ref aS)]) hx hb dX4_step_323 hl (k := 2) rfl (nI_1 _) (by decide) rfl (fun ls hl => ?_)
        refine lv_goto (tgt := 237) hx hb dX4_step_326 (by decide) ?_
        exact pW_eq rfl (by omega) (ih (k + 1) (by omega) L1 f H locs ls hO ⟨_, hA⟩ (lv_sub hl [0, 3, 4, 5] rfl) hw)
      · refine lv_bipush (v := 9) hx hb dX4_step_306 (by decide) ?_
        refine lv_aload hx hb dX4_step_308 (lv_at hl 0 rfl) ?_
        refine lv_iconst (v := 1) hx hb dX4_step_310 (by decide) ?_
        refine pild hc hw hn3 1 rfl (by decide) (by omega) (v := (sLm wy g mp mm k g q 1)) rfl dX4_step_311 ?_
        refine lv_iconst (v := 3) hx hb dX4_step_312 (by decide) ?_
        refine lv_iadd hx hb dX4_step_313 ?_
        refine pmin (rest := [.int 1, .ref z, .ref z, .int (nI q), .ref ga]) hc lkX4_step_m76 lkX4_step_msmin lkX4_step_mi lkX4_step_mcmin hl.1 (Nat.le_trans (by decide) hRf) (Nat.le_trans (Nat.le_of_ble_eq_true rfl) hRl) (by have := hRc.1; have := hRc.2; refine ⟨?_, ?_⟩ <;> omega) dX4_step_314 ?_
        refine lv_goto (tgt := 321) hx hb dX4_step_317 (by decide) ?_
        have e3 : sMin 9 (sLm wy g mp mm k g q 1 + 3) = sL3 (sLp wy g mp k g q) (sLm wy g mp mm k g q 0) (sLm wy g mp mm k g q 1) (nI x) := by unfold sL3; rw [if_pos ⟨hn2, hs⟩]
        refine pist hc hw r2 1 rfl (by decide) (by omega) dX4_step_321 (fun f H locs k4 r4 hw => ?_)
        have kz2 := kz.tr k4
        have hOz := hO.kp kz2 (hO.neI r1)
        have hga3' := hga2.kp kz2 (fun w => (r1.neA hga2) w.symm)
        have hA := hAo.fresh (k1.off hzn kz2)
        have hO := hOz
        refine past hc hw hga3' q rfl (by omega) (by omega) r4 dX4_step_322 (fun f H locs k6 r6 hw => ?_)
        have hO := hO.kp k6 (hO.neA hga3')
        have hA := hA.setM (g := g) (p := q) (b1 := true) (g1 := upd (upd (fun _ => 0) 0 (nI x)) 1 (sL3 (sLp wy g mp k g q) (sLm wy g mp mm k g q 0) (sLm wy g mp mm k g q 1) (nI x))) (by omega) hga1 k6 r6 (Or.inr ⟨rfl, z, rfl, by rw [← e3]; exact r4⟩)
        rw [← ep, ← em] at hA
        refine lv_iinc (v := nI (k + 1)) (lv' := [(4, .int (nI (k + 1))), (6, .ref b), (5, .ref y), (3, .int (nI wl)), (2, .ref (ad 4)), (0, .ref aS)]) hx hb dX4_step_323 hl (k := 2) rfl (nI_1 _) (by decide) rfl (fun ls hl => ?_)
        refine lv_goto (tgt := 237) hx hb dX4_step_326 (by decide) ?_
        exact pW_eq rfl (by omega) (ih (k + 1) (by omega) L1 f H locs ls hO ⟨_, hA⟩ (lv_sub hl [0, 3, 4, 5] rfl) hw)
set_option maxHeartbeats 40000000 in
set_option maxRecDepth 100000 in
theorem lpS_stE {p : Program} {l : Launch} {e : Env} {R : Room} {s : State} {m : MethodId} {args : Array Value} {below : List Frame} {meth : Method} {c : Code} {cells slots : Nat} {Q : State → Prop} {ret : Option FieldType} {G : xG} {A : Nat → Prop} (hc : xC p s m args meth c cX4_step 7 RX4 wsX4_step ret G A) {aS : Nat} {ad : Nat → Nat} {oo : Nat → Nat → Option Nat} {v : Nat → Int32} {n : Nat} {xn : Nat → Nat} {xr : Nat → Nat → Int32} {nr : Nat} {rw : Nat → Nat → Int32} {sh ak : Nat → Int32} {wl : Nat} {wy : Nat → Nat → Int32} {mp : Nat → Nat → Bool} {mm : Nat → Nat → Nat → Int32} {om : Nat → Nat → Option Nat} {L : List Nat} {f : Nat → va_E} {g : Nat} (hg6 : v 6 = nI g) (hg : g < 10) (hn10 : n ≤ 10) (hr20 : nr ≤ 20) (hwl : wl ≤ 21) (hwv : ∀ k, k < wl → ∃ q x, wy k 0 = nI q ∧ q < n ∧ wy k 1 = nI x ∧ x < xn q) (hRf : 4 ≤ R.frames) (hRl : 120 ≤ R.locals) (hRc : cells + 23 ≤ R.cells ∧ slots + 52 ≤ R.slots) (hO : objS L f aS 4 [.ref (ad 0), .ref (ad 1), .ref (ad 2), .ref (ad 3), .int (v 4), .int (v 5), .int (v 6), .ref (ad 4), .ref (ad 5), .int (v 9), .int (v 10), .int (v 11), .int (v 12), .int (v 13)]) (hA : ShA G L f ad oo om n xn xr nr rw sh ak wl wy mp mm)
    (kr : ∀ (L : List Nat) (f : Nat → va_E) (H : Heap) (locs : List Loc) (ls : Array Slot) (pc : Nat) (v2 : Nat → Int32) (rw2 : Nat → Nat → Int32) (ak2 : Nat → Int32) (wl2 : Nat) (mp2 : Nat → Nat → Bool) (mm2 : Nat → Nat → Nat → Int32), ((¬ v 4 = v 6 ∧ v2 = v ∧ rw2 = rw ∧ ak2 = ak ∧ wl2 = wl ∧ mp2 = mp ∧ mm2 = mm) ∨ (v 4 = v 6 ∧ v2 = upd (upd v 11 (v 11 + 1)) 6 (-1) ∧ rw2 = sOv rw nr ∧ ak2 = (fun _ => 0) ∧ wl2 = 0 ∧ mp2 = sLp wy g mp wl ∧ mm2 = sLm wy g mp mm wl)) → Sh G L f aS v2 n xn xr nr rw2 sh ak2 wl2 wy mp2 mm2 → xW G A s.heap (([] : va_W) ++ va_pl L f) H locs → decode cX4_step pc = .ok (.ireturn, 1) → W p l e R s m args below meth c H locs (cells + 23) (slots + 52) Q (F0 m pc ls [.int 1])) {H : Heap} {locs : List Loc} {ls : Array Slot} (hl : lv_has ls 7 [(0, .ref aS)]) (hw : xW G A s.heap (([] : va_W) ++ va_pl L f) H locs) : W p l e R s m args below meth c H locs cells slots Q (F0 m 213 ls []) := by
  obtain ⟨hx, hb, -, hown, hts, -⟩ := id hc
  refine lv_aload_n hx hb dX4_step_213 rfl (lv_at hl 0 rfl) ?_
  refine pget (C := RX4) (T := TX4) (N := 14) (ci := 4) hc hw inX4_step_X4 hO rfl 4 (by decide) lkX4_step_f25 rfl rfl dX4_step_214 ?_
  refine lv_aload_n hx hb dX4_step_217 rfl (lv_at hl 0 rfl) ?_
  refine pget (C := RX4) (T := TX4) (N := 14) (ci := 4) hc hw inX4_step_X4 hO rfl 6 (by decide) lkX4_step_f29 rfl rfl dX4_step_218 ?_
  refine lv_icmp_eq (tgt := 226) hx hb dX4_step_221 (by decide) (fun hz => ?_) (fun hz => ?_)
  · obtain ⟨-, -, -, ⟨hW1, hW2⟩, -⟩ := id hA
    refine lv_aload_n hx hb dX4_step_226 rfl (lv_at hl 0 rfl) ?_
    refine pget (C := RX4) (T := TX4) (N := 14) (ci := 4) hc hw inX4_step_X4 hO rfl 7 (by decide) lkX4_step_f32 rfl rfl dX4_step_227 ?_
    refine lv_astore_n (lv' := [(2, .ref (ad 4)), (0, .ref aS)]) hx hb dX4_step_230 rfl hl (by decide) rfl (fun ls hl => ?_)
    refine lv_aload_n hx hb dX4_step_231 rfl (lv_at hl 0 rfl) ?_
    refine plenA hc hw hW1 dX4_step_232 ?_
    refine lv_istore_n (lv' := [(3, .int (nI wl)), (2, .ref (ad 4)), (0, .ref aS)]) hx hb dX4_step_233 rfl hl (by decide) rfl (fun ls hl => ?_)
    refine lv_iconst (v := 0) hx hb dX4_step_234 (by decide) ?_
    refine lv_istore (lv' := [(4, .int 0), (3, .int (nI wl)), (2, .ref (ad 4)), (0, .ref aS)]) hx hb dX4_step_235 hl (by decide) rfl (fun ls hl => ?_)
    refine lpS_stL (cells := cells) (slots := slots) hc hg6 hg hn10 hwl hwv (Nat.le_trans (by decide) hRf) (Nat.le_trans (by decide) hRl) (by refine ⟨?_, ?_⟩ <;> omega) (fun L1 f H locs ls hO hA hl hw => ?_) wl 0 (by omega) _ _ _ _ ls hO ⟨_, hA⟩ (lv_sub hl [0, 1, 2, 3] rfl) hw
    obtain ⟨om, hA⟩ := hA
    refine lv_aload_n hx hb dX4_step_329 rfl (lv_at hl 0 rfl) ?_
    refine lv_dup hx hb dX4_step_330 rfl ?_
    refine pget (C := RX4) (T := TX4) (N := 14) (ci := 4) hc hw inX4_step_X4 hO rfl 11 (by decide) lkX4_step_f59 rfl rfl dX4_step_331 ?_
    refine lv_iconst (v := 1) hx hb dX4_step_334 (by decide) ?_
    refine lv_iadd hx hb dX4_step_335 ?_
    refine pput (C := RX4) (T := TX4) (N := 14) (ci := 4) (ty := .int) hc hw inX4_step_X4 tyX4 tyX4_ok nmX4 hO rfl 11 (by decide) lkX4_step_f59 rfl rfl rfl rfl (Nat.le_of_ble_eq_true rfl) [.ref (ad 0), .ref (ad 1), .ref (ad 2), .ref (ad 3), .int (v 4), .int (v 5), .int (v 6), .ref (ad 4), .ref (ad 5), .int (v 9), .int (v 10), .int (v 11 + 1), .int (v 12), .int (v 13)] rfl dX4_step_336 (fun f H locs k1 hO1 hw => ?_)
    have hA := hA.obj hO k1
    have hO := hO1
    refine lv_aload_n hx hb dX4_step_339 rfl (lv_at hl 0 rfl) ?_
    refine pcall_v hc hw (prunV (n := 0) (As := []) (rest := []) hc hw (metS_over l G _ _ _ aS (upd v 11 (v 11 + 1)) n xn xr nr rw sh ak wl wy _ _ ⟨_, _, _, hO, hA⟩ hr20) gX4_step_X4_over rfl (by decide +kernel) ⟨by (try dsimp only); omega, by (try dsimp only); omega⟩ hO rfl rfl rfl hl.1 (Nat.le_of_ble_eq_true rfl) dX4_step_340 ⟨by (try dsimp only); omega, by (try dsimp only); omega⟩) (fun L1 f H locs hp hw => ?_)
    refine lv_iconst (v := 1) hx hb dX4_step_343 (by decide) ?_
    exact W.widen (by (try dsimp only); omega) (by (try dsimp only); omega) (kr _ _ _ _ ls 344 _ _ _ _ _ _ (Or.inr ⟨hz, rfl, rfl, rfl, rfl, rfl, rfl⟩) hp hw dX4_step_344)
  · refine lv_iconst (v := 1) hx hb dX4_step_224 (by decide) ?_
    exact W.widen (Nat.le_add_right _ _) (Nat.le_add_right _ _) (kr _ _ _ _ ls 225 _ _ _ _ _ _ (Or.inl ⟨hz, rfl, rfl, rfl, rfl, rfl, rfl⟩) ⟨_, _, _, hO, hA⟩ hw dX4_step_225)
theorem sTo_set (rw xr : Nat → Nat → Int32) (k : Nat) (z : Int32) (q x : Nat) : sTo (va_up rw k (upd (rw k) 4 z)) xr q x = sTo rw xr q x := by
  unfold sTo
  by_cases c : (xr q x).toNatClampNeg = k
  · rw [c, va_up_self, pk_un (by decide), pk_un (by decide)]
  · rw [va_up_ne _ _ c]
theorem sX_set {n : Nat} {xn : Nat → Nat} {xr : Nat → Nat → Int32} {nr : Nat} {rw : Nat → Nat → Int32} (h : sX n xn xr nr rw) (k : Nat) (z : Int32) : sX n xn xr nr (va_up rw k (upd (rw k) 4 z)) := by
  refine ⟨h.1, h.2.1, h.2.2.1, fun j hj => ?_⟩
  obtain ⟨a, b, h1, h2, h3, h4⟩ := h.2.2.2 j hj
  by_cases c : j = k
  · subst c
    exact ⟨a, b, by rw [va_up_self, pk_un (by decide)]; exact h1, h2, by rw [va_up_self, pk_un (by decide)]; exact h3, h4⟩
  · exact ⟨a, b, by rw [va_up_ne _ _ c]; exact h1, h2, by rw [va_up_ne _ _ c]; exact h3, h4⟩
theorem sFst_in (rw xr : Nat → Nat → Int32) (q : Nat) : ∀ d x, sFst rw xr q d x = -1 ∨ ∃ y, sFst rw xr q d x = nI y ∧ y < x + d
  | 0, _ => Or.inl rfl
  | d + 1, x => by
    rw [sFst]
    split
    · rcases sFst_in rw xr q d (x + 1) with h | ⟨y, h1, h2⟩
      · exact Or.inl h
      · exact Or.inr ⟨y, h1, by omega⟩
    · exact Or.inr ⟨x, rfl, by omega⟩
theorem sFst_lt {rw xr : Nat → Nat → Int32} {q N : Nat} : (sFst rw xr q N 0 = -1) ∨ ∃ y, sFst rw xr q N 0 = nI y ∧ y < N := by
  rcases sFst_in rw xr q N 0 with h | ⟨y, h1, h2⟩
  · exact Or.inl h
  · exact Or.inr ⟨y, h1, by omega⟩
/-- the choice is in range, and so is what is remembered behind it -/
theorem sChR_in {v : Nat → Int32} {n : Nat} {xn : Nat → Nat} {xr : Nat → Nat → Int32} {nr : Nat} {rw : Nat → Nat → Int32} {sh ak : Nat → Int32} {wl : Nat} {wy : Nat → Nat → Int32} {mp : Nat → Nat → Bool} {mm : Nat → Nat → Nat → Int32} {q g : Nat} {r : Int32} {v' ak' : Nat → Int32} {mp' : Nat → Nat → Bool} {mm' : Nat → Nat → Nat → Int32} (hV : sVd n xn v wl wy mp mm) (hg : g < 10) (hq : q < n) (h : sChR v n xn xr nr rw sh ak mp mm q g r v' ak' mp' mm') : (r = -1 ∨ ∃ x, r = nI x ∧ x < xn q) ∧ v' 4 = v 4 ∧ v' 6 = v 6 ∧ sVd n xn v' wl wy mp' mm' := by
  rcases h with ⟨h1, rfl, rfl, rfl, rfl, rfl⟩ | ⟨h1, h2, rfl, rfl, rfl, rfl, rfl⟩ | ⟨h1, h2, rfl, rfl, h3⟩
  · exact ⟨Or.inr (hV.1 g q hg hq h1.1), rfl, rfl, hV⟩
  · exact ⟨sFst_lt, rfl, rfl, hV⟩
  · rcases h3 with ⟨h3, rfl, rfl, rfl⟩ | ⟨h3, rfl, rfl, h4⟩
    · exact ⟨sFst_lt, rfl, rfl, hV⟩
    · obtain ⟨xb, hxb, hxb2⟩ : ∃ x, (sBst (sIts n xr nr rw q (nI g)) (xn q) (xn q)).1 = nI x ∧ x < xn q := (by
        rcases sBst_in (sIts n xr nr rw q (nI g)) (xn q) (xn q) (Nat.le_refl _) with h | h
        · exact absurd (by rw [h]; decide) h3
        · exact h)
      refine ⟨?_, rfl, rfl, fun g' q' e1 e2 e3 => ?_, hV.2⟩
      · rw [h4]
        split
        · exact sFst_lt
        · exact Or.inr ⟨xb, hxb, hxb2⟩
      · by_cases c1 : g' = g
        · subst c1
          rw [va_up_self] at e3 ⊢
          by_cases c2 : q' = q
          · subst c2
            rw [va_up_self]
            exact ⟨xb, hxb, hxb2⟩
          · rw [va_up_ne _ _ c2] at e3 ⊢
            exact hV.1 g' q' e1 e2 e3
        · rw [va_up_ne _ _ c1] at e3 ⊢
          exact hV.1 g' q' e1 e2 e3
set_option maxHeartbeats 40000000 in
set_option maxRecDepth 100000 in
theorem metS_step (l : Launch) (G : xG) (sz : Nat) (L : List Nat) (f : Nat → va_E) (aS : Nat) (v : Nat → Int32) (n : Nat) (xn : Nat → Nat) (xr : Nat → Nat → Int32) (nr : Nat) (rw : Nat → Nat → Int32) (sh ak : Nat → Int32) (wl : Nat) (wy : Nat → Nat → Int32) (mp : Nat → Nat → Bool) (mm : Nat → Nat → Nat → Int32) (q g : Nat) (S : Sh G L f aS v n xn xr nr rw sh ak wl wy mp mm) (hX : sX n xn xr nr rw) (hV : sVd n xn v wl wy mp mm) (hq4 : v 4 = nI q) (hq : q < n) (hg6 : v 6 = nI g) (hg : g < n) (hsh : ∀ k, k < 10 → sh k = 0 ∨ sh k = 1) : pMi l yX4_step wsX4_step ⟨4, 30, 137, 120⟩ G [.ref aS] L f sz (fun b u => ∃ (v2 : Nat → Int32) (rw2 : Nat → Nat → Int32) (ak2 : Nat → Int32) (wl2 : Nat) (wy2 : Nat → Nat → Int32) (mp2 : Nat → Nat → Bool) (mm2 : Nat → Nat → Nat → Int32), sStR v n xn xr nr rw sh ak wl wy mp mm q g b v2 rw2 ak2 wl2 wy2 mp2 mm2 ∧ Sh G u.1 u.2 aS v2 n xn xr nr rw2 sh ak2 wl2 wy2 mp2 mm2) := by
  obtain ⟨ad, oo, om, hO, hA⟩ := S
  have hO : objS L f aS 4 [.ref (ad 0), .ref (ad 1), .ref (ad 2), .ref (ad 3), .int (v 4), .int (v 5), .int (v 6), .ref (ad 4), .ref (ad 5), .int (v 9), .int (v 10), .int (v 11), .int (v 12), .int (v 13)] := hO
  refine xof (own := RX4) (cc := cX4_step) (maxL := 7) (ret := (some .boolean)) rfl (by decide) rfl (Nat.le_of_ble_eq_true rfl) ?_
  intro pg en s mi below meth cd hc hnm hw ls hl
  obtain ⟨hx, hb, -, hown, hts, -⟩ := id hc
  have hl : lv_has ls 7 [(0, .ref aS)] := hl
  have hw : xW G _ s.heap (([] : va_W) ++ va_pl L f) s.heap [] := hw
  have hn10 : n ≤ 10 := hX.1
  have hr20 : nr ≤ 20 := hX.2.1
  have hwl : wl ≤ 20 := hV.2.1
  refine lv_aload_n hx hb dX4_step_0 rfl (lv_at hl 0 rfl) ?_
  refine pcall_i hc hw (prunV (n := 0) (As := []) (rest := []) hc hw (metS_chosen l G _ _ _ aS v n xn xr nr rw sh ak wl wy mp mm q g ⟨ad, oo, om, hO, hA⟩ hX hV hq4 hq hg6 hg hsh) gX4_step_X4_chosen rfl (by decide +kernel) ⟨Nat.le_of_ble_eq_true rfl, Nat.le_of_ble_eq_true rfl⟩ hO rfl rfl rfl hl.1 (Nat.le_of_ble_eq_true rfl) dX4_step_1 (by first | exact ⟨Nat.le_of_ble_eq_true rfl, Nat.le_of_ble_eq_true rfl⟩ | (refine ⟨?_, ?_⟩ <;> ((try dsimp only); omega)))) (fun r L1 f1 H locs hp hw => ?_)
  obtain ⟨v1, ak1, mp1, mm1, hch, ad, oo, om, hO, hA⟩ := hp
  obtain ⟨hr, e4, e6, hV1⟩ := sChR_in hV (by omega) hq hch
  have hq4 : v1 4 = nI q := e4.trans hq4
  have hg6 : v1 6 = nI g := e6.trans hg6
  have hO : objS L1 f1 aS 4 [.ref (ad 0), .ref (ad 1), .ref (ad 2), .ref (ad 3), .int (v1 4), .int (v1 5), .int (v1 6), .ref (ad 4), .ref (ad 5), .int (v1 9), .int (v1 10), .int (v1 11), .int (v1 12), .int (v1 13)] := hO
  refine lv_istore_n (lv' := [(1, .int r), (0, .ref aS)]) hx hb dX4_step_4 rfl hl (by decide) rfl (fun ls hl => ?_)
  refine lv_iload_n hx hb dX4_step_5 rfl (lv_at hl 0 rfl) ?_
  refine lv_if_lt (tgt := 83) hx hb dX4_step_6 (by decide) (fun hz => ?_) (fun hz => ?_)
  · have hr1 : r = -1 := (by
      rcases hr with h | ⟨x, h1, h2⟩
      · exact h
      · have := (hA.2.1.2 q hq).1
        rw [h1] at hz
        exact absurd hz (nI_pos (by omega)))
    obtain ⟨-, -, -, ⟨hW1, hW2⟩, -⟩ := id hA
    refine lv_aload_n hx hb dX4_step_83 rfl (lv_at hl 1 rfl) ?_
    refine pget (C := RX4) (T := TX4) (N := 14) (ci := 4) hc hw inX4_step_X4 hO rfl 7 (by decide) lkX4_step_f32 rfl rfl dX4_step_84 ?_
    refine plenA hc hw hW1 dX4_step_87 ?_
    refine lv_if_ne (tgt := 107) hx hb dX4_step_88 (by decide) (fun hnz => ?_) (fun hnz => ?_)
    · obtain ⟨t, ht⟩ : ∃ t, wl = t + 1 := (by
        cases wl with
        | zero => exact absurd rfl hnz
        | succ t => exact ⟨t, rfl⟩)
      obtain ⟨b, hb1, hb2⟩ := hW2 t (by omega)
      have ei : nI wl - 1 = nI t := by rw [ht, nI_pred]
      obtain ⟨q2, x2, hq2, hq2n, hx2, hx2n⟩ := hV.2.2 t (by omega)
      obtain ⟨⟨hR1, hR2, hR3⟩, ⟨hE1, hE2⟩, -⟩ := id hA
      obtain ⟨hx24, ea, he1, he2⟩ := hE2 q2 hq2n
      obtain ⟨k, hk1, hk2⟩ := hX.2.2.1 q2 x2 hq2n hx2n
      obtain ⟨ra, hr3, hr4⟩ := hR2 k hk2
      have hkc : (xr q2 x2).toNatClampNeg = k := by rw [hk1, nI_clamp (by omega)]
      have hq2c : (wy (wl - 1) 0).toNatClampNeg = q2 := by rw [show wl - 1 = t by omega, hq2, nI_clamp (by omega)]
      have hx2c : (wy (wl - 1) 1).toNatClampNeg = x2 := by rw [show wl - 1 = t by omega, hx2, nI_clamp (by omega)]
      have hOm := hO.1
      have hbm := hb2.1
      refine lv_aload_n hx hb dX4_step_107 rfl (lv_at hl 1 rfl) ?_
      refine pget (C := RX4) (T := TX4) (N := 14) (ci := 4) hc hw inX4_step_X4 hO rfl 7 (by decide) lkX4_step_f32 rfl rfl dX4_step_108 ?_
      refine lv_aload_n hx hb dX4_step_111 rfl (lv_at hl 1 rfl) ?_
      refine pget (C := RX4) (T := TX4) (N := 14) (ci := 4) hc hw inX4_step_X4 hO rfl 7 (by decide) lkX4_step_f32 rfl rfl dX4_step_112 ?_
      refine plenA hc hw hW1 dX4_step_115 ?_
      refine lv_iconst (v := 1) hx hb dX4_step_116 (by decide) ?_
      refine lv_isub hx hb dX4_step_117 ?_
      refine pald hc hw hW1 t ei (by omega) (by omega) (v := .ref b) (by rw [hb1]; rfl) dX4_step_118 ?_
      refine lv_astore_n (lv' := [(2, .ref b), (1, .int r), (0, .ref aS)]) hx hb dX4_step_119 rfl hl (by decide) rfl (fun ls hl => ?_)
      refine lv_aload_n hx hb dX4_step_120 rfl (lv_at hl 2 rfl) ?_
      refine pget (C := RX4) (T := TX4) (N := 14) (ci := 4) hc hw inX4_step_X4 hO rfl 7 (by decide) lkX4_step_f32 rfl rfl dX4_step_121 ?_
      refine plenA hc hw hW1 dX4_step_124 ?_
      refine lv_iconst (v := 1) hx hb dX4_step_125 (by decide) ?_
      refine lv_isub hx hb dX4_step_126 ?_
      refine pnewA hc hw t ei (by omega) lkX4_step_c7 (by first | exact Nat.le_of_ble_eq_true rfl | ((try dsimp only); omega)) (by first | exact Nat.le_of_ble_eq_true rfl | ((try dsimp only); omega)) dX4_step_127 (fun y L2 f2 H hyn k2 r2 hw => ?_)
      obtain ⟨⟨n0, n1, n2, n3, n4, n5⟩, n6⟩ := hA.nin hyn
      have hO := hO.kp k2 (fun z => z)
      have hA := hA.fresh k2
      have hb2 := hb2.kp k2 (fun z => z)
      have hyO : ¬ aS = y := fun z => hyn (z ▸ hOm)
      have hyb : ¬ b = y := fun z => hyn (z ▸ hbm)
      refine lv_astore_n (lv' := [(3, .ref y), (2, .ref b), (1, .int r), (0, .ref aS)]) hx hb dX4_step_130 rfl hl (by decide) rfl (fun ls hl => ?_)
      refine lv_iconst (v := 0) hx hb dX4_step_131 (by decide) ?_
      refine lv_istore (lv' := [(4, .int 0), (3, .ref y), (2, .ref b), (1, .int r), (0, .ref aS)]) hx hb dX4_step_132 hl (by decide) rfl (fun ls hl => ?_)
      refine lpS_stD (v := v1) (ak := ak1) (mp := mp1) (mm := mm1) hc (t := t) (by omega) hwl ⟨n0.symm, n1.symm, n4.symm, n5.symm, n6⟩ (fun f3 H locs ls o1 hO hA r3 r4 k3 hl hw => ?_) t 0 (by omega) _ _ _ ls hO hA ⟨_, r2, fun j hj => absurd hj (Nat.not_lt_zero _)⟩ pk.rf (lv_sub hl [0, 1, 2, 4] rfl) hw
      have hb2 := hb2.kp k3 hyb
      refine lv_aload_n hx hb dX4_step_158 rfl (lv_at hl 2 rfl) ?_
      refine lv_aload_n hx hb dX4_step_159 rfl (lv_at hl 0 rfl) ?_
      refine pput (C := RX4) (T := TX4) (N := 14) (ci := 4) (ty := .int) hc hw inX4_step_X4 tyX4 tyX4_ok nmX4 hO rfl 7 (by decide) lkX4_step_f32 rfl rfl rfl rfl (Nat.le_of_ble_eq_true rfl) [.ref (ad 0), .ref (ad 1), .ref (ad 2), .ref (ad 3), .int (v1 4), .int (v1 5), .int (v1 6), .ref y, .ref (ad 5), .int (v1 9), .int (v1 10), .int (v1 11), .int (v1 12), .int (v1 13)] rfl dX4_step_160 (fun f H locs k4 hO4 hw => ?_)
      have r3 := r3.kp k4 (hO.neA r3).symm
      have hb2 := hb2.kp k4 (hO.neI hb2).symm
      have hA := hA.obj hO k4
      have hO := hO4
      obtain ⟨-, -, -, ⟨hW1, hW2⟩, -⟩ := id hA
      have hA := hA.newW (q := y) (wl1 := wl - 1) (o1 := o1) (wy1 := wy) ⟨by rw [show wl - 1 = t by omega]; exact r3, fun j hj => (by obtain ⟨a, e1, e2⟩ := hW2 j (by omega); exact ⟨a, (r4 j (by omega)).trans e1, e2⟩)⟩ n1.symm n6
      have hO : objS L2 f aS 4 [.ref (ad 0), .ref (ad 1), .ref (ad 2), .ref (ad 3), .int (v1 4), .int (v1 5), .int (v1 6), .ref y, .ref (ad 5), .int (v1 9), .int (v1 10), .int (v1 11), .int (v1 12), .int (v1 13)] := hO
      obtain ⟨⟨hR1, hR2, hR3⟩, ⟨hE1, hE2⟩, -⟩ := id hA
      have hq2' : wy (wl - 1) 0 = nI q2 := by rw [show wl - 1 = t by omega]; exact hq2
      have hx2' : wy (wl - 1) 1 = nI x2 := by rw [show wl - 1 = t by omega]; exact hx2
      refine lv_aload_n hx hb dX4_step_163 rfl (lv_at hl 2 rfl) ?_
      refine lv_aload_n hx hb dX4_step_164 rfl (lv_at hl 1 rfl) ?_
      refine lv_iconst (v := 0) hx hb dX4_step_165 (by decide) ?_
      refine pild hc hw hb2 0 rfl (by decide) (by omega) (v := (nI q2)) hq2 dX4_step_166 ?_
      refine pput (C := RX4) (T := TX4) (N := 14) (ci := 4) (ty := .int) hc hw inX4_step_X4 tyX4 tyX4_ok nmX4 hO rfl 4 (by decide) lkX4_step_f25 rfl rfl rfl rfl (Nat.le_of_ble_eq_true rfl) [.ref (ad 0), .ref (ad 1), .ref (ad 2), .ref (ad 3), .int (nI q2), .int (v1 5), .int (v1 6), .ref y, .ref (ad 5), .int (v1 9), .int (v1 10), .int (v1 11), .int (v1 12), .int (v1 13)] rfl dX4_step_167 (fun f H locs k5 hO5 hw => ?_)
      have hb2 := hb2.kp k5 (hO.neI hb2).symm
      have hA := hA.obj hO k5
      have hO := hO5
      obtain ⟨⟨hR1, hR2, hR3⟩, ⟨hE1, hE2⟩, -⟩ := id hA
      obtain ⟨hx24, ea, he1, he2⟩ := hE2 q2 hq2n
      obtain ⟨ra, hr3, hr4⟩ := hR2 k hk2
      refine lv_aload_n hx hb dX4_step_170 rfl (lv_at hl 2 rfl) ?_
      refine pget (C := RX4) (T := TX4) (N := 14) (ci := 4) hc hw inX4_step_X4 hO rfl 0 (by decide) lkX4_step_f9 rfl rfl dX4_step_171 ?_
      refine lv_aload_n hx hb dX4_step_174 rfl (lv_at hl 2 rfl) ?_
      refine pget (C := RX4) (T := TX4) (N := 14) (ci := 4) hc hw inX4_step_X4 hO rfl 1 (by decide) lkX4_step_f15 rfl rfl dX4_step_175 ?_
      refine lv_aload_n hx hb dX4_step_178 rfl (lv_at hl 1 rfl) ?_
      refine lv_iconst (v := 0) hx hb dX4_step_179 (by decide) ?_
      refine pild hc hw hb2 0 rfl (by decide) (by omega) (v := (nI q2)) hq2 dX4_step_180 ?_
      refine pald hc hw hE1 q2 rfl hq2n (by omega) (v := .ref ea) (by rw [he1]; rfl) dX4_step_181 ?_
      refine lv_aload_n hx hb dX4_step_182 rfl (lv_at hl 1 rfl) ?_
      refine lv_iconst (v := 1) hx hb dX4_step_183 (by decide) ?_
      refine pild hc hw hb2 1 rfl (by decide) (by omega) (v := (nI x2)) hx2 dX4_step_184 ?_
      refine pild hc hw he2 x2 rfl hx2n (by omega) (v := (nI k)) hk1 dX4_step_185 ?_
      refine pald hc hw hR1 k rfl hk2 (by omega) (v := .ref ra) (by rw [hr3]; rfl) dX4_step_186 ?_
      refine lv_iconst (v := 2) hx hb dX4_step_187 (by decide) ?_
      refine pild hc hw hr4 2 rfl (by decide) (by omega) (v := (rw k 2)) rfl dX4_step_188 ?_
      refine lv_istore (lv' := [(4, .int (rw k 2)), (3, .ref y), (2, .ref b), (0, .ref aS)]) hx hb dX4_step_189 hl (by decide) rfl (fun ls hl => ?_)
      refine lv_aload_n hx hb dX4_step_191 rfl (lv_at hl 3 rfl) ?_
      refine lv_dup hx hb dX4_step_192 rfl ?_
      refine pget (C := RX4) (T := TX4) (N := 14) (ci := 4) hc hw inX4_step_X4 hO rfl 9 (by decide) lkX4_step_f53 rfl rfl dX4_step_193 ?_
      refine lv_iload hx hb dX4_step_196 (lv_at hl 0 rfl) ?_
      refine lv_iadd hx hb dX4_step_198 ?_
      refine pput (C := RX4) (T := TX4) (N := 14) (ci := 4) (ty := .int) hc hw inX4_step_X4 tyX4 tyX4_ok nmX4 hO rfl 9 (by decide) lkX4_step_f53 rfl rfl rfl rfl (Nat.le_of_ble_eq_true rfl) [.ref (ad 0), .ref (ad 1), .ref (ad 2), .ref (ad 3), .int (nI q2), .int (v1 5), .int (v1 6), .ref y, .ref (ad 5), .int (v1 9 + rw k 2), .int (v1 10), .int (v1 11), .int (v1 12), .int (v1 13)] rfl dX4_step_199 (fun f H locs k6 hO6 hw => ?_)
      have hA := hA.obj hO k6
      have hO := hO6
      refine lv_aload_n hx hb dX4_step_202 rfl (lv_at hl 3 rfl) ?_
      refine lv_dup hx hb dX4_step_203 rfl ?_
      refine pget (C := RX4) (T := TX4) (N := 14) (ci := 4) hc hw inX4_step_X4 hO rfl 10 (by decide) lkX4_step_f56 rfl rfl dX4_step_204 ?_
      refine lv_iload hx hb dX4_step_207 (lv_at hl 0 rfl) ?_
      refine lv_iadd hx hb dX4_step_209 ?_
      refine pput (C := RX4) (T := TX4) (N := 14) (ci := 4) (ty := .int) hc hw inX4_step_X4 tyX4 tyX4_ok nmX4 hO rfl 10 (by decide) lkX4_step_f56 rfl rfl rfl rfl (Nat.le_of_ble_eq_true rfl) [.ref (ad 0), .ref (ad 1), .ref (ad 2), .ref (ad 3), .int (nI q2), .int (v1 5), .int (v1 6), .ref y, .ref (ad 5), .int (v1 9 + rw k 2), .int (v1 10 + rw k 2), .int (v1 11), .int (v1 12), .int (v1 13)] rfl dX4_step_210 (fun f H locs k7 hO7 hw => ?_)
      have hA := hA.obj hO k7
      have hO := hO7
      have hO : objS L2 f aS 4 [.ref (ad 0), .ref (ad 1), .ref (ad 2), .ref (ad 3), .int ((upd (upd (upd v1 4 (wy (wl - 1) 0)) 9 (v1 9 + rw k 2)) 10 (v1 10 + rw k 2)) 4), .int ((upd (upd (upd v1 4 (wy (wl - 1) 0)) 9 (v1 9 + rw k 2)) 10 (v1 10 + rw k 2)) 5), .int ((upd (upd (upd v1 4 (wy (wl - 1) 0)) 9 (v1 9 + rw k 2)) 10 (v1 10 + rw k 2)) 6), .ref y, .ref (ad 5), .int ((upd (upd (upd v1 4 (wy (wl - 1) 0)) 9 (v1 9 + rw k 2)) 10 (v1 10 + rw k 2)) 9), .int ((upd (upd (upd v1 4 (wy (wl - 1) 0)) 9 (v1 9 + rw k 2)) 10 (v1 10 + rw k 2)) 10), .int ((upd (upd (upd v1 4 (wy (wl - 1) 0)) 9 (v1 9 + rw k 2)) 10 (v1 10 + rw k 2)) 11), .int ((upd (upd (upd v1 4 (wy (wl - 1) 0)) 9 (v1 9 + rw k 2)) 10 (v1 10 + rw k 2)) 12), .int ((upd (upd (upd v1 4 (wy (wl - 1) 0)) 9 (v1 9 + rw k 2)) 10 (v1 10 + rw k 2)) 13)] := by
        have := hO
        rw [← hq2'] at this
        exact this
      refine lpS_stE (v := (upd (upd (upd v1 4 (wy (wl - 1) 0)) 9 (v1 9 + rw k 2)) 10 (v1 10 + rw k 2))) (rw := rw) (ak := ak1) (wl := (wl - 1)) (wy := wy) (mp := mp1) (mm := mm1) hc hg6 (by omega) hn10 hr20 (by omega) (fun j hj => hV.2.2 j (by omega)) (Nat.le_of_ble_eq_true rfl) (Nat.le_of_ble_eq_true rfl) ⟨by (try dsimp only); omega, by (try dsimp only); omega⟩ hO hA (fun L f H locs ls pc v3 rw3 ak3 wl3 mp3 mm3 hd hS hw hdec => ?_) (lv_sub hl [3] rfl) hw
      refine pret_z hc hw rfl ⟨v3, rw3, ak3, wl3, _, mp3, mm3, ⟨_, v1, ak1, mp1, mm1, hch, Or.inr ⟨(upd (upd (upd v1 4 (wy (wl - 1) 0)) 9 (v1 9 + rw k 2)) 10 (v1 10 + rw k 2)), rw, (wl - 1), wy, (Or.inr ⟨by rw [hr1]; decide, by omega, rfl, rfl, rfl, rw k 2, by rw [hq2c, hx2c, hkc], rfl⟩), rfl, ?_⟩⟩, hS⟩ (by first | exact ⟨Nat.le_of_ble_eq_true rfl, Nat.le_of_ble_eq_true rfl⟩ | (refine ⟨?_, ?_⟩ <;> ((try dsimp only); omega))) hdec
      rcases hd with ⟨d1, d2, d3, d4, d5, d6, d7⟩ | ⟨d1, d2, d3, d4, d5, d6, d7⟩
      · exact Or.inl ⟨d1, d2, d3, d4, d5, rfl, d6, d7⟩
      · exact Or.inr ⟨d1, d2, d3, d4, d5, rfl, d6, d7⟩
    · have hw0 : wl = 0 := (by
        cases wl with
        | zero => rfl
        | succ t => exact absurd hnz (nI_ne0 (by omega) (by omega)))
      refine lv_aload_n hx hb dX4_step_91 rfl (lv_at hl 1 rfl) ?_
      refine lv_dup hx hb dX4_step_92 rfl ?_
      refine pget (C := RX4) (T := TX4) (N := 14) (ci := 4) hc hw inX4_step_X4 hO rfl 12 (by decide) lkX4_step_f62 rfl rfl dX4_step_93 ?_
      refine lv_iconst (v := 1) hx hb dX4_step_96 (by decide) ?_
      refine lv_iadd hx hb dX4_step_97 ?_
      refine pput (C := RX4) (T := TX4) (N := 14) (ci := 4) (ty := .int) hc hw inX4_step_X4 tyX4 tyX4_ok nmX4 hO rfl 12 (by decide) lkX4_step_f62 rfl rfl rfl rfl (Nat.le_of_ble_eq_true rfl) [.ref (ad 0), .ref (ad 1), .ref (ad 2), .ref (ad 3), .int (v1 4), .int (v1 5), .int (v1 6), .ref (ad 4), .ref (ad 5), .int (v1 9), .int (v1 10), .int (v1 11), .int (v1 12 + 1), .int (v1 13)] rfl dX4_step_98 (fun f H locs k1 hO1 hw => ?_)
      have hA := hA.obj hO k1
      have hO := hO1
      refine lv_aload_n hx hb dX4_step_101 rfl (lv_at hl 1 rfl) ?_
      refine pcall_v hc hw (prunV (n := 0) (As := []) (rest := []) hc hw (metS_over l G _ _ _ aS (upd v1 12 (v1 12 + 1)) n xn xr nr rw sh ak1 wl wy mp1 mm1 ⟨_, _, _, hO, hA⟩ hr20) gX4_step_X4_over rfl (by decide +kernel) ⟨Nat.le_of_ble_eq_true rfl, Nat.le_of_ble_eq_true rfl⟩ hO rfl rfl rfl hl.1 (Nat.le_of_ble_eq_true rfl) dX4_step_102 (by first | exact ⟨Nat.le_of_ble_eq_true rfl, Nat.le_of_ble_eq_true rfl⟩ | (refine ⟨?_, ?_⟩ <;> ((try dsimp only); omega)))) (fun L1 f H locs hp hw => ?_)
      refine lv_iconst (v := 0) hx hb dX4_step_105 (by decide) ?_
      exact pret_z hc hw rfl ⟨_, _, _, _, _, _, _, ⟨_, v1, ak1, mp1, mm1, hch, Or.inl ⟨by rw [hr1]; decide, hw0, rfl, rfl, rfl, rfl, rfl, rfl, rfl, rfl⟩⟩, hp⟩ (by first | exact ⟨Nat.le_of_ble_eq_true rfl, Nat.le_of_ble_eq_true rfl⟩ | (refine ⟨?_, ?_⟩ <;> ((try dsimp only); omega))) dX4_step_106
  · obtain ⟨x, hrx, hx0⟩ : ∃ x, r = nI x ∧ x < xn q := (by
      rcases hr with h | h
      · exact absurd (by rw [h]; decide) hz
      · exact h)
    subst hrx
    obtain ⟨⟨hR1, hR2, hR3⟩, ⟨hE1, hE2⟩, -⟩ := id hA
    obtain ⟨hx4, ea, he1, he2⟩ := hE2 q hq
    obtain ⟨k, hk1, hk2⟩ := hX.2.2.1 q x hq hx0
    obtain ⟨ra, hr1, hr2⟩ := hR2 k hk2
    have hkc : (xr q x).toNatClampNeg = k := by rw [hk1, nI_clamp (by omega)]
    have hAp0 := hA
    refine lv_aload_n hx hb dX4_step_9 rfl (lv_at hl 1 rfl) ?_
    refine pget (C := RX4) (T := TX4) (N := 14) (ci := 4) hc hw inX4_step_X4 hO rfl 0 (by decide) lkX4_step_f9 rfl rfl dX4_step_10 ?_
    refine lv_aload_n hx hb dX4_step_13 rfl (lv_at hl 1 rfl) ?_
    refine pget (C := RX4) (T := TX4) (N := 14) (ci := 4) hc hw inX4_step_X4 hO rfl 1 (by decide) lkX4_step_f15 rfl rfl dX4_step_14 ?_
    refine lv_aload_n hx hb dX4_step_17 rfl (lv_at hl 1 rfl) ?_
    refine pget (C := RX4) (T := TX4) (N := 14) (ci := 4) hc hw inX4_step_X4 hO rfl 4 (by decide) lkX4_step_f25 rfl rfl dX4_step_18 ?_
    refine pald hc hw hE1 q hq4 hq (by omega) (v := .ref ea) (by rw [he1]; rfl) dX4_step_21 ?_
    refine lv_iload_n hx hb dX4_step_22 rfl (lv_at hl 0 rfl) ?_
    refine pild hc hw he2 x rfl hx0 (by omega) (v := (nI k)) hk1 dX4_step_23 ?_
    refine pald hc hw hR1 k rfl hk2 (by omega) (v := .ref ra) (by rw [hr1]; rfl) dX4_step_24 ?_
    refine lv_astore_n (lv' := [(2, .ref ra), (1, .int (nI x)), (0, .ref aS)]) hx hb dX4_step_25 rfl hl (by decide) rfl (fun ls hl => ?_)
    refine lv_aload_n hx hb dX4_step_26 rfl (lv_at hl 0 rfl) ?_
    refine lv_iconst (v := 4) hx hb dX4_step_27 (by decide) ?_
    refine lv_iconst (v := 1) hx hb dX4_step_28 (by decide) ?_
    refine pist hc hw hr2 4 rfl (by decide) (by omega) dX4_step_29 (fun f H locs k2 r2 hw => ?_)
    have hO := hO.kp k2 (hO.neI hr2)
    have hA := hA.setRoad hk2 hr1 k2 r2
    have hr2 := r2
    have hAp := hA
    refine lv_aload_n hx hb dX4_step_30 rfl (lv_at hl 2 rfl) ?_
    refine lv_aload_n hx hb dX4_step_31 rfl (lv_at hl 2 rfl) ?_
    refine pget (C := RX4) (T := TX4) (N := 14) (ci := 4) hc hw inX4_step_X4 hO rfl 7 (by decide) lkX4_step_f32 rfl rfl dX4_step_32 ?_
    refine lv_iconst (v := 2) hx hb dX4_step_35 (by decide) ?_
    refine pnewI hc hw 2 rfl (by omega) lkX4_step_aI (by first | exact Nat.le_of_ble_eq_true rfl | ((try dsimp only); omega)) (by first | exact Nat.le_of_ble_eq_true rfl | ((try dsimp only); omega)) dX4_step_36 (fun z L2 f2 H hzn k3 r3 hw => ?_)
    have hzr : ¬ ra = z := fun w => hzn (w ▸ hr2.1)
    have hO := hO.kp k3 (fun z => z)
    have hA := hA.fresh k3
    have hr2 := hr2.kp k3 (fun z => z)
    have hO0 := hO
    have hA0 := hA
    have hr20' := hr2
    refine lv_dup hx hb dX4_step_38 rfl ?_
    refine lv_iconst (v := 0) hx hb dX4_step_39 (by decide) ?_
    refine lv_aload_n hx hb dX4_step_40 rfl (lv_at hl 2 rfl) ?_
    refine pget (C := RX4) (T := TX4) (N := 14) (ci := 4) hc hw inX4_step_X4 hO rfl 4 (by decide) lkX4_step_f25 rfl rfl dX4_step_41 ?_
    refine pist hc hw r3 0 rfl (by decide) (by omega) dX4_step_44 (fun f H locs k4 r4 hw => ?_)
    have kz := k4
    refine lv_dup hx hb dX4_step_45 rfl ?_
    refine lv_iconst (v := 1) hx hb dX4_step_46 (by decide) ?_
    refine lv_iload_n hx hb dX4_step_47 rfl (lv_at hl 1 rfl) ?_
    refine pist hc hw r4 1 rfl (by decide) (by omega) dX4_step_48 (fun f H locs k5 r5 hw => ?_)
    have kz2 := kz.tr k5
    have hOz := hO.kp kz2 (hO.neI r3)
    have hA := hAp.fresh (k3.off hzn kz2)
    have hO := hOz
    have hr2 := hr2.kp kz2 hzr
    obtain ⟨-, -, -, ⟨hW1, hW2⟩, -⟩ := id hA
    refine pcall_r hc hw (prunS (n := 2) (As := [.ref (ad 4), .ref z]) (rest := [.ref aS]) hc hw (metS_more l G _ _ _ (ad 4) wl z 2 _ (oo 2) (by omega) hW1 (fun j hj => (by obtain ⟨b, e1, e2⟩ := hW2 j hj; exact ⟨b, _, _, e1, e2⟩)) r5) gX4_step_X4_more rfl (by decide +kernel) ⟨Nat.le_of_ble_eq_true rfl, Nat.le_of_ble_eq_true rfl⟩ rfl rfl hl.1 (Nat.le_of_ble_eq_true rfl) dX4_step_49 (by first | exact ⟨Nat.le_of_ble_eq_true rfl, Nat.le_of_ble_eq_true rfl⟩ | (refine ⟨?_, ?_⟩ <;> ((try dsimp only); omega)))) (fun y L3 f3 H locs hp hw => ?_)
    obtain ⟨hyn, k6, o1, y2, y3, y4⟩ := hp
    obtain ⟨⟨n0, n1, n2, n3, n4, n5⟩, n6⟩ := hA.nin hyn
    have hO := hO.kp k6 (fun z => z)
    have hA := hA.fresh k6
    have hr2 := hr2.kp k6 (fun z => z)
    have r5 := r5.kp k6 (fun z => z)
    refine pput (C := RX4) (T := TX4) (N := 14) (ci := 4) (ty := .int) hc hw inX4_step_X4 tyX4 tyX4_ok nmX4 hO rfl 7 (by decide) lkX4_step_f32 rfl rfl rfl rfl (Nat.le_of_ble_eq_true rfl) [.ref (ad 0), .ref (ad 1), .ref (ad 2), .ref (ad 3), .int (v1 4), .int (v1 5), .int (v1 6), .ref y, .ref (ad 5), .int (v1 9), .int (v1 10), .int (v1 11), .int (v1 12), .int (v1 13)] rfl dX4_step_52 (fun f H locs k7 hO7 hw => ?_)
    have y2 := y2.kp k7 (hO.neA y2).symm
    have hr2 := hr2.kp k7 (hO.neI hr2).symm
    have r5 := r5.kp k7 (hO.neI r5).symm
    have hA := hA.obj hO k7
    have hO := hO7
    obtain ⟨-, -, -, ⟨hW1, hW2⟩, -⟩ := id hA
    have hA := hA.newW (q := y) (wl1 := wl + 1) (o1 := o1) (wy1 := sWy wy wl q x) ⟨y2, fun j hj => ?_⟩ n1.symm n6
    rotate_left
    · unfold sWy
      by_cases ej : j = wl
      · subst ej
        rw [va_up_self]
        refine ⟨z, y4, ?_⟩
        rw [← hq4]
        exact r5
      · obtain ⟨b, e1, e2⟩ := hW2 j (by omega)
        rw [va_up_ne _ _ ej]
        exact ⟨b, (y3 j (by omega)).trans e1, e2⟩
    have hO : objS L3 f aS 4 [.ref (ad 0), .ref (ad 1), .ref (ad 2), .ref (ad 3), .int (v1 4), .int (v1 5), .int (v1 6), .ref y, .ref (ad 5), .int (v1 9), .int (v1 10), .int (v1 11), .int (v1 12), .int (v1 13)] := hO
    refine lv_aload_n hx hb dX4_step_55 rfl (lv_at hl 2 rfl) ?_
    refine lv_aload_n hx hb dX4_step_56 rfl (lv_at hl 2 rfl) ?_
    refine lv_aload_n hx hb dX4_step_57 rfl (lv_at hl 2 rfl) ?_
    refine pget (C := RX4) (T := TX4) (N := 14) (ci := 4) hc hw inX4_step_X4 hO rfl 4 (by decide) lkX4_step_f25 rfl rfl dX4_step_58 ?_
    refine lv_iload_n hx hb dX4_step_61 rfl (lv_at hl 1 rfl) ?_
    rw [hq4]
    refine pcall_i hc hw (prunV (n := 2) (As := [.int (nI q), .int (nI x)]) (rest := [.ref aS]) hc hw (metS_to l G _ _ _ aS v1 n xn xr nr (va_up rw k (upd (rw k) 4 1)) _ _ _ _ _ _ ⟨_, _, _, hO, hA⟩ (sX_set hX k 1) q x hq hx0) gX4_step_X4_to rfl (by decide +kernel) ⟨Nat.le_of_ble_eq_true rfl, Nat.le_of_ble_eq_true rfl⟩ hO rfl rfl rfl hl.1 (Nat.le_of_ble_eq_true rfl) dX4_step_62 (by first | exact ⟨Nat.le_of_ble_eq_true rfl, Nat.le_of_ble_eq_true rfl⟩ | (refine ⟨?_, ?_⟩ <;> ((try dsimp only); omega)))) (fun t L9 f9 H locs hp hw => ?_)
    obtain ⟨het, eu⟩ := hp
    obtain ⟨eL, ef⟩ := Prod.mk.inj eu
    rw [eL, ef] at hw
    rw [sTo_set] at het
    refine pput (C := RX4) (T := TX4) (N := 14) (ci := 4) (ty := .int) hc hw inX4_step_X4 tyX4 tyX4_ok nmX4 hO rfl 4 (by decide) lkX4_step_f25 rfl rfl rfl rfl (Nat.le_of_ble_eq_true rfl) [.ref (ad 0), .ref (ad 1), .ref (ad 2), .ref (ad 3), .int t, .int (v1 5), .int (v1 6), .ref y, .ref (ad 5), .int (v1 9), .int (v1 10), .int (v1 11), .int (v1 12), .int (v1 13)] rfl dX4_step_65 (fun f H locs k8 hO8 hw => ?_)
    have hr2 := hr2.kp k8 (hO.neI hr2).symm
    have hA := hA.obj hO k8
    have hO := hO8
    refine lv_aload_n hx hb dX4_step_68 rfl (lv_at hl 2 rfl) ?_
    refine lv_dup hx hb dX4_step_69 rfl ?_
    refine pget (C := RX4) (T := TX4) (N := 14) (ci := 4) hc hw inX4_step_X4 hO rfl 9 (by decide) lkX4_step_f53 rfl rfl dX4_step_70 ?_
    refine lv_aload_n hx hb dX4_step_73 rfl (lv_at hl 0 rfl) ?_
    refine lv_iconst (v := 2) hx hb dX4_step_74 (by decide) ?_
    refine pild hc hw hr2 2 rfl (by decide) (by omega) (v := (rw k 2)) rfl dX4_step_75 ?_
    refine lv_iadd hx hb dX4_step_76 ?_
    refine pput (C := RX4) (T := TX4) (N := 14) (ci := 4) (ty := .int) hc hw inX4_step_X4 tyX4 tyX4_ok nmX4 hO rfl 9 (by decide) lkX4_step_f53 rfl rfl rfl rfl (Nat.le_of_ble_eq_true rfl) [.ref (ad 0), .ref (ad 1), .ref (ad 2), .ref (ad 3), .int t, .int (v1 5), .int (v1 6), .ref y, .ref (ad 5), .int (v1 9 + rw k 2), .int (v1 10), .int (v1 11), .int (v1 12), .int (v1 13)] rfl dX4_step_77 (fun f H locs k9 hO9 hw => ?_)
    have hA := hA.obj hO k9
    have hO := hO9
    refine lv_goto (tgt := 213) hx hb dX4_step_80 (by decide) ?_
    have hO : objS L3 f aS 4 [.ref (ad 0), .ref (ad 1), .ref (ad 2), .ref (ad 3), .int ((upd (upd v1 4 (sTo rw xr q x)) 9 (v1 9 + rw k 2)) 4), .int ((upd (upd v1 4 (sTo rw xr q x)) 9 (v1 9 + rw k 2)) 5), .int ((upd (upd v1 4 (sTo rw xr q x)) 9 (v1 9 + rw k 2)) 6), .ref y, .ref (ad 5), .int ((upd (upd v1 4 (sTo rw xr q x)) 9 (v1 9 + rw k 2)) 9), .int ((upd (upd v1 4 (sTo rw xr q x)) 9 (v1 9 + rw k 2)) 10), .int ((upd (upd v1 4 (sTo rw xr q x)) 9 (v1 9 + rw k 2)) 11), .int ((upd (upd v1 4 (sTo rw xr q x)) 9 (v1 9 + rw k 2)) 12), .int ((upd (upd v1 4 (sTo rw xr q x)) 9 (v1 9 + rw k 2)) 13)] := by
      rw [het] at hO
      exact hO
    refine lpS_stE (v := (upd (upd v1 4 (sTo rw xr q x)) 9 (v1 9 + rw k 2))) (rw := (va_up rw k (upd (rw k) 4 1))) (ak := ak1) (wl := (wl + 1)) (wy := (sWy wy wl q x)) (mp := mp1) (mm := mm1) hc hg6 (by omega) hn10 hr20 (by omega) (fun j hj => (by
        unfold sWy
        by_cases ej : j = wl
        · subst ej
          rw [va_up_self]
          exact ⟨q, x, rfl, hq, rfl, hx0⟩
        · rw [va_up_ne _ _ ej]
          exact hV.2.2 j (by omega))) (Nat.le_of_ble_eq_true rfl) (Nat.le_of_ble_eq_true rfl) ⟨by (try dsimp only); omega, by (try dsimp only); omega⟩ hO hA (fun L f H locs ls pc v3 rw3 ak3 wl3 mp3 mm3 hd hS hw hdec => ?_) (lv_sub hl [2] rfl) hw
    refine pret_z hc hw rfl ⟨v3, rw3, ak3, wl3, _, mp3, mm3, ⟨_, v1, ak1, mp1, mm1, hch, Or.inr ⟨(upd (upd v1 4 (sTo rw xr q x)) 9 (v1 9 + rw k 2)), (va_up rw k (upd (rw k) 4 1)), (wl + 1), (sWy wy wl q x), (Or.inl ⟨x, rfl, by rw [hkc], rfl, rfl, by rw [hkc]⟩), rfl, ?_⟩⟩, hS⟩ (by first | exact ⟨Nat.le_of_ble_eq_true rfl, Nat.le_of_ble_eq_true rfl⟩ | (refine ⟨?_, ?_⟩ <;> ((try dsimp only); omega))) hdec
    rcases hd with ⟨d1, d2, d3, d4, d5, d6, d7⟩ | ⟨d1, d2, d3, d4, d5, d6, d7⟩
    · exact Or.inl ⟨d1, d2, d3, d4, d5, rfl, d6, d7⟩
    · exact Or.inr ⟨d1, d2, d3, d4, d5, rfl, d6, d7⟩
end
section
theorem inX4_go_X4 : ∀ w ∈ u_ws RX4 TX4 14, w ∈ wsX4_go := fun _ h => List.mem_cons_of_mem _ (List.mem_append_right _ h)
theorem lkX4_go_f29 : Cond.fieldLink RX4 29 "MapCarrierLaw$Sim" "goal" "I" ∈ wsX4_go := List.mem_of_getElem? (i := 1) (by decide +kernel)
theorem inX4_knows_X4 : ∀ w ∈ u_ws RX4 TX4 14, w ∈ wsX4_knows := fun _ h => List.mem_cons_of_mem _ (List.mem_append_right _ h)
theorem lkX4_knows_f37 : Cond.fieldLink RX4 37 "MapCarrierLaw$Sim" "memory" "[[[I" ∈ wsX4_knows := List.mem_of_getElem? (i := 2) (by decide +kernel)
theorem lkX4_knows_f9 : Cond.fieldLink RX4 9 "MapCarrierLaw$Sim" "roads" "[[I" ∈ wsX4_knows := List.mem_of_getElem? (i := 3) (by decide +kernel)
theorem lkX4_knows_f15 : Cond.fieldLink RX4 15 "MapCarrierLaw$Sim" "exits" "[[I" ∈ wsX4_knows := List.mem_of_getElem? (i := 4) (by decide +kernel)
theorem lkX4_knows_f25 : Cond.fieldLink RX4 25 "MapCarrierLaw$Sim" "where" "I" ∈ wsX4_knows := List.mem_of_getElem? (i := 1) (by decide +kernel)
/-! the second carrier: many steps, a night, a way that is known -/
set_option maxHeartbeats 40000000 in
set_option maxRecDepth 100000 in
theorem lpS_go {p : Program} {l : Launch} {e : Env} {R : Room} {s : State} {m : MethodId} {args : Array Value} {below : List Frame} {meth : Method} {c : Code} {cells slots : Nat} {Q : State → Prop} {ret : Option FieldType} {G : xG} {A : Nat → Prop} (hc : xC p s m args meth c cX4_go 3 RX4 wsX4_go ret G A) {aS : Nat} {n : Nat} {xn : Nat → Nat} {xr : Nat → Nat → Int32} {nr : Nat} {sh : Nat → Int32} {N : Nat} (hN : N ≤ 100) (J E : Nat → (Nat → Int32) → (Nat → Nat → Int32) → (Nat → Int32) → Nat → (Nat → Nat → Int32) → (Nat → Nat → Bool) → (Nat → Nat → Nat → Int32) → Prop) (hJ : ∀ i (v : Nat → Int32) (rw : Nat → Nat → Int32) (ak : Nat → Int32) (wl : Nat) (wy : Nat → Nat → Int32) (mp : Nat → Nat → Bool) (mm : Nat → Nat → Nat → Int32), J i v rw ak wl wy mp mm → ¬ v 6 < 0 → ∃ q g, sX n xn xr nr rw ∧ sVd n xn v wl wy mp mm ∧ v 4 = nI q ∧ q < n ∧ v 6 = nI g ∧ g < n ∧ ∀ b v2 rw2 ak2 wl2 wy2 mp2 mm2, sStR v n xn xr nr rw sh ak wl wy mp mm q g b v2 rw2 ak2 wl2 wy2 mp2 mm2 → (¬ b = 0 → J (i + 1) v2 rw2 ak2 wl2 wy2 mp2 mm2) ∧ (b = 0 → E i v2 rw2 ak2 wl2 wy2 mp2 mm2)) (hsh : ∀ k, k < 10 → sh k = 0 ∨ sh k = 1) (hRf : 5 ≤ R.frames) (hRl : 150 ≤ R.locals) (hRc : cells + 30 * N ≤ R.cells ∧ slots + 137 * N ≤ R.slots)
    (kx : ∀ (L : List Nat) (f : Nat → va_E) (H : Heap) (locs : List Loc) (ls : Array Slot) (i : Nat) (v : Nat → Int32) (rw : Nat → Nat → Int32) (ak : Nat → Int32) (wl : Nat) (wy : Nat → Nat → Int32) (mp : Nat → Nat → Bool) (mm : Nat → Nat → Nat → Int32), i ≤ N → ((J i v rw ak wl wy mp mm ∧ (N ≤ i ∨ v 6 < 0)) ∨ E i v rw ak wl wy mp mm) → Sh G L f aS v n xn xr nr rw sh ak wl wy mp mm → lv_has ls 3 [(2, .int (nI i)), (0, .ref aS), (1, .int (nI N))] → xW G A s.heap (([] : va_W) ++ va_pl L f) H locs → W p l e R s m args below meth c H locs (cells + 30 * N) (slots + 137 * N) Q (F0 m 27 ls [])) :
    ∀ (d i : Nat), i + d = N → ∀ (L : List Nat) (f : Nat → va_E) (v : Nat → Int32) (rw : Nat → Nat → Int32) (ak : Nat → Int32) (wl : Nat) (wy : Nat → Nat → Int32) (mp : Nat → Nat → Bool) (mm : Nat → Nat → Nat → Int32) (H : Heap) (locs : List Loc) (ls : Array Slot), J i v rw ak wl wy mp mm → Sh G L f aS v n xn xr nr rw sh ak wl wy mp mm → lv_has ls 3 [(2, .int (nI i)), (0, .ref aS), (1, .int (nI N))] → xW G A s.heap (([] : va_W) ++ va_pl L f) H locs → W p l e R s m args below meth c H locs (cells + 30 * i) (slots + 137 * i) Q (F0 m 2 ls []) := by
  obtain ⟨hx, hb, -, hown, hts, -⟩ := id hc
  intro d
  induction d with
  | zero =>
    intro i hd L f v rw ak wl wy mp mm H locs ls hj hS hl hw
    refine lv_iload_n hx hb dX4_go_2 rfl (lv_at hl 0 rfl) ?_
    refine lv_iload_n hx hb dX4_go_3 rfl (lv_at hl 2 rfl) ?_
    refine lv_icmp_ge (tgt := 27) hx hb dX4_go_4 (by decide) (fun hz => ?_) (fun h => absurd (nI_le (by omega) (by omega)) h)
    exact pW_le (by omega) (by omega) (kx L f H locs ls i v rw ak wl wy mp mm (by omega) (Or.inl ⟨hj, Or.inl (by omega)⟩) hS hl hw)
  | succ d ih =>
    intro i hd L f v rw ak wl wy mp mm H locs ls hj hS hl hw
    obtain ⟨ad, oo, om, hO, hA⟩ := id hS
    have hO : objS L f aS 4 [.ref (ad 0), .ref (ad 1), .ref (ad 2), .ref (ad 3), .int (v 4), .int (v 5), .int (v 6), .ref (ad 4), .ref (ad 5), .int (v 9), .int (v 10), .int (v 11), .int (v 12), .int (v 13)] := hO
    refine lv_iload_n hx hb dX4_go_2 rfl (lv_at hl 0 rfl) ?_
    refine lv_iload_n hx hb dX4_go_3 rfl (lv_at hl 2 rfl) ?_
    refine lv_icmp_ge (tgt := 27) hx hb dX4_go_4 (by decide) (fun h => absurd h (nI_ge (by omega) (by omega))) (fun hz => ?_)
    refine lv_aload_n hx hb dX4_go_7 rfl (lv_at hl 1 rfl) ?_
    refine pget (C := RX4) (T := TX4) (N := 14) (ci := 4) hc hw inX4_go_X4 hO rfl 6 (by decide) lkX4_go_f29 rfl rfl dX4_go_8 ?_
    refine lv_if_lt (tgt := 27) hx hb dX4_go_11 (by decide) (fun hgo => ?_) (fun hgo => ?_)
    · exact pW_le (by omega) (by omega) (kx L f H locs ls i v rw ak wl wy mp mm (by omega) (Or.inl ⟨hj, Or.inr hgo⟩) hS hl hw)
    · obtain ⟨q, g, hX, hV, hq4, hq, hg6, hg, hst⟩ := hJ i v rw ak wl wy mp mm hj (by rw [xltI]; rw [xle] at hgo; exact Int.not_lt.mpr hgo)
      refine lv_aload_n hx hb dX4_go_14 rfl (lv_at hl 1 rfl) ?_
      refine pcall_i hc hw (prunV (n := 0) (As := []) (rest := []) hc hw (metS_step l G _ _ _ aS v n xn xr nr rw sh ak wl wy mp mm q g hS hX hV hq4 hq hg6 hg hsh) gX4_go_X4_step rfl (by decide +kernel) ⟨by (try dsimp only); omega, by (try dsimp only); omega⟩ hO rfl rfl rfl hl.1 (Nat.le_of_ble_eq_true rfl) dX4_go_15 ⟨by have := hRc.1; (try dsimp only); omega, by have := hRc.2; (try dsimp only); omega⟩) (fun b L1 f1 H locs hp hw => ?_)
      obtain ⟨v2, rw2, ak2, wl2, wy2, mp2, mm2, hst2, hS2⟩ := hp
      obtain ⟨hj1, hj2⟩ := hst _ _ _ _ _ _ _ _ hst2
      refine lv_if_eq (tgt := 27) hx hb dX4_go_18 (by decide) (fun hz0 => ?_) (fun hz0 => ?_)
      · exact pW_le (by (try dsimp only); omega) (by (try dsimp only); omega) (kx L1 f1 H locs ls i v2 rw2 ak2 wl2 wy2 mp2 mm2 (by omega) (Or.inr (hj2 hz0)) hS2 hl hw)
      · refine lv_iinc (v := nI (i + 1)) (lv' := [(2, .int (nI (i + 1))), (0, .ref aS), (1, .int (nI N))]) hx hb dX4_go_21 hl (k := 0) rfl (nI_1 _) (by decide) rfl (fun ls hl => ?_)
        refine lv_goto (tgt := 2) hx hb dX4_go_24 (by decide) ?_
        exact pW_eq (by (try dsimp only); omega) (by (try dsimp only); omega) (ih (i + 1) (by omega) L1 f1 v2 rw2 ak2 wl2 wy2 mp2 mm2 H locs ls (hj1 hz0) hS2 hl hw)
set_option maxHeartbeats 40000000 in
set_option maxRecDepth 100000 in
theorem metS_go (l : Launch) (G : xG) (sz : Nat) (L : List Nat) (f : Nat → va_E) (aS : Nat) (v : Nat → Int32) (n : Nat) (xn : Nat → Nat) (xr : Nat → Nat → Int32) (nr : Nat) (rw : Nat → Nat → Int32) (sh ak : Nat → Int32) (wl : Nat) (wy : Nat → Nat → Int32) (mp : Nat → Nat → Bool) (mm : Nat → Nat → Nat → Int32) (N : Nat) (S : Sh G L f aS v n xn xr nr rw sh ak wl wy mp mm) (hN : N ≤ 100) (J E : Nat → (Nat → Int32) → (Nat → Nat → Int32) → (Nat → Int32) → Nat → (Nat → Nat → Int32) → (Nat → Nat → Bool) → (Nat → Nat → Nat → Int32) → Prop) (hJ : ∀ i (v : Nat → Int32) (rw : Nat → Nat → Int32) (ak : Nat → Int32) (wl : Nat) (wy : Nat → Nat → Int32) (mp : Nat → Nat → Bool) (mm : Nat → Nat → Nat → Int32), J i v rw ak wl wy mp mm → ¬ v 6 < 0 → ∃ q g, sX n xn xr nr rw ∧ sVd n xn v wl wy mp mm ∧ v 4 = nI q ∧ q < n ∧ v 6 = nI g ∧ g < n ∧ ∀ b v2 rw2 ak2 wl2 wy2 mp2 mm2, sStR v n xn xr nr rw sh ak wl wy mp mm q g b v2 rw2 ak2 wl2 wy2 mp2 mm2 → (¬ b = 0 → J (i + 1) v2 rw2 ak2 wl2 wy2 mp2 mm2) ∧ (b = 0 → E i v2 rw2 ak2 wl2 wy2 mp2 mm2)) (hsh : ∀ k, k < 10 → sh k = 0 ∨ sh k = 1) (hj : J 0 v rw ak wl wy mp mm) : pMi l yX4_go wsX4_go ⟨5, 3000, 13700, 150⟩ G [.ref aS, .int (nI N)] L f sz (fun r u => ∃ i v2 rw2 ak2 wl2 wy2 mp2 mm2, r = nI i ∧ i ≤ N ∧ ((J i v2 rw2 ak2 wl2 wy2 mp2 mm2 ∧ (N ≤ i ∨ v2 6 < 0)) ∨ E i v2 rw2 ak2 wl2 wy2 mp2 mm2) ∧ Sh G u.1 u.2 aS v2 n xn xr nr rw2 sh ak2 wl2 wy2 mp2 mm2) := by
  refine xof (own := RX4) (cc := cX4_go) (maxL := 3) (ret := (some .int)) rfl (by decide) rfl (Nat.le_of_ble_eq_true rfl) ?_
  intro pg en s mi below meth cd hc hnm hw ls hl
  obtain ⟨hx, hb, -, hown, hts, -⟩ := id hc
  have hl : lv_has ls 3 [(0, .ref aS), (1, .int (nI N))] := hl
  have hw : xW G _ s.heap (([] : va_W) ++ va_pl L f) s.heap [] := hw
  refine lv_iconst (v := 0) hx hb dX4_go_0 (by decide) ?_
  refine lv_istore_n (lv' := [(2, .int 0), (0, .ref aS), (1, .int (nI N))]) hx hb dX4_go_1 rfl hl (by decide) rfl (fun ls hl => ?_)
  refine lpS_go (cells := 0) (slots := 0) hc hN J E hJ hsh (Nat.le_of_ble_eq_true rfl) (Nat.le_of_ble_eq_true rfl) ⟨by (try dsimp only); omega, by (try dsimp only); omega⟩ (fun L f H locs ls i v rw ak wl wy mp mm hi hd hS hl hw => ?_) N 0 (by omega) L f v rw ak wl wy mp mm _ _ ls hj S hl hw
  refine lv_iload_n hx hb dX4_go_27 rfl (lv_at hl 0 rfl) ?_
  exact pret_i hc hw (⟨i, v, rw, ak, wl, wy, mp, mm, rfl, hi, hd, hS⟩) (by first | exact ⟨Nat.le_of_ble_eq_true rfl, Nat.le_of_ble_eq_true rfl⟩ | (refine ⟨?_, ?_⟩ <;> ((try dsimp only); omega))) dX4_go_28
def sKn (rw xr : Nat → Nat → Int32) (mp : Nat → Nat → Bool) (mm : Nat → Nat → Nat → Int32) (g : Nat) : Nat → Nat → Int32
  | 0, a => if nI a = nI g then 1 else 0
  | d + 1, a => if nI a = nI g then 1 else if mp g a = false then 0 else if rw (xr a (mm g a 0).toNatClampNeg).toNatClampNeg 3 = 0 then 0 else sKn rw xr mp mm g d (sTo rw xr a (mm g a 0).toNatClampNeg).toNatClampNeg
set_option maxHeartbeats 40000000 in
set_option maxRecDepth 100000 in
theorem lpS_knows {p : Program} {l : Launch} {e : Env} {R : Room} {s : State} {m : MethodId} {args : Array Value} {below : List Frame} {meth : Method} {c : Code} {cells slots : Nat} {Q : State → Prop} {ret : Option FieldType} {G : xG} {A : Nat → Prop} (hc : xC p s m args meth c cX4_knows 5 RX4 wsX4_knows ret G A) {aS : Nat} {ad : Nat → Nat} {oo om : Nat → Nat → Option Nat} {v : Nat → Int32} {n : Nat} {xn : Nat → Nat} {xr : Nat → Nat → Int32} {nr : Nat} {rw : Nat → Nat → Int32} {sh ak : Nat → Int32} {wl : Nat} {wy : Nat → Nat → Int32} {mp : Nat → Nat → Bool} {mm : Nat → Nat → Nat → Int32} {L : List Nat} {f : Nat → va_E} {g : Nat} (hX : sX n xn xr nr rw) (hg : g < n) (hmx : ∀ q, q < n → mp g q = true → ∃ x, mm g q 0 = nI x ∧ x < xn q) (hO : objS L f aS 4 [.ref (ad 0), .ref (ad 1), .ref (ad 2), .ref (ad 3), .int (v 4), .int (v 5), .int (v 6), .ref (ad 4), .ref (ad 5), .int (v 9), .int (v 10), .int (v 11), .int (v 12), .int (v 13)]) (hA : ShA G L f ad oo om n xn xr nr rw sh ak wl wy mp mm) (hRf : 1 ≤ R.frames) (hRl : 40 ≤ R.locals) (hRc : cells ≤ R.cells ∧ slots ≤ R.slots)
    (kx : True) :
    ∀ (d i : Nat), i + d = 10 → ∀ (a : Nat) (H : Heap) (locs : List Loc) (ls : Array Slot), (∀ (H : Heap) (locs : List Loc) (ls : Array Slot) (x : Int32) (pc : Nat), (x = 0 ∨ x = 1) → sKn rw xr mp mm g d a = x → xW G A s.heap (([] : va_W) ++ va_pl L f) H locs → decode cX4_knows pc = .ok (.ireturn, 1) → W p l e R s m args below meth c H locs cells slots Q (F0 m pc ls [.int x])) → a < n → lv_has ls 5 [(3, .int (nI i)), (2, .int (nI a)), (0, .ref aS), (1, .int (nI g))] → xW G A s.heap (([] : va_W) ++ va_pl L f) H locs → W p l e R s m args below meth c H locs cells slots Q (F0 m 7 ls []) := by
  obtain ⟨hx, hb, -, hown, hts, -⟩ := id hc
  intro d
  induction d with
  | zero =>
    intro i hd a H locs ls ke ha hl hw
    refine lv_iload_n hx hb dX4_knows_7 rfl (lv_at hl 0 rfl) ?_
    refine lv_bipush (v := 10) hx hb dX4_knows_8 (by decide) ?_
    refine lv_icmp_ge (tgt := 74) hx hb dX4_knows_10 (by decide) (fun hz => ?_) (fun h => absurd (show (10 : Int32) ≤ nI i from nI_le (a := 10) (by omega) (by omega)) h)
    refine lv_iload_n hx hb dX4_knows_74 rfl (lv_at hl 1 rfl) ?_
    refine lv_iload_n hx hb dX4_knows_75 rfl (lv_at hl 3 rfl) ?_
    refine lv_icmp_ne (tgt := 83) hx hb dX4_knows_76 (by decide) (fun hz2 => ?_) (fun hz2 => ?_)
    · refine lv_iconst (v := 0) hx hb dX4_knows_83 (by decide) ?_
      exact ke H locs ls 0 84 (Or.inl rfl) (by rw [sKn, if_neg hz2]) hw dX4_knows_84
    · refine lv_iconst (v := 1) hx hb dX4_knows_79 (by decide) ?_
      refine lv_goto (tgt := 84) hx hb dX4_knows_80 (by decide) ?_
      exact ke H locs ls 1 84 (Or.inr rfl) (by rw [sKn, if_pos hz2]) hw dX4_knows_84
  | succ d ih =>
    intro i hd a H locs ls ke ha hl hw
    refine lv_iload_n hx hb dX4_knows_7 rfl (lv_at hl 0 rfl) ?_
    refine lv_bipush (v := 10) hx hb dX4_knows_8 (by decide) ?_
    refine lv_icmp_ge (tgt := 74) hx hb dX4_knows_10 (by decide) (fun h => absurd h (show ¬ (10 : Int32) ≤ nI i from nI_ge (b := 10) (by omega) (by omega))) (fun hz => ?_)
    refine lv_iload_n hx hb dX4_knows_13 rfl (lv_at hl 1 rfl) ?_
    refine lv_iload_n hx hb dX4_knows_14 rfl (lv_at hl 3 rfl) ?_
    refine lv_icmp_ne (tgt := 20) hx hb dX4_knows_15 (by decide) (fun hz2 => ?_) (fun hz2 => ?_)
    · have hn10 : n ≤ 10 := hX.1
      have hr20 : nr ≤ 20 := hX.2.1
      obtain ⟨⟨hR1, hR2, hR3⟩, ⟨hE1, hE2⟩, -, -, ⟨hM1, hM2, hM3⟩, -⟩ := id hA
      obtain ⟨ga, hga1, hga2, hga3⟩ := hM3 g (by omega)
      refine lv_aload_n hx hb dX4_knows_20 rfl (lv_at hl 2 rfl) ?_
      refine pget (C := RX4) (T := TX4) (N := 14) (ci := 4) hc hw inX4_knows_X4 hO rfl 8 (by decide) lkX4_knows_f37 rfl rfl dX4_knows_21 ?_
      refine lv_iload_n hx hb dX4_knows_24 rfl (lv_at hl 3 rfl) ?_
      refine pbld hc hw hM1 g rfl (by omega) (by omega) (v := .ref ga) (by rw [hga1]; rfl) dX4_knows_25 ?_
      refine lv_iload_n hx hb dX4_knows_26 rfl (lv_at hl 1 rfl) ?_
      rcases hga3 a (by omega) with ⟨hn1, hn2⟩ | ⟨hn2, b, hn1, hn3⟩
      · refine pald hc hw hga2 a rfl (by omega) (by omega) (v := .null) (by rw [hn1]; rfl) dX4_knows_27 ?_
        refine lv_astoreN (lv' := [(4, .null), (3, .int (nI i)), (2, .int (nI a)), (0, .ref aS), (1, .int (nI g))]) hx hb dX4_knows_28 hl (by decide) rfl (fun ls hl => ?_)
        refine lv_aloadN hx hb dX4_knows_30 (lv_at hl 0 rfl) ?_
        refine lv_ifnullN (tgt := 56) hx hb dX4_knows_32 (by decide) ?_
        refine lv_iconst (v := 0) hx hb dX4_knows_56 (by decide) ?_
        exact ke H locs ls 0 57 (Or.inl rfl) (by rw [sKn, if_neg hz2, if_pos hn2]) hw dX4_knows_57
      · obtain ⟨x, hx0, hx1⟩ := hmx a (by omega) hn2
        obtain ⟨hx4, ea, he1, he2⟩ := hE2 a ha
        obtain ⟨k, hk1, hk2⟩ := hX.2.2.1 a x ha hx1
        obtain ⟨ra, hr1, hr2⟩ := hR2 k hk2
        have hkc : (xr a (mm g a 0).toNatClampNeg).toNatClampNeg = k := by rw [hx0, nI_clamp (by omega), hk1, nI_clamp (by omega)]
        refine pald hc hw hga2 a rfl (by omega) (by omega) (v := .ref b) (by rw [hn1]; rfl) dX4_knows_27 ?_
        refine lv_astore (lv' := [(4, .ref b), (3, .int (nI i)), (2, .int (nI a)), (0, .ref aS), (1, .int (nI g))]) hx hb dX4_knows_28 hl (by decide) rfl (fun ls hl => ?_)
        refine lv_aload hx hb dX4_knows_30 (lv_at hl 0 rfl) ?_
        refine lv_ifnull hx hb dX4_knows_32 ?_
        refine lv_aload_n hx hb dX4_knows_35 rfl (lv_at hl 3 rfl) ?_
        refine pget (C := RX4) (T := TX4) (N := 14) (ci := 4) hc hw inX4_knows_X4 hO rfl 0 (by decide) lkX4_knows_f9 rfl rfl dX4_knows_36 ?_
        refine lv_aload_n hx hb dX4_knows_39 rfl (lv_at hl 3 rfl) ?_
        refine pget (C := RX4) (T := TX4) (N := 14) (ci := 4) hc hw inX4_knows_X4 hO rfl 1 (by decide) lkX4_knows_f15 rfl rfl dX4_knows_40 ?_
        refine lv_iload_n hx hb dX4_knows_43 rfl (lv_at hl 2 rfl) ?_
        refine pald hc hw hE1 a rfl ha (by omega) (v := .ref ea) (by rw [he1]; rfl) dX4_knows_44 ?_
        refine lv_aload hx hb dX4_knows_45 (lv_at hl 0 rfl) ?_
        refine lv_iconst (v := 0) hx hb dX4_knows_47 (by decide) ?_
        refine pild hc hw hn3 0 rfl (by decide) (by omega) (v := (nI x)) hx0 dX4_knows_48 ?_
        refine pild hc hw he2 x rfl hx1 (by omega) (v := (nI k)) hk1 dX4_knows_49 ?_
        refine pald hc hw hR1 k rfl hk2 (by omega) (v := .ref ra) (by rw [hr1]; rfl) dX4_knows_50 ?_
        refine lv_iconst (v := 3) hx hb dX4_knows_51 (by decide) ?_
        refine pild hc hw hr2 3 rfl (by decide) (by omega) (v := (rw k 3)) rfl dX4_knows_52 ?_
        refine lv_if_ne (tgt := 58) hx hb dX4_knows_53 (by decide) (fun hz3 => ?_) (fun hz3 => ?_)
        · refine lv_aload_n hx hb dX4_knows_58 rfl (lv_at hl 3 rfl) ?_
          refine lv_iload_n hx hb dX4_knows_59 rfl (lv_at hl 2 rfl) ?_
          refine lv_aload hx hb dX4_knows_60 (lv_at hl 0 rfl) ?_
          refine lv_iconst (v := 0) hx hb dX4_knows_62 (by decide) ?_
          refine pild hc hw hn3 0 rfl (by decide) (by omega) (v := (nI x)) hx0 dX4_knows_63 ?_
          refine pcall_i hc hw (prunV (n := 2) (As := [.int (nI a), .int (nI x)]) (rest := []) hc hw (metS_to l G _ _ _ aS v n xn xr nr rw _ _ _ _ _ _ ⟨_, _, _, hO, hA⟩ hX a x ha hx1) gX4_knows_X4_to rfl (by decide +kernel) ⟨by (try dsimp only); omega, by (try dsimp only); omega⟩ hO rfl rfl rfl hl.1 (Nat.le_of_ble_eq_true rfl) dX4_knows_64 ⟨by have := hRc.1; (try dsimp only); omega, by have := hRc.2; (try dsimp only); omega⟩) (fun t L9 f9 H locs hp hw => ?_)
          obtain ⟨het, eu⟩ := hp
          obtain ⟨eL, ef⟩ := Prod.mk.inj eu
          rw [eL, ef] at hw
          obtain ⟨a2, ha2, ha3⟩ := sTo_in hX ha hx1
          have het : t = nI a2 := het.trans ha2
          subst het
          refine lv_istore_n (lv' := [(2, .int (nI a2)), (4, .ref b), (3, .int (nI i)), (0, .ref aS), (1, .int (nI g))]) hx hb dX4_knows_67 rfl hl (by decide) rfl (fun ls hl => ?_)
          refine lv_iinc (v := nI (i + 1)) (lv' := [(3, .int (nI (i + 1))), (2, .int (nI a2)), (4, .ref b), (0, .ref aS), (1, .int (nI g))]) hx hb dX4_knows_68 hl (k := 2) rfl (nI_1 _) (by decide) rfl (fun ls hl => ?_)
          refine lv_goto (tgt := 7) hx hb dX4_knows_71 (by decide) ?_
          refine ih (i + 1) (by omega) a2 H locs ls (fun H2 locs2 ls2 x2 pc h01 hx2 => ke H2 locs2 ls2 x2 pc h01 ?_) ha3 (lv_sub hl [0, 1, 3, 4] rfl) hw
          rw [sKn, if_neg hz2, if_neg (by rw [hn2]; exact fun z => Bool.noConfusion z), hkc, if_neg hz3, hx0, nI_clamp (by omega), ha2, nI_clamp (by omega)]
          exact hx2
        · refine lv_iconst (v := 0) hx hb dX4_knows_56 (by decide) ?_
          exact ke H locs ls 0 57 (Or.inl rfl) (by rw [sKn, if_neg hz2, if_neg (by rw [hn2]; exact fun z => Bool.noConfusion z), hkc, if_pos hz3]) hw dX4_knows_57
    · refine lv_iconst (v := 1) hx hb dX4_knows_18 (by decide) ?_
      exact ke H locs ls 1 19 (Or.inr rfl) (by rw [sKn, if_pos hz2]) hw dX4_knows_19
set_option maxHeartbeats 40000000 in
set_option maxRecDepth 100000 in
theorem metS_knows (l : Launch) (G : xG) (sz : Nat) (L : List Nat) (f : Nat → va_E) (aS : Nat) (v : Nat → Int32) (n : Nat) (xn : Nat → Nat) (xr : Nat → Nat → Int32) (nr : Nat) (rw : Nat → Nat → Int32) (sh ak : Nat → Int32) (wl : Nat) (wy : Nat → Nat → Int32) (mp : Nat → Nat → Bool) (mm : Nat → Nat → Nat → Int32) (q g : Nat) (S : Sh G L f aS v n xn xr nr rw sh ak wl wy mp mm) (hX : sX n xn xr nr rw) (hq4 : v 4 = nI q) (hq : q < n) (hg : g < n) (hmx : ∀ q, q < n → mp g q = true → ∃ x, mm g q 0 = nI x ∧ x < xn q) : pMi l yX4_knows wsX4_knows ⟨1, 0, 0, 40⟩ G [.ref aS, .int (nI g)] L f sz (fun r u => r = sKn rw xr mp mm g 10 q ∧ (r = 0 ∨ r = 1) ∧ u = (L, f)) := by
  obtain ⟨ad, oo, om, hO, hA⟩ := S
  have hO : objS L f aS 4 [.ref (ad 0), .ref (ad 1), .ref (ad 2), .ref (ad 3), .int (v 4), .int (v 5), .int (v 6), .ref (ad 4), .ref (ad 5), .int (v 9), .int (v 10), .int (v 11), .int (v 12), .int (v 13)] := hO
  refine xof (own := RX4) (cc := cX4_knows) (maxL := 5) (ret := (some .boolean)) rfl (by decide) rfl (Nat.le_of_ble_eq_true rfl) ?_
  intro pg en s mi below meth cd hc hnm hw ls hl
  obtain ⟨hx, hb, -, hown, hts, -⟩ := id hc
  have hl : lv_has ls 5 [(0, .ref aS), (1, .int (nI g))] := hl
  have hw : xW G _ s.heap (([] : va_W) ++ va_pl L f) s.heap [] := hw
  refine lv_aload_n hx hb dX4_knows_0 rfl (lv_at hl 0 rfl) ?_
  refine pget (C := RX4) (T := TX4) (N := 14) (ci := 4) hc hw inX4_knows_X4 hO rfl 4 (by decide) lkX4_knows_f25 rfl rfl dX4_knows_1 ?_
  refine lv_istore_n (lv' := [(2, .int (v 4)), (0, .ref aS), (1, .int (nI g))]) hx hb dX4_knows_4 rfl hl (by decide) rfl (fun ls hl => ?_)
  refine lv_iconst (v := 0) hx hb dX4_knows_5 (by decide) ?_
  refine lv_istore_n (lv' := [(3, .int 0), (2, .int (v 4)), (0, .ref aS), (1, .int (nI g))]) hx hb dX4_knows_6 rfl hl (by decide) rfl (fun ls hl => ?_)
  rw [hq4] at hl
  refine lpS_knows hc hX hg hmx hO hA (Nat.le_of_ble_eq_true rfl) (Nat.le_of_ble_eq_true rfl) ⟨Nat.le_of_ble_eq_true rfl, Nat.le_of_ble_eq_true rfl⟩ trivial 10 0 rfl q _ _ ls (fun H locs ls x pc h01 hx2 hw hd => ?_) hq hl hw
  rcases h01 with rfl | rfl
  · exact pret_z hc hw rfl ⟨hx2.symm, Or.inl rfl, rfl⟩ (by first | exact ⟨Nat.le_of_ble_eq_true rfl, Nat.le_of_ble_eq_true rfl⟩ | (refine ⟨?_, ?_⟩ <;> ((try dsimp only); omega))) hd
  · exact pret_z hc hw rfl ⟨hx2.symm, Or.inr rfl, rfl⟩ (by first | exact ⟨Nat.le_of_ble_eq_true rfl, Nat.le_of_ble_eq_true rfl⟩ | (refine ⟨?_, ?_⟩ <;> ((try dsimp only); omega))) hd
end
