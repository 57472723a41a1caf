/-! the second carrier: its making; ten rows of ten rows, all null -/
def yC (cA : ClassId) (h0 i : Nat) : Cell := arrV cA 10 (fun j => if j < i then .ref (h0 + 1 + j) else .null)
def yI (cA : ClassId) : Cell := arrV cA 10 (fun _ => .null)
/-- the outer row made, and i of the inner ones made and laid into it -/
def yF (T : State) (cO cI : ClassId) : Nat → State
  | 0 => T.pushCell (yC cO T.heap.size 0)
  | i + 1 => ((yF T cO cI i).pushCell (yI cI)).setCell T.heap.size (yC cO T.heap.size (i + 1))
theorem yv_congr {cA : ClassId} {N : Nat} {f g : Nat → Value} (h : ∀ j, j < N → f j = g j) : arrV cA N f = arrV cA N g := by
  unfold arrV
  have e : (fun j : Fin N => f j.val) = fun j : Fin N => g j.val := funext fun j => h j.val j.isLt
  rw [e]
theorem yC_s (cA : ClassId) (h0 i : Nat) : (yC cA h0 i).setSlot i (.ref (h0 + 1 + i)) = yC cA h0 (i + 1) := by
  unfold yC
  rw [arrV_store]
  congr 1
  funext j
  by_cases c : j = i
  · subst c
    simp [updV]
  · simp only [updV, if_neg c]
    by_cases d : j < i
    · rw [if_pos d, if_pos (by omega)]
    · rw [if_neg d, if_neg (by omega)]
theorem yC_0 (cA : ClassId) (h0 : Nat) : yC cA h0 0 = { cls := cA, slots := Array.replicate 10 .null, vm := .none } := (yv_congr (fun j _ => if_neg (Nat.not_lt_zero j))).trans (arrV_new cA 10 .null).symm
theorem yI_e (cA : ClassId) : yI cA = { cls := cA, slots := Array.replicate 10 .null, vm := .none } := (arrV_new cA 10 .null).symm
theorem yC_sz (cA : ClassId) (h0 i : Nat) : (yC cA h0 i).slots.size = 10 := arrV_size _ _ _
theorem yI_sz (cA : ClassId) : (yI cA).slots.size = 10 := arrV_size _ _ _
theorem yF_facts (T : State) (cO cI : ClassId) : ∀ i, (yF T cO cI i).heap.size = T.heap.size + 1 + i ∧ (yF T cO cI i).heap[T.heap.size]? = some (yC cO T.heap.size i) ∧ (yF T cO cI i).vm = T.vm ∧ (yF T cO cI i).slotsUsed = T.slotsUsed + 10 + i * 10
  | 0 => ⟨by simp [yF], by simp [yF], rfl, by simp [yF, yC_sz]⟩
  | i + 1 => by
    obtain ⟨a, b, d, u⟩ := yF_facts T cO cI i
    have hlt : T.heap.size < (yF T cO cI i).heap.size := by omega
    have hb' : ((yF T cO cI i).pushCell (yI cI)).heap[T.heap.size]? = some (yC cO T.heap.size i) := by rw [State.heap_pushCell_of_lt (h := hlt)]; exact b
    refine ⟨?_, State.heap_setCell_self hb', by simp [yF, d], ?_⟩
    · simp [yF, State.setCell, a]; omega
    · simp [yF, u, yI_sz]; omega
theorem yF_old (T : State) (cO cI : ClassId) {a : Nat} (ha : a < T.heap.size) : ∀ i, (yF T cO cI i).heap[a]? = T.heap[a]?
  | 0 => State.heap_pushCell_of_lt _ _ ha
  | i + 1 => by
    have f1 := (yF_facts T cO cI i).1
    have hlt : a < (yF T cO cI i).heap.size := by omega
    show (((yF T cO cI i).pushCell (yI cI)).setCell T.heap.size _).heap[a]? = _
    rw [State.heap_setCell_other (Nat.ne_of_gt ha), State.heap_pushCell_of_lt (h := hlt)]
    exact yF_old T cO cI ha i
theorem yF_in (T : State) (cO cI : ClassId) : ∀ i j, j < i → (yF T cO cI i).heap[T.heap.size + 1 + j]? = some (yI cI)
  | 0, _, h => absurd h (Nat.not_lt_zero _)
  | i + 1, j, h => by
    have f1 := (yF_facts T cO cI i).1
    show (((yF T cO cI i).pushCell (yI cI)).setCell T.heap.size _).heap[T.heap.size + 1 + j]? = _
    rw [State.heap_setCell_other (show T.heap.size ≠ T.heap.size + 1 + j by omega)]
    rcases Nat.lt_or_ge j i with hj | hj
    · have hlt : T.heap.size + 1 + j < (yF T cO cI i).heap.size := by omega
      rw [State.heap_pushCell_of_lt (h := hlt)]
      exact yF_in T cO cI i j hj
    · have e : j = i := by omega
      subst e
      rw [← f1]
      exact State.heap_pushCell_size _ _
theorem yF_top (T : State) (fr : JFrame) (cO cI : ClassId) : ∀ i, yF (T.setTop fr) cO cI i = (yF T cO cI i).setTop fr
  | 0 => rfl
  | i + 1 => by simp only [yF, yF_top T fr cO cI i, State.heap_setTop, State.pushCell_setTop, State.setCell_setTop]
section YM
variable {E : CtlPost} {e : Env} {d : Bool} {acts : List Action} {s : State}
theorem ynull (t : FieldType) (h : t.isReference = true) (v : Value) (hv : v = .null ∨ ∃ a, v = .ref a) : fits t v = true := by
  rcases hv with rfl | ⟨a, rfl⟩ <;> cases t <;> simp [FieldType.isReference] at h <;> rfl
/-- a row of ten nulls is made -/
theorem ynew {cA comp : ClassId} {k : Class} {ty : FieldType} (hk : s.vm.classes[cA]? = some k) (hkind : k.kind = .array comp ty) (href : ty.isReference = true) (hl : ¬ 10 > e.platform.arrayLengthLimit) (hh : ¬ 10 * componentBytes ty > e.platform.maxHeapBytes) {Q : Addr → Pre}
    (h1 : s.heap.size < e.platform.maxCells) (h2 : s.slotsUsed + 10 ≤ e.platform.maxSlots) (hq : Q s.heap.size d acts (s.pushCell (yI cA))) : wp (Jvm.newArray cA 10 .null) Q E e d acts s := by
  rw [yI_e] at hq
  have hfits : ∀ i v, (Array.replicate 10 Value.null)[i]? = some v → s.fitsSlot cA .none i v = true := by
    intro i v hv
    simp only [Array.getElem?_replicate] at hv
    split at hv
    · cases hv
      simp [State.fitsSlot, State.slotType?, hk, hkind, ynull ty href .null (Or.inl rfl)]
    · cases hv
  have hda : allocActs (Array.replicate 10 Value.null) s.heap.size acts = acts := by
    have hall : ((Array.replicate 10 Value.null).all (·.isDefault)) = true := by first | decide +kernel | simp [Value.isDefault]
    unfold allocActs
    rw [if_pos hall]
  simp only [Jvm.newArray, Jvm.arrayFits, wp_bind', W.ask, W.ite, hl, if_false, wp_pure', W.theClass, hk, hkind, hh, W.alloc, W.stop, Option.some.injEq, exists_eq_left', Array.size_replicate, hda]
  rw [if_neg (by omega)]
  exact ⟨h1, h2, hfits, hq⟩
theorem yten : (10 : Int32).toNatClampNeg = 10 := by decide
/-- ten rows of ten -/
theorem ymake {cO cI cX : ClassId} {kO kI : Class} {t : FieldType} (hO : s.vm.classes[cO]? = some kO) (hOk : kO.kind = .array cI (.array t)) (hI : s.vm.classes[cI]? = some kI) (hIk : kI.kind = .array cX t) (href : t.isReference = true)
    (hl : ¬ 10 > e.platform.arrayLengthLimit) (hh1 : ¬ 10 * componentBytes (.array t) > e.platform.maxHeapBytes) (hh2 : ¬ 10 * componentBytes t > e.platform.maxHeapBytes) (hdv : defaultValue t = .null)
    (hc : s.heap.size + 11 ≤ e.platform.maxCells) (hs : s.slotsUsed + 110 ≤ e.platform.maxSlots) {Q : Addr → Pre} (hq : ∀ d' acts', Q s.heap.size d' acts' (yF s cO cI 10)) : wp (multianewarray.make cO [10, 10]) Q E e d acts s := by
  have hn : ¬ (10 : Int32) < 0 := by decide
  have hfind : ([(10 : Int32)].find? (· < 0)) = none := by decide
  rw [multianewarray.make]
  simp only [wp_bind', W.ite, hn, if_false, wp_pure', W.theClass, hO, hOk, Option.some.injEq, exists_eq_left', yten]
  refine ynew hO hOk rfl hl hh1 (by omega) (by omega) ?_
  simp only [hfind]
  rw [ite_self, wp_bind', Std.Legacy.Range.forIn_eq_forIn_range']
  have hsz : ([:10] : Std.Legacy.Range).size = 10 := by simp [Std.Legacy.Range.size]
  rw [hsz]
  show wp (forIn (List.range' 0 10 1) PUnit.unit _) _ E e d acts _
  refine wp_forIn_inv (fun rest s' => ∃ i, i ≤ 10 ∧ rest = List.range' i (10 - i) ∧ s' = yF s cO cI i) _ _ ⟨0, Nat.zero_le _, rfl, by show s.pushCell (yI cO) = s.pushCell (yC cO s.heap.size 0); rw [yI_e, yC_0]⟩ ?_ ?_
  · rintro x rest s' d' acts' Q' ⟨i, hi, hr, rfl⟩ hnext
    have hlt : i < 10 := by
      rcases Nat.lt_or_ge i 10 with h | h
      · exact h
      · rw [show 10 - i = 0 from by omega] at hr; simp at hr
    obtain ⟨rfl, hrest⟩ : x = i ∧ rest = List.range' (i + 1) (10 - (i + 1)) := by
      rw [show 10 - i = (10 - (i + 1)) + 1 from by omega, List.range'_succ] at hr
      exact ⟨(List.cons.inj hr).1, (List.cons.inj hr).2⟩
    obtain ⟨f1, f2, f3, f4⟩ := yF_facts s cO cI x
    simp only [wp_bind']
    rw [multianewarray.make]
    simp only [wp_bind', W.ite, hn, if_false, wp_pure', W.theClass, f3, hI, hIk, Option.some.injEq, exists_eq_left', yten, hdv]
    refine ynew (by rw [f3]; exact hI) hIk href hl hh2 (by rw [f1]; omega) (by rw [f4]; omega) ?_
    have hlt0 : s.heap.size < (yF s cO cI x).heap.size := by rw [f1]; omega
    simp only [wp_bind', W.writeLoc, wp_pure']
    refine ⟨yC cO s.heap.size x, by rw [State.heap_pushCell_of_lt (h := hlt0)]; exact f2, (by unfold yC; exact fun h => (by cases h)), by rw [yC_sz]; exact hlt, ?_, hnext _ _ _ ⟨x + 1, hlt, hrest, ?_⟩⟩
    · show State.fitsSlot _ cO .none x _ = true
      simp [State.fitsSlot, State.slotType?, f3, hO, hOk, ynull (.array t) rfl _ (Or.inr ⟨_, rfl⟩)]
    · rw [f1, yC_s]; rfl
  · rintro s' d' acts' ⟨i, hi, hr, rfl⟩
    have hiN : i = 10 := by
      rcases Nat.lt_or_ge i 10 with h | h
      · rw [show 10 - i = (10 - (i + 1)) + 1 from by omega, List.range'_succ] at hr; cases hr
      · omega
    subst hiN
    simp only [wp_pure']
    exact hq _ _
end YM
section YW
variable {p : Program} {l : Launch} {e : Env} {R : Room} {s : State} {m : MethodId} {args : Array Value} {below : List Frame} {meth : Method} {c : Code} {H : Heap} {locs : List Loc} {cells slots : Nat} {Q : State → Prop}
variable {cc : ByteArray} {nL : Nat} {own : String} {wds : List Cond} {ret : Option FieldType} {G : xG} {A : Nat → Prop} {X : va_W} {L : List Nat} {f : Nat → va_E} {pc : Nat} {ls : Array Slot} {rest : List Value}
theorem yStand {T : State} (Y : Stand p l e R s m args below meth c T locs cells slots) (cO cI : ClassId) : ∀ i, Stand p l e R s m args below meth c (yF T cO cI i) (locs ++ (List.range i).map fun j => ⟨T.heap.size, j⟩) (cells + 1 + i) (slots + 10 + i * 10)
  | 0 => by
    have h := Y.pushed (yC cO T.heap.size 0)
    rw [yC_sz] at h
    simpa [yF] using h
  | i + 1 => by
    have Yi := yStand Y cO cI i
    obtain ⟨f1, f2, f3, f4⟩ := yF_facts T cO cI i
    have hlt0 : T.heap.size < (yF T cO cI i).heap.size := by omega
    have hcell : ((yF T cO cI i).pushCell (yI cI)).heap[T.heap.size]? = some (yC cO T.heap.size i) := by rw [State.heap_pushCell_of_lt (h := hlt0)]; exact f2
    have h := (Yi.pushed (yI cI)).stored hcell i (.ref (T.heap.size + 1 + i))
    rw [yI_sz, yC_s] at h
    have e2 : (locs ++ (List.range (i + 1)).map fun j => (⟨T.heap.size, j⟩ : Loc)) = (locs ++ (List.range i).map fun j => (⟨T.heap.size, j⟩ : Loc)) ++ [⟨T.heap.size, i⟩] := by simp [List.range_succ, List.append_assoc]
    have e3 : slots + 10 + (i + 1) * 10 = slots + 10 + i * 10 + 10 := by omega
    rw [e2, e3]
    exact h
theorem yStep {T : State} {index : Nat} (Y : Stand p l e R s m args below meth c T locs cells slots) (hc : xC p s m args meth c cc nL own wds ret G A) (hlk : (Cond.classLink own index "[[[I").before args s = true) (hcells : cells + 11 ≤ R.cells) (hslots : slots + 110 ≤ R.slots) (hdg : decode cc pc = .ok (.multianewarray index 2, 4)) :
    ∃ vm1 : Vm, s.WarmedH vm1 ∧ Stand p l e R s m args below meth c (yF (T.setVm vm1) G.2.1.2.2.2 G.2.1.2.2.1 10) (locs ++ (List.range 10).map fun j => ⟨T.heap.size, j⟩) (cells + 1 + 10) (slots + 10 + 100) ∧
      ∀ target, Steps p.tables e below ((yF (T.setVm vm1) G.2.1.2.2.2 G.2.1.2.2.1 10).setTop (F0 m (pc + 4) ls (.ref T.heap.size :: rest))) target → Steps p.tables e below (T.setTop (F0 m pc ls (.int 10 :: .int 10 :: rest))) target := by
  obtain ⟨hexec, hb, hml, hown, hts, hr, hlk2, hE, hZ, hA⟩ := hc
  have hdg : decode c.code (F0 m pc ls (.int 10 :: .int 10 :: rest)).pc = .ok (.multianewarray index 2, 4) := by rw [hb]; exact hdg
  have hpl : e.platform.magicAccessors = ({} : Platform).magicAccessors := by rw [Y.admits.platform]
  obtain ⟨comp, cO, kO, g1, g2, hkO, hkOk, g5⟩ := arrayOverA_spec (hE.2.2.2.2.2)
  have r3 : s.vm.findClass ("[" ++ (FieldType.array (.array .int)).toString) = some G.2.1.2.2.2 := (hE.1.2 3 (G.2.1.2.2.2, .array (.array .int)) rfl).2
  have r2 : s.vm.findClass (FieldType.array (.array .int)).toString = some G.2.1.2.2.1 := (hE.1.2 2 (G.2.1.2.2.1, .array .int) rfl).2
  obtain ⟨kI, hkI, hkIk, -, -, -⟩ := pcomp hE
  have ec : cO = G.2.1.2.2.2 := Option.some.inj (g5.symm.trans r3)
  have ei : comp = G.2.1.2.2.1 := Option.some.inj (g1.symm.trans r2)
  subst ec; subst ei
  obtain ⟨c0, hfc0, hcl⟩ := Cond.classLink_spec hown hlk e.platform hpl
  have e0 : c0 = G.2.1.2.2.2 := Option.some.inj (hfc0.symm.trans r3)
  subst e0
  obtain ⟨hg1, hwarm1, hready1⟩ := State.classEntry (e := e) Y.warmed hcl
  generalize T.vm.noted m.cls index (.cls G.2.1.2.2.2) = vm1 at hg1 hwarm1 hready1
  have hal : s.vm.Alike vm1 := hwarm1.alike
  obtain ⟨kO1, hkO1, heO⟩ := hal.2.2 _ _ hkO
  obtain ⟨kI1, hkI1, heI⟩ := hal.2.2 _ _ hkI
  have hkOk1 : kO1.kind = .array G.2.1.2.2.1 (.array (.array .int)) := by rw [heO]; exact hkOk
  have hkIk1 : kI1.kind = .array G.2.1.1 (.array .int) := by rw [heI]; exact hkIk
  have Y1 := Y.noted hwarm1
  obtain ⟨hr1, hr2⟩ := Y.roomAbove (a := 11) (b := 110) hcells hslots
  refine ⟨vm1, hwarm1, by simpa using yStand Y1 G.2.1.2.2.2 G.2.1.2.2.1 10, fun target hrest => ?_⟩
  have hl1 : ¬ 10 > e.platform.arrayLengthLimit := by rw [Launch.admits_arrayLengthLimit Y.admits]; decide
  have hh1 : ¬ 10 * componentBytes (.array (.array .int)) > e.platform.maxHeapBytes := by
    rw [Launch.admits_maxHeapBytes Y.admits]; decide
  have hh2 : ¬ 10 * componentBytes (.array .int) > e.platform.maxHeapBytes := by
    rw [Launch.admits_maxHeapBytes Y.admits]; decide
  jvm_step Y.here [hexec, hdg]
  simp only [multianewarray.sem, wp_bind', W.resolveClassAt_links (State.method?_setTop (F0 m pc ls (.int 10 :: .int 10 :: rest)) Y.here.top) hg1]
  rw [W.popN, if_neg (by decide)]
  refine ⟨F0 m pc ls (.int 10 :: .int 10 :: rest), State.topJava?_setTop' (s := T.setVm vm1) _ Y.here.top, [.int 10, .int 10], rest, rfl, rfl, ?_⟩
  simp only [List.mapM_cons, List.mapM_nil, wp_bind', wp_pure']
  refine ymake (kO := kO1) (kI := kI1) (cX := G.2.1.1) (t := .array .int) hkO1 hkOk1 hkI1 hkIk1 rfl hl1 hh1 hh2 rfl (by show T.heap.size + 11 ≤ _; omega) (by show T.slotsUsed + 110 ≤ _; omega) (fun d' acts' => ?_)
  have YF := yStand Y1 G.2.1.2.2.2 G.2.1.2.2.1 10
  have eS : ((T.setTop (F0 m pc ls (.int 10 :: .int 10 :: rest))).setVm vm1).setTop { F0 m pc ls (.int 10 :: .int 10 :: rest) with stack := rest } = (T.setVm vm1).setTop { F0 m pc ls (.int 10 :: .int 10 :: rest) with stack := rest } := by
    show ((T.setVm vm1).setTop _).setTop _ = _
    rw [State.setTop_setTop]
  rw [eS, yF_top]
  simp only [wp_bind', W.mark, W.pushRef, State.topJava?_setTop' _ YF.here.top, Option.some.injEq, exists_eq_left', State.setTop_setTop, State.heap_setTop]
  intro acts
  simp [jvm, YF.here.top]
  exact hrest
theorem pmulti {index : Nat} (hc : xC p s m args meth c cc nL own wds ret G A) (hw : xW G A s.heap (X ++ va_pl L f) H locs) (hlk : (Cond.classLink own index "[[[I").before args s = true) (hcells : cells + 11 ≤ R.cells) (hslots : slots + 110 ≤ R.slots) (hdg : decode cc pc = .ok (.multianewarray index 2, 4))
    (kk : ∀ (q : Nat) (L' : List Nat) (f' : Nat → va_E) (H1 : Heap) (locs1 : List Loc), (∀ j, j ≤ 10 → q + j ∉ L) → pk (fun _ => False) L f L' f' → rowB G L' f' q 10 (fun j => some (q + 1 + j)) → (∀ j, j < 10 → rowA G L' f' (q + 1 + j) 10 (fun _ => none)) → xW G A s.heap (X ++ va_pl L' f') H1 locs1 → W p l e R s m args below meth c H1 locs1 (cells + 11) (slots + 110) Q (F0 m (pc + 4) ls (.ref q :: rest))) : W p l e R s m args below meth c H locs cells slots Q (F0 m pc ls (.int 10 :: .int 10 :: rest)) := by
  intro T hT Y
  obtain ⟨vm1, hwm, Y', st⟩ := yStep (ls := ls) (rest := rest) Y hc hlk hcells hslots hdg
  obtain ⟨z1, z2, -, -⟩ := yF_facts (T.setVm vm1) G.2.1.2.2.2 G.2.1.2.2.1 10
  have z3 : ∀ a, a < H.size → (yF (T.setVm vm1) G.2.1.2.2.2 G.2.1.2.2.1 10).heap[a]? = H[a]? := fun a ha => by
    have := yF_old (T.setVm vm1) G.2.1.2.2.2 G.2.1.2.2.1 (a := a) (by show a < T.heap.size; rw [hT]; exact ha) 10
    rw [this]
    show T.heap[a]? = _
    rw [hT]
  have z4 : ∀ j, j < 10 → (yF (T.setVm vm1) G.2.1.2.2.2 G.2.1.2.2.1 10).heap[H.size + 1 + j]? = some (yI G.2.1.2.2.1) := fun j hj => by
    have := yF_in (T.setVm vm1) G.2.1.2.2.2 G.2.1.2.2.1 10 j hj
    rw [← this]
    show _ = (yF (T.setVm vm1) G.2.1.2.2.2 G.2.1.2.2.1 10).heap[T.heap.size + 1 + j]?
    rw [hT]
  have e1 : (T.setVm vm1).heap.size = H.size := by show T.heap.size = _; rw [hT]
  rw [e1] at z1 z2
  have hTs : T.heap.size = H.size := by rw [hT]
  rw [hTs] at Y' st
  generalize yF (T.setVm vm1) G.2.1.2.2.2 G.2.1.2.2.1 10 = TF at z1 z2 z3 z4 Y' st
  have hfresh : ∀ j, j ≤ 10 → H.size + j ∉ L := fun j _ => va_pl_fresh hw.1 (Nat.le_add_right _ _)
  have hold : ∀ (k : Nat) (x : Nat × va_E), (X ++ va_pl L f)[k]? = some x → TF.heap[x.1]? = H[x.1]? := fun k x hx => z3 x.1 ((hw.1 k x hx).lt)
  have hlo : ∀ (k : Nat) (x : Nat × va_E), (X ++ va_pl L f)[k]? = some x → x.1 < H.size := fun k x hx => (hw.1 k x hx).lt
  have hA := hc.2.2.2.2.2.2.2.2.2
  -- the eleven new cells
  obtain ⟨f', hf'⟩ : ∃ f' : Nat → va_E, f' = fun a => if a < H.size then f a else if a = H.size then .inl (G.2.1.2.2.2, 10, .inr (.inr (.inr (.inr (fun j => some (H.size + 1 + j)))))) else .inl (G.2.1.2.2.1, 10, .inr (.inr (.inr (.inr (fun _ => none))))) := ⟨_, rfl⟩
  have fo : ∀ a, a < H.size → f' a = f a := fun a h => by rw [hf']; exact if_pos h
  have fq : f' H.size = .inl (G.2.1.2.2.2, 10, .inr (.inr (.inr (.inr (fun j => some (H.size + 1 + j)))))) := by rw [hf']; show (if _ then _ else _) = _; rw [if_neg (Nat.lt_irrefl _), if_pos rfl]
  have fi : ∀ j, f' (H.size + 1 + j) = .inl (G.2.1.2.2.1, 10, .inr (.inr (.inr (.inr (fun _ => none))))) := fun j => by rw [hf']; show (if _ then _ else _) = _; rw [if_neg (by omega), if_neg (by omega)]
  have eL : va_pl L f = va_pl L f' := List.map_congr_left (fun a ha => by
    obtain ⟨k, hk⟩ := va_pl_get (X := X) (f := f) ha
    show (a, f a) = (a, f' a)
    rw [fo a (hlo k _ hk)])
  have hN : ∀ (k : Nat) (x : Nat × va_E), (va_pl ((List.range 11).map (fun j => H.size + j)) f')[k]? = some x → x = (H.size + k, f' (H.size + k)) ∧ k < 11 := fun k x hx => by
    unfold va_pl at hx
    rw [List.map_map, List.getElem?_map] at hx
    cases hr : (List.range 11)[k]? with
    | none => rw [hr] at hx; cases hx
    | some j =>
      rw [hr] at hx
      obtain ⟨hk1, hk2⟩ := List.getElem?_eq_some_iff.mp hr
      rw [List.getElem_range] at hk2
      subst hk2
      rw [List.length_range] at hk1
      exact ⟨(Option.some.inj hx).symm, hk1⟩
  have hcell : ∀ k, k < 11 → va_at G.1 vwCl (H.size + k, f' (H.size + k)) TF.heap := fun k hk => by
    cases k with
    | zero =>
      show va_at G.1 vwCl (H.size, f' H.size) TF.heap
      rw [fq]
      show TF.heap[H.size]? = some (vp_cell _ _)
      rw [z2, vp_cell_q]
      unfold yC
      congr 1
    | succ k =>
      rw [show H.size + (k + 1) = H.size + 1 + k by omega, fi k]
      show TF.heap[H.size + 1 + k]? = some (vp_cell _ _)
      rw [z4 k (by omega), vp_cell_q]
      rfl
  have hP1 : va_P G.1 vwCl ((X ++ va_pl L f) ++ va_pl ((List.range 11).map (fun j => H.size + j)) f') TF.heap := (hw.1.kept hold).app (fun k x hx => by
    obtain ⟨ex, hk⟩ := hN k x hx
    rw [ex]
    exact hcell k hk)
  have hD1 : va_D A ((X ++ va_pl L f) ++ va_pl ((List.range 11).map (fun j => H.size + j)) f') := by
    refine va_D.app hw.2.1 ⟨fun i j x y hx hy exy => ?_, fun k x hx => ?_⟩ (fun i j x y hx hy exy => ?_)
    · rw [(hN i x hx).1, (hN j y hy).1] at exy
      have : H.size + i = H.size + j := exy
      omega
    · rw [(hN k x hx).1]
      exact hA _ (Nat.le_trans hw.2.2.1 (Nat.le_add_right _ _))
    · have h1 := hlo i x hx
      rw [exy, (hN j y hy).1] at h1
      have : H.size + j < H.size := h1
      omega
  rw [eL, List.append_assoc, show va_pl L f' ++ va_pl ((List.range 11).map (fun j => H.size + j)) f' = va_pl (L ++ (List.range 11).map (fun j => H.size + j)) f' from (List.map_append ..).symm] at hP1 hD1
  have hm : ∀ j, j ≤ 10 → H.size + j ∈ L ++ (List.range 11).map (fun j => H.size + j) := fun j hj => List.mem_append_right _ (List.mem_map.mpr ⟨j, List.mem_range.mpr (by omega), rfl⟩)
  have hS1 : va_S A s.heap TF.heap (locs ++ (List.range 10).map fun j => ⟨H.size, j⟩) := ⟨Nat.le_trans hw.2.2.1 (by rw [z1]; omega), fun x h1 h2 => (z3 x (Nat.lt_of_lt_of_le h1 hw.2.2.1)).trans (hw.2.2.2.1 x h1 h2), fun q hq => by
    rcases List.mem_append.mp hq with h | h
    · exact hw.2.2.2.2 q h
    · obtain ⟨j, -, rfl⟩ := List.mem_map.mp h
      exact hA _ hw.2.2.1⟩
  obtain ⟨t', a1, b1⟩ := kk H.size _ f' TF.heap _ hfresh (fun b hb => ⟨List.mem_append_left _ hb, fun _ => by
    obtain ⟨k, hk⟩ := va_pl_get (X := X) (f := f) hb
    exact fo b (hlo k _ hk)⟩) ⟨hm 0 (by omega), _, fq, fun _ _ => rfl⟩ (fun j hj => ⟨by rw [show H.size + 1 + j = H.size + (j + 1) by omega]; exact hm (j + 1) (by omega), _, fi j, fun _ _ => rfl⟩) ⟨hP1, hD1, hS1⟩ TF rfl Y'
  exact ⟨t', st t' a1, b1⟩
end YW
