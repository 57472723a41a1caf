/-! pools: null stored, a row of rows made; contracts, calls and ends -/
section PS
variable {p : Program} {l : Launch} {e : Env} {R : Room} {s : State} {m : MethodId} {args : Array Value} {below : List Frame} {meth : Method} {c : Code} {H : Heap} {locs : List Loc} {cells slots : Nat} {Q : State → Prop}
variable {cc : ByteArray} {nL : Nat} {own : String} {wds : List Cond} {ret : Option FieldType} {G : xG} {A : Nat → Prop} {X : va_W} {L : List Nat} {f : Nat → va_E} {pc : Nat} {ls : Array Slot} {st0 rest : List Value} {a n : Nat} {g : Nat → Int32} {o : Nat → Option Nat}
theorem pnull0 {T : State} (Y : Stand p l e R s m args below meth c T locs cells slots) (hexec : p.tables.exec = Jvm.exec) {a : Addr} {cell : Cell} {ty : FieldType} {j : Int32} (hcell : T.heap[a]? = some cell) (harr : s.isArrayOf cell (.array ty)) (hknown : cell.vm ≠ .unknown)
    (hin : ¬ (j < 0 ∨ cell.slots.size ≤ j.toNatClampNeg)) {fr : JFrame} (hg : fr.method = m) {rest : List Value} (hstack : fr.stack = .null :: .int j :: .ref a :: rest) (hdg : decode c.code fr.pc = .ok (.aastore, 1)) :
    Stand p l e R s m args below meth c (T.setCell a (cell.setSlot j.toNatClampNeg .null)) (locs ++ [⟨a, j.toNatClampNeg⟩]) cells slots ∧
      ∀ target, Steps p.tables e below ((T.setCell a (cell.setSlot j.toNatClampNeg .null)).setTop { fr with pc := fr.pc + 1, stack := rest }) target → Steps p.tables e below (T.setTop fr) target := by
  have hT := State.isArrayOf_alike Y.warmed.alike harr
  have hfit : T.fitsSlot cell.cls cell.vm j.toNatClampNeg .null = true := by
    obtain ⟨hobj, k, hk, comp, hkind⟩ := hT
    cases hvm : cell.vm <;> first | exact absurd hvm (hobj _) | simp [State.fitsSlot, State.slotType?, hk, hkind, fits]
  refine ⟨Y.stored hcell _ _, fun target hrest => ?_⟩
  subst hg
  jvm_step Y.here [hexec, hdg]
  refine aastore.wp_of_null (c := cell) (t := .array ty) Y.here.top hstack hcell hT hin hknown (Nat.not_le.mp fun q => hin (Or.inr q)) hfit ?_
  intro acts
  rw [afterInstr_ok]
  exact hrest
theorem pastN (hc : xC p s m args meth c cc nL own wds ret G A) (hw : xW G A s.heap (X ++ va_pl L f) H locs) (h : rowA G L f a n o) {i : Int32} (j : Nat) (hi : i = nI j) (hj : j < n) (hb : j < 2 ^ 31) (hdg : decode cc pc = .ok (.aastore, 1))
    (kk : ∀ (f' : Nat → va_E) (H1 : Heap) (locs1 : List Loc), pk (fun b => b = a) L f L f' → rowA G L f' a n (va_up o j none) → xW G A s.heap (X ++ va_pl L f') H1 locs1 → W p l e R s m args below meth c H1 locs1 cells slots Q (F0 m (pc + 1) ls rest)) : W p l e R s m args below meth c H locs cells slots Q (F0 m pc ls (.null :: .int i :: .ref a :: rest)) := by
  subst hi
  obtain ⟨h1, y, h2, h3⟩ := h
  obtain ⟨q0, h0⟩ := va_pl_get (X := X) (f := f) h1
  have hs := va_pl_set (e := .inl (G.2.1.2.2.1, n, .inr (.inr (.inr (.inr (va_up y j none)))))) hw.2.1 h1 h0
  rw [h2] at h0
  have hD2 := hw.2.1.set (e := .inl (G.2.1.2.2.1, n, .inr (.inr (.inr (.inr (va_up y j none)))))) h0
  have hcell : H[a]? = some (vp_cell G.2.1.2.2.1 (n, .inr (.inr (.inr (.inr y))))) := hw.1 q0 _ h0
  have harr : s.isArrayOf (vp_cell G.2.1.2.2.1 (n, .inr (.inr (.inr (.inr y))))) (.array .int) := (hc.2.2.2.2.2.2.2.1.1.2 2 (G.2.1.2.2.1, .array .int) rfl).1 n (fun t => va_rf (y t))
  have hin : ¬ ((nI j) < 0 ∨ (vp_cell G.2.1.2.2.1 (n, .inr (.inr (.inr (.inr y))))).slots.size ≤ (nI j).toNatClampNeg) := by
    show ¬ (nI j < 0 ∨ (arrV _ _ _).slots.size ≤ _)
    rw [arrV_size]; exact pinI hj hb
  intro T hT Y
  have hT' : T.heap[a]? = some (vp_cell G.2.1.2.2.1 (n, .inr (.inr (.inr (.inr y))))) := by rw [hT]; exact hcell
  obtain ⟨Y', st⟩ := pnull0 Y hc.1 hT' harr (fun h => by cases h) hin (fr := F0 m pc ls (.null :: .int (nI j) :: .ref a :: rest)) rfl rfl (by rw [hc.2.1]; exact hdg)
  have hlt : a < T.heap.size := (Array.getElem?_eq_some_iff.mp hT').1
  have e1 := heapAt_setCell_self (s := T) ((vp_cell G.2.1.2.2.1 (n, .inr (.inr (.inr (.inr y))))).setSlot (nI j).toNatClampNeg .null) hlt
  have hset : va_P G.1 vwCl ((X ++ va_pl L f).set q0 (a, .inl (G.2.1.2.2.1, n, .inr (.inr (.inr (.inr (va_up y j none))))))) (T.setCell a ((vp_cell G.2.1.2.2.1 (n, .inr (.inr (.inr (.inr y))))).setSlot (nI j).toNatClampNeg .null)).heap := by
    refine hw.1.set hw.2.1 h0 ?_ (fun q hq => by rw [heapAt_setCell_ne _ (Ne.symm hq), hT])
    show _ = some (vp_cell _ _)
    rw [e1, nI_clamp hb, vp_cell_q, vp_cell_q, arrV_store]
    congr 2
    funext t
    by_cases ht : t = j
    · subst ht
      simp [updV, va_up, va_rf]
    · simp [updV, va_up, ht]
  rw [hs] at hset hD2
  obtain ⟨t', a1, b1⟩ := kk (va_up f a (.inl (G.2.1.2.2.1, n, .inr (.inr (.inr (.inr (va_up y j none))))))) _ _ (pk_up L f a _) ⟨h1, _, va_up_self _ _ _, fun t ht => by
    by_cases c : t = j
    · subst c; rw [va_up_self, va_up_self]
    · rw [va_up_ne _ _ c, va_up_ne _ _ c]; exact h3 t ht⟩ ⟨hset, hD2, hw.2.2.put (k := (nI j).toNatClampNeg) (by rw [size_setCell, hT]) (fun q hq => by rw [heapAt_setCell_ne _ (Ne.symm hq), hT]) (hw.2.1.2 q0 _ h0)⟩ _ rfl Y'
  exact ⟨t', st t' a1, b1⟩
theorem pnewA {index : Nat} (hc : xC p s m args meth c cc nL own wds ret G A) (hw : xW G A s.heap (X ++ va_pl L f) H locs) (N : Nat) {v : Int32} (hv : v = nI N) (hN : N < 100000) (hlk : Cond.classLink own index "[I" ∈ wds) (hcells : cells + 1 ≤ R.cells) (hslots : slots + N ≤ R.slots) (hdg : decode cc pc = .ok (.anewarray index, 3))
    (kk : ∀ (q : Nat) (L' : List Nat) (f' : Nat → va_E) (H1 : Heap), q ∉ L → pk (fun _ => False) L f L' f' → rowA G L' f' q N (fun _ => none) → xW G A s.heap (X ++ va_pl L' f') H1 locs → W p l e R s m args below meth c H1 locs (cells + 1) (slots + N) Q (F0 m (pc + 3) ls (.ref q :: rest))) : W p l e R s m args below meth c H locs cells slots Q (F0 m pc ls (.int v :: rest)) := by
  subst hv
  have hE := hc.2.2.2.2.2.2.2.1
  have hcl : (nI N).toNatClampNeg = N := nI_clamp (by omega)
  refine W.anewA (t := .int) hc.1 hc.2.1 hc.2.2.2.1 (hc.2.2.2.2.1 _ hlk) (xAO.use hE.2.2.2.2.1) rfl hdg rfl (nI_pos (by omega)) (by rw [hcl]; omega) hcells (by rw [hcl]; exact hslots) fun cA kA comp f1 f2 f3 f4 => ?_
  have r2 : s.vm.findClass ("[" ++ (FieldType.array .int).toString) = some G.2.1.2.2.1 := (hE.1.2 2 (G.2.1.2.2.1, .array .int) rfl).2
  have e2 : cA = G.2.1.2.2.1 := Option.some.inj (f1.symm.trans r2)
  subst e2
  rw [hcl]
  generalize hH1 : H.push ({ cls := G.2.1.2.2.1, slots := Array.replicate N .null, vm := .none } : Cell) = H1
  have z1 : H1.size = H.size + 1 := by rw [← hH1, Array.size_push]
  have e1 : H1[H.size]? = some (arrV G.2.1.2.2.1 N (fun _ => .null)) := by rw [← hH1, Array.getElem?_push_size, ← arrV_new]
  have o1 : ∀ q : Nat, q < H.size → H1[q]? = H[q]? := fun q hq => by rw [← hH1, Array.getElem?_push, if_neg (Nat.ne_of_lt hq)]
  have hk : ∀ (k : Nat) (x : Nat × va_E), (X ++ va_pl L f)[k]? = some x → H1[x.1]? = H[x.1]? := fun k x hx => o1 x.1 ((hw.1 k x hx).lt)
  have hq : H.size ∉ L := va_pl_fresh hw.1 (Nat.le_refl _)
  have hw1 : xW G A s.heap ((X ++ va_pl L f) ++ [(H.size, .inl (G.2.1.2.2.1, N, .inr (.inr (.inr (.inr (fun _ => none))))))]) H1 locs := by
    refine ⟨(hw.1.kept hk).app (fun k x hx => ?_), hw.2.1.push hw.1 rfl (hc.2.2.2.2.2.2.2.2.2 _ hw.2.2.1), ⟨Nat.le_trans hw.2.2.1 (by omega), fun x h1 h2 => (o1 x (Nat.lt_of_lt_of_le h1 hw.2.2.1)).trans (hw.2.2.2.1 x h1 h2), hw.2.2.2.2⟩⟩
    have hz : k < 1 := (List.getElem?_eq_some_iff.mp hx).1
    rw [show k = 0 by omega] at hx
    cases hx
    show H1[H.size]? = some (vp_cell _ _)
    rw [vp_cell_q]
    exact e1
  obtain ⟨h1, h2⟩ := ppush hw1
  exact kk H.size _ _ H1 h1 (pk_nw h1 _) ⟨pmem L _, _, va_up_self _ _ _, fun _ _ => rfl⟩ h2
theorem pmin {index : Nat} (hc : xC p s m args meth c cc nL own wds ret G A) (hlink : Cond.methodLink own index Lib.Math.min.name ∈ wds) (hstat : Cond.static Lib.Math.min.name ∈ wds) (hini : Cond.initialized "java/lang/Math" ∈ wds) (hcode : Cond.code Lib.Math.min.name Lib.Math.min.code 2 (some .int) ∈ wds) (hl : ls.size = nL)
    (hframes : 1 ≤ R.frames) (hlocals : (rest.map fun v => v.category).sum + 13 ≤ R.locals) (hcs : cells ≤ R.cells ∧ slots ≤ R.slots) {x y : Int32} (hdg : decode cc pc = .ok (.invokestatic index, 3))
    (kk : W p l e R s m args below meth c H locs cells slots Q (F0 m (pc + 3) ls (.int (if y < x then y else x) :: rest))) : W p l e R s m args below meth c H locs cells slots Q (F0 m pc ls (.int y :: .int x :: rest)) :=
  va_mmin hc.1 hc.2.1 (hc.2.2.1.trans hl.symm) hc.2.2.2.1 (hc.2.2.2.2.1 _ hlink) (hc.2.2.2.2.1 _ hstat) (hc.2.2.2.2.1 _ hini) (hc.2.2.2.2.1 _ hcode) hframes hlocals hcs.1 hcs.2 hdg kk
end PS
abbrev pS : Type := List Nat × (Nat → va_E)
abbrev pN (u : pS) : va_W := ([] : va_W) ++ va_pl u.1 u.2
abbrev pW (L : List Nat) (f : Nat → va_E) : va_W := ([] : va_W) ++ va_pl L f
/-- contracts of a method whose world is a pool: it answers an int, nothing, a reference -/
abbrev pMi (l : Launch) (y : MethodName) (wds : List Cond) (rm : Room) (G : xG) (av : List Value) (L : List Nat) (f : Nat → va_E) (sz : Nat) (post : Int32 → pS → Prop) : Prop := xM l y wds rm G av (pW L f) sz (xQi G (pW L f) sz post pN)
abbrev pMv (l : Launch) (y : MethodName) (wds : List Cond) (rm : Room) (G : xG) (av : List Value) (L : List Nat) (f : Nat → va_E) (sz : Nat) (post : pS → Prop) : Prop := xM l y wds rm G av (pW L f) sz (xQv G (pW L f) sz post pN)
abbrev pQr (G : xG) (ws : va_W) (sz : Nat) (post : Nat → pS → Prop) := va_Qq (fun r u => ∃ q : Nat, r = some q ∧ post q u) (xB G (va_A ws sz) pN) (va_A ws sz)
abbrev pMr (l : Launch) (y : MethodName) (wds : List Cond) (rm : Room) (G : xG) (av : List Value) (L : List Nat) (f : Nat → va_E) (sz : Nat) (post : Nat → pS → Prop) : Prop := xM l y wds rm G av (pW L f) sz (pQr G (pW L f) sz post)
section PC
variable {p : Program} {l : Launch} {e : Env} {R : Room} {s : State} {m : MethodId} {args : Array Value} {below : List Frame} {meth : Method} {c : Code} {H : Heap} {locs : List Loc} {cells slots : Nat} {Q : State → Prop}
variable {cc : ByteArray} {nL : Nat} {own : String} {wds : List Cond} {ret : Option FieldType} {G : xG} {A : Nat → Prop} {X : va_W} {L : List Nat} {f : Nat → va_E} {pc : Nat} {ls : Array Slot} {st0 rest : List Value}
variable {y : MethodName} {bytes : ByteArray} {maxL n index : Nat} {ret' : Option FieldType} {wds' wds'' : List Cond} {rm : Room} {b : Nat} {As : List Value}
theorem psz (hc : xC p s m args meth c cc nL own wds ret G A) (hw : xW G A s.heap (X ++ va_pl L f) H locs) : ∀ q, va_A (pW L f) H.size q → A q := fun q h => va_freeP (X := X) (cx := []) hw.2.1 hw.2.2 hc.2.2.2.2.2.2.2.2.2 [] rfl q h
theorem pPcOf (hc : xC p s m args meth c cc nL own wds ret G A) (hw : xW G A s.heap (X ++ va_pl L f) H locs) : ∀ U : State, U.heap = H → s.WarmedH U.vm → xPc G (pW L f) H.size U := by
  have hF := psz hc hw
  obtain ⟨hx, hb, hml, hown, hts, hr, hlk, hE, hZ, hA⟩ := hc
  obtain ⟨hP, hD, hS⟩ := hw
  intro U hU hW
  refine ⟨by rw [hU], by rw [hU]; exact hP.part (cx := []) [] rfl, (hD.part (cx := []) [] rfl rfl).weaken (fun _ _ _ _ => trivial), hE.warm hW, ?_⟩
  rw [hU]
  exact ⟨((hZ.1.moved hW.alike).kept hS.2.1).narrow hF, ((hZ.2.moved hW.alike).kept hS.2.1).narrow hF⟩
theorem prunV {Qc : Array Value → State → Outcome → State → Prop} {ci : Nat} {fs : List Value} {q : vw_C} (hc : xC p s m args meth c cc nL own wds ret G A) (hw : xW G A s.heap (X ++ va_pl L f) H locs) (hM : xM l y wds' rm G (.ref b :: As) (pW L f) H.size Qc)
    (hT : GoodIn wds (wsV own index q.1 y wds')) (hwd : wds' = Cond.code y bytes maxL ret' :: wds'')
    (hd : y.cls = q.1 ∧ y.cls ≠ "java/lang/invoke/MethodHandle" ∧ y.cls ≠ "java/lang/invoke/VarHandle" ∧ (parseMethodDescriptor y.desc).map (fun d => d.parameters.length) = some n) (hR : rm.frames + 1 ≤ R.frames ∧ 8 + (maxL + 11) + rm.locals ≤ R.locals)
    (hO : objS L f b ci fs) (hcl : vwCl[ci]? = some q) (hn : As.length = n) (hst0 : st0 = As.reverse ++ .ref b :: rest) (hl : ls.size = nL) (hst : (rest.map fun v => v.category).sum ≤ 8) (hdg : decode cc pc = .ok (.invokevirtual index, 3)) (hf : cells + rm.cells ≤ R.cells ∧ slots + rm.slots ≤ R.slots) :
    va_Run p l e R s m args below meth c H locs cells slots rm.cells rm.slots (F0 m pc ls st0) rest (Qc (Value.ref b :: As).toArray) (va_A (pW L f) H.size) := by
  subst hst0
  obtain ⟨q0, h0⟩ := va_pl_get (X := X) (f := f) hO.1
  rw [hO.2] at h0
  exact va_runV ⟨hc.1, hc.2.1, hc.2.2.1, hc.2.2.2.1, hc.2.2.2.2.1⟩ hM (cwV n hc.2.2.2.2.1 hT hwd rfl rfl hd hR) ⟨xPc_blind, va_recv hc.2.2.2.2.2.2.2.1.1 hw.1 hcl h0, fun U hU hW => ⟨rfl, pPcOf hc hw U hU hW⟩⟩ rfl hn hl rfl (lv_room hst) hdg hf
theorem prunS {Qc : Array Value → State → Outcome → State → Prop} (hc : xC p s m args meth c cc nL own wds ret G A) (hw : xW G A s.heap (X ++ va_pl L f) H locs) (hM : xM l y wds' rm G As (pW L f) H.size Qc)
    (hT : GoodIn wds (va_wsS own index y wds')) (hwd : wds' = Cond.code y bytes maxL ret' :: wds'')
    (hd : y.cls ≠ "java/lang/invoke/MethodHandle" ∧ y.cls ≠ "java/lang/invoke/VarHandle" ∧ (parseMethodDescriptor y.desc).map (fun d => d.parameters.length) = some n) (hR : rm.frames + 1 ≤ R.frames ∧ 8 + (maxL + 11) + rm.locals ≤ R.locals)
    (hn : As.length = n) (hst0 : st0 = As.reverse ++ rest) (hl : ls.size = nL) (hst : (rest.map fun v => v.category).sum ≤ 8) (hdg : decode cc pc = .ok (.invokestatic index, 3)) (hf : cells + rm.cells ≤ R.cells ∧ slots + rm.slots ≤ R.slots) :
    va_Run p l e R s m args below meth c H locs cells slots rm.cells rm.slots (F0 m pc ls st0) rest (Qc As.toArray) (va_A (pW L f) H.size) := by
  subst hst0
  exact va_runS ⟨hc.1, hc.2.1, hc.2.2.1, hc.2.2.2.1, hc.2.2.2.2.1⟩ hM (va_cwS n hc.2.2.2.2.1 hT hwd rfl rfl hd hR) ⟨xPc_blind, fun U hU hW => ⟨rfl, pPcOf hc hw U hU hW⟩⟩ rfl hn hl rfl (lv_room hst) hdg hf
section CALL
variable {mc ms : Nat} {av : Array Value}
theorem pcall_i {post : Int32 → pS → Prop} (hc : xC p s m args meth c cc nL own wds ret G A) (hw : xW G A s.heap (X ++ va_pl L f) H locs)
    (hr : va_Run p l e R s m args below meth c H locs cells slots mc ms (F0 m pc ls st0) rest (xQi G (pW L f) H.size post pN av) (va_A (pW L f) H.size))
    (kk : ∀ (r : Int32) (L' : List Nat) (f' : Nat → va_E) (H1 : Heap) (locs1 : List Loc), post r (L', f') → xW G A s.heap (X ++ va_pl L' f') H1 locs1 → W p l e R s m args below meth c H1 locs1 (cells + mc) (slots + ms) Q (F0 m (pc + 3) ls (.int r :: rest))) : W p l e R s m args below meth c H locs cells slots Q (F0 m pc ls st0) := by
  have hF := psz hc hw
  refine va_calli hr hw.2.2 (fun q _ h => hF q h) hF (fun r u t H1 locs1 ht hvm hp hB hz hk hS => ?_)
  obtain ⟨hP1, hD1⟩ := hB
  rw [ht] at hP1
  obtain ⟨g1, g2⟩ := pjoin hw.1 hw.2.1 hk hF hP1 hD1
  exact kk r u.1 u.2 H1 locs1 hp ⟨g1, g2, hS⟩
theorem pcall_v {post : pS → Prop} (hc : xC p s m args meth c cc nL own wds ret G A) (hw : xW G A s.heap (X ++ va_pl L f) H locs)
    (hr : va_Run p l e R s m args below meth c H locs cells slots mc ms (F0 m pc ls st0) rest (xQv G (pW L f) H.size post pN av) (va_A (pW L f) H.size))
    (kk : ∀ (L' : List Nat) (f' : Nat → va_E) (H1 : Heap) (locs1 : List Loc), post (L', f') → xW G A s.heap (X ++ va_pl L' f') H1 locs1 → W p l e R s m args below meth c H1 locs1 (cells + mc) (slots + ms) Q (F0 m (pc + 3) ls rest)) : W p l e R s m args below meth c H locs cells slots Q (F0 m pc ls st0) := by
  have hF := psz hc hw
  refine va_callv hr hw.2.2 (fun q _ h => hF q h) hF (fun u t H1 locs1 ht hvm hp hB hz hk hS => ?_)
  obtain ⟨hP1, hD1⟩ := hB
  rw [ht] at hP1
  obtain ⟨g1, g2⟩ := pjoin hw.1 hw.2.1 hk hF hP1 hD1
  exact kk u.1 u.2 H1 locs1 hp ⟨g1, g2, hS⟩
theorem pcall_r {post : Nat → pS → Prop} (hc : xC p s m args meth c cc nL own wds ret G A) (hw : xW G A s.heap (X ++ va_pl L f) H locs)
    (hr : va_Run p l e R s m args below meth c H locs cells slots mc ms (F0 m pc ls st0) rest (pQr G (pW L f) H.size post av) (va_A (pW L f) H.size))
    (kk : ∀ (r : Nat) (L' : List Nat) (f' : Nat → va_E) (H1 : Heap) (locs1 : List Loc), post r (L', f') → xW G A s.heap (X ++ va_pl L' f') H1 locs1 → W p l e R s m args below meth c H1 locs1 (cells + mc) (slots + ms) Q (F0 m (pc + 3) ls (.ref r :: rest))) : W p l e R s m args below meth c H locs cells slots Q (F0 m pc ls st0) := by
  have hF := psz hc hw
  refine va_callq hr hw.2.2 (fun q _ h => hF q h) hF (fun r u t H1 locs1 ht hvm hp hB hz hk hS => ?_)
  obtain ⟨q, rfl, hp⟩ := hp
  obtain ⟨hP1, hD1⟩ := hB
  rw [ht] at hP1
  obtain ⟨g1, g2⟩ := pjoin hw.1 hw.2.1 hk hF hP1 hD1
  exact kk q u.1 u.2 H1 locs1 hp ⟨g1, g2, hS⟩
end CALL
section END
variable {w0 : va_W} {sz mc ms : Nat}
theorem pret_i {post : Int32 → pS → Prop} {r : Int32} (hc : xC p s m args meth c cc nL own wds (some .int) G (va_A w0 sz)) (hw : xW G (va_A w0 sz) s.heap (([] : va_W) ++ va_pl L f) H locs) (hp : post r (L, f)) (hm : cells ≤ mc ∧ slots ≤ ms) (hdg : decode cc pc = .ok (.ireturn, 1)) :
    W p l e R s m args below meth c H locs cells slots (MQ below (xQi G w0 sz post pN) args s mc ms (va_A w0 sz)) (F0 m pc ls [.int r]) := xret_i (L, f) hc hw hp hm hdg
theorem pret_z {post : Int32 → pS → Prop} {r : Int32} (hc : xC p s m args meth c cc nL own wds (some .boolean) G (va_A w0 sz)) (hw : xW G (va_A w0 sz) s.heap (([] : va_W) ++ va_pl L f) H locs) (hz : narrow .boolean (.int r) = .int r) (hp : post r (L, f)) (hm : cells ≤ mc ∧ slots ≤ ms) (hdg : decode cc pc = .ok (.ireturn, 1)) :
    W p l e R s m args below meth c H locs cells slots (MQ below (xQi G w0 sz post pN) args s mc ms (va_A w0 sz)) (F0 m pc ls [.int r]) := xret_z (L, f) hc hw hz hp hm hdg
theorem pret_v {post : pS → Prop} (hc : xC p s m args meth c cc nL own wds none G (va_A w0 sz)) (hw : xW G (va_A w0 sz) s.heap (([] : va_W) ++ va_pl L f) H locs) (hp : post (L, f)) (hm : cells ≤ mc ∧ slots ≤ ms) (hdg : decode cc pc = .ok (.return_, 1)) :
    W p l e R s m args below meth c H locs cells slots (MQ below (xQv G w0 sz post pN) args s mc ms (va_A w0 sz)) (F0 m pc ls []) := xret_v (L, f) hc hw hp hm hdg
theorem pret_r {post : Nat → pS → Prop} {t : FieldType} {q : Nat} (hc : xC p s m args meth c cc nL own wds (some (.array t)) G (va_A w0 sz)) (hw : xW G (va_A w0 sz) s.heap (([] : va_W) ++ va_pl L f) H locs) (hp : post q (L, f)) (hm : cells ≤ mc ∧ slots ≤ ms) (hdg : decode cc pc = .ok (.areturn, 1)) :
    W p l e R s m args below meth c H locs cells slots (MQ below (pQr G w0 sz post) args s mc ms (va_A w0 sz)) (F0 m pc ls [.ref q]) :=
  W.widen hm.1 hm.2 (W.aret hc.1 hc.2.1 hc.2.2.2.2.2.1 (Or.inr ⟨t, rfl⟩) (Or.inr ⟨q, rfl⟩) (fun u ht hW => ⟨⟨some q, (L, f), rfl, ⟨q, rfl, hp⟩, by rw [ht]; exact hw.1, hw.2.1⟩, hw.2.2.F ht⟩) hw.2.2.2.2 hdg hc.2.2.2.2.2.2.1)
end END
end PC
