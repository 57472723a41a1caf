/-! calls from a world of two: the class's cells (any C) and a pool; a callee has the first, or both -/
section CR
variable {p : Program} {l : Launch} {e : Env} {R : Room} {s : State} {m : MethodId} {args : Array Value} {below : List Frame} {meth : Method} {c : Code} {H : Heap} {locs : List Loc} {cells slots : Nat} {Q : State → Prop}
variable {cc : ByteArray} {nL : Nat} {own : String} {wds : List Cond} {ret : Option FieldType} {G : xG} {A : Nat → Prop} {C ws : va_W} {L : List Nat} {f : Nat → va_E} {pc : Nat} {ls : Array Slot} {st0 rest : List Value}
variable {y : MethodName} {bytes : ByteArray} {maxL n index : Nat} {ret' : Option FieldType} {wds' wds'' : List Cond} {rm : Room} {b : Nat} {As : List Value} {px : String → Prop}
theorem wsz (hc : xC p s m args meth c cc nL own wds ret G A) (hw : xW G A s.heap ws H locs) : ∀ q, va_A ws H.size q → A q := fun q h => h.elim (fun ⟨k, e, h⟩ => hw.2.1.2 k (q, e) h) (fun h => hc.2.2.2.2.2.2.2.2.2 q (Nat.le_trans hw.2.2.1 h))
theorem wfst {X Y : va_W} {k : Nat} {q : Nat × va_E} (h : X[k]? = some q) : (X ++ Y)[k]? = some q := by rw [List.getElem?_append_left (List.getElem?_eq_some_iff.mp h).1]; exact h
theorem csz (hc : xC p s m args meth c cc nL own wds ret G A) (hw : xW G A s.heap (C ++ va_pl L f) H locs) : ∀ q, va_A C H.size q → A q := fun q h => h.elim (fun ⟨k, e, h⟩ => hw.2.1.2 k (q, e) (wfst h)) (fun h => hc.2.2.2.2.2.2.2.2.2 q (Nat.le_trans hw.2.2.1 h))
theorem wPcOf (hc : xC p s m args meth c cc nL own wds ret G A) (hw : xW G A s.heap ws H locs) : ∀ U : State, U.heap = H → s.WarmedH U.vm → xPc G ws H.size U := by
  have hF := wsz hc hw
  obtain ⟨hx, hb, hml, hown, hts, hr, hlk, hE, hZ, hA⟩ := hc
  obtain ⟨hP, hD, hS⟩ := hw
  intro U hU hW
  refine ⟨by rw [hU], by rw [hU]; exact hP, hD.weaken (fun _ _ _ _ => trivial), hE.warm hW, ?_⟩
  rw [hU]
  exact ⟨((hZ.1.moved hW.alike).kept hS.2.1).narrow hF, ((hZ.2.moved hW.alike).kept hS.2.1).narrow hF⟩
theorem cPcOf (hc : xC p s m args meth c cc nL own wds ret G A) (hw : xW G A s.heap (C ++ va_pl L f) H locs) : ∀ U : State, U.heap = H → s.WarmedH U.vm → xPc G C H.size U := by
  have hF := csz hc hw
  obtain ⟨hx, hb, hml, hown, hts, hr, hlk, hE, hZ, hA⟩ := hc
  obtain ⟨hP, hD, hS⟩ := hw
  intro U hU hW
  refine ⟨by rw [hU], by rw [hU]; exact fun k q hq => hP k q (wfst hq), ⟨fun i j x z hi hj => hD.1 i j x z (wfst hi) (wfst hj), fun _ _ _ => trivial⟩, hE.warm hW, ?_⟩
  rw [hU]
  exact ⟨((hZ.1.moved hW.alike).kept hS.2.1).narrow hF, ((hZ.2.moved hW.alike).kept hS.2.1).narrow hF⟩
/-- a call of a method of the class's -/
theorem crunV {Qc : Array Value → State → Outcome → State → Prop} {ci : Nat} {fs : List Value} {q : vw_C} (hc : xC p s m args meth c cc nL own wds ret G A) (hw : xW G A s.heap (C ++ va_pl L f) H locs) (hM : xM l y wds' rm G (.ref b :: As) C H.size Qc)
    (hT : GoodIn wds (wsV own index q.1 y wds')) (hwd : wds' = Cond.code y bytes maxL ret' :: wds'')
    (hd : y.cls = q.1 ∧ y.cls ≠ "java/lang/invoke/MethodHandle" ∧ y.cls ≠ "java/lang/invoke/VarHandle" ∧ (parseMethodDescriptor y.desc).map (fun d => d.parameters.length) = some n) (hR : rm.frames + 1 ≤ R.frames ∧ 8 + (maxL + 11) + rm.locals ≤ R.locals)
    (k0 : Nat) (hcl : vwCl[ci]? = some q) (he : C[k0]? = some (b, .inr (ci, fs))) (hn : As.length = n) (hst0 : st0 = As.reverse ++ .ref b :: rest) (hl : ls.size = nL) (hst : (rest.map fun v => v.category).sum ≤ 8) (hdg : decode cc pc = .ok (.invokevirtual index, 3)) (hf : cells + rm.cells ≤ R.cells ∧ slots + rm.slots ≤ R.slots) :
    va_Run p l e R s m args below meth c H locs cells slots rm.cells rm.slots (F0 m pc ls st0) rest (Qc (Value.ref b :: As).toArray) (va_A C H.size) := by
  subst hst0
  exact va_runV ⟨hc.1, hc.2.1, hc.2.2.1, hc.2.2.2.1, hc.2.2.2.2.1⟩ hM (cwV n hc.2.2.2.2.1 hT hwd rfl rfl hd hR) ⟨xPc_blind, va_recv hc.2.2.2.2.2.2.2.1.1 hw.1 hcl (wfst he), fun U hU hW => ⟨rfl, cPcOf hc hw U hU hW⟩⟩ rfl hn hl rfl (lv_room hst) hdg hf
theorem crunVX {Qc : Array Value → State → Outcome → State → Prop} {ci : Nat} {fs : List Value} {q : vw_C} (hc : xC p s m args meth c cc nL own wds ret G A) (hw : xW G A s.heap (C ++ va_pl L f) H locs) (hM : xMX l y wds' rm G (.ref b :: As) C H.size Qc px)
    (hT : GoodIn wds (wsV own index q.1 y wds')) (hwd : wds' = Cond.code y bytes maxL ret' :: wds'')
    (hd : y.cls = q.1 ∧ y.cls ≠ "java/lang/invoke/MethodHandle" ∧ y.cls ≠ "java/lang/invoke/VarHandle" ∧ (parseMethodDescriptor y.desc).map (fun d => d.parameters.length) = some n) (hR : rm.frames + 1 ≤ R.frames ∧ 8 + (maxL + 11) + rm.locals ≤ R.locals)
    (k0 : Nat) (hcl : vwCl[ci]? = some q) (he : C[k0]? = some (b, .inr (ci, fs))) (hn : As.length = n) (hst0 : st0 = As.reverse ++ .ref b :: rest) (hl : ls.size = nL) (hst : (rest.map fun v => v.category).sum ≤ 8) (hdg : decode cc pc = .ok (.invokevirtual index, 3)) (hf : cells + rm.cells ≤ R.cells ∧ slots + rm.slots ≤ R.slots) :
    vx_Run p l e R s m args below meth c H locs cells slots rm.cells rm.slots (F0 m pc ls st0) rest (Qc (Value.ref b :: As).toArray) (xX G C H.size px) (va_A C H.size) := by
  subst hst0
  exact vx_runV ⟨hc.1, hc.2.1, hc.2.2.1, hc.2.2.2.1, hc.2.2.2.2.1⟩ hM (cwV n hc.2.2.2.2.1 hT hwd rfl rfl hd hR) ⟨xPc_blind, va_recv hc.2.2.2.2.2.2.2.1.1 hw.1 hcl (wfst he), fun U hU hW => ⟨rfl, cPcOf hc hw U hU hW⟩⟩ rfl hn hl rfl (lv_room hst) hdg hf
/-- a static call with the whole world; of a method with handlers; a call with the receiver in the pool -/
theorem wrunS {Qc : Array Value → State → Outcome → State → Prop} (hc : xC p s m args meth c cc nL own wds ret G A) (hw : xW G A s.heap ws H locs) (hM : xM l y wds' rm G As ws H.size Qc)
    (hT : GoodIn wds (va_wsS own index y wds')) (hwd : wds' = Cond.code y bytes maxL ret' :: wds'')
    (hd : y.cls ≠ "java/lang/invoke/MethodHandle" ∧ y.cls ≠ "java/lang/invoke/VarHandle" ∧ (parseMethodDescriptor y.desc).map (fun d => d.parameters.length) = some n) (hR : rm.frames + 1 ≤ R.frames ∧ 8 + (maxL + 11) + rm.locals ≤ R.locals)
    (hn : As.length = n) (hst0 : st0 = As.reverse ++ rest) (hl : ls.size = nL) (hst : (rest.map fun v => v.category).sum ≤ 8) (hdg : decode cc pc = .ok (.invokestatic index, 3)) (hf : cells + rm.cells ≤ R.cells ∧ slots + rm.slots ≤ R.slots) :
    va_Run p l e R s m args below meth c H locs cells slots rm.cells rm.slots (F0 m pc ls st0) rest (Qc As.toArray) (va_A ws H.size) := by
  subst hst0
  exact va_runS ⟨hc.1, hc.2.1, hc.2.2.1, hc.2.2.2.1, hc.2.2.2.2.1⟩ hM (va_cwS n hc.2.2.2.2.1 hT hwd rfl rfl hd hR) ⟨xPc_blind, fun U hU hW => ⟨rfl, wPcOf hc hw U hU hW⟩⟩ rfl hn hl rfl (lv_room hst) hdg hf
theorem wrunSW {Qc : Array Value → State → Outcome → State → Prop} {hh : List (Nat × Nat × Nat × Nat)} (hc : xC p s m args meth c cc nL own wds ret G A) (hw : xW G A s.heap ws H locs) (hM : xM l y wds' rm G As ws H.size Qc)
    (hT : GoodIn wds (va_wsS own index y wds')) (hwd : wds' = Cond.codeWith y bytes maxL ret' hh :: wds'')
    (hd : y.cls ≠ "java/lang/invoke/MethodHandle" ∧ y.cls ≠ "java/lang/invoke/VarHandle" ∧ (parseMethodDescriptor y.desc).map (fun d => d.parameters.length) = some n) (hR : rm.frames + 1 ≤ R.frames ∧ 8 + (maxL + 11) + rm.locals ≤ R.locals)
    (hn : As.length = n) (hst0 : st0 = As.reverse ++ rest) (hl : ls.size = nL) (hst : (rest.map fun v => v.category).sum ≤ 8) (hdg : decode cc pc = .ok (.invokestatic index, 3)) (hf : cells + rm.cells ≤ R.cells ∧ slots + rm.slots ≤ R.slots) :
    va_Run p l e R s m args below meth c H locs cells slots rm.cells rm.slots (F0 m pc ls st0) rest (Qc As.toArray) (va_A ws H.size) := by
  subst hst0
  exact vx_runSW ⟨hc.1, hc.2.1, hc.2.2.1, hc.2.2.2.1, hc.2.2.2.2.1⟩ hM (vx_cwSW n hc.2.2.2.2.1 hT hwd rfl rfl hd hR) ⟨xPc_blind, fun U hU hW => ⟨rfl, wPcOf hc hw U hU hW⟩⟩ rfl hn hl rfl (lv_room hst) hdg hf
section CALL
variable {S : Type} {mc ms : Nat} {av : Array Value} {wn : S → va_W}
theorem ccall_i {post : Int32 → S → Prop} (hc : xC p s m args meth c cc nL own wds ret G A) (hw : xW G A s.heap (C ++ va_pl L f) H locs)
    (hr : va_Run p l e R s m args below meth c H locs cells slots mc ms (F0 m pc ls st0) rest (xQi G C H.size post wn av) (va_A C H.size))
    (kk : ∀ (r : Int32) (u : S) (H1 : Heap) (locs1 : List Loc), post r u → xW G A s.heap (wn u ++ va_pl L f) H1 locs1 → W p l e R s m args below meth c H1 locs1 (cells + mc) (slots + ms) Q (F0 m (pc + 3) ls (.int r :: rest))) : W p l e R s m args below meth c H locs cells slots Q (F0 m pc ls st0) := by
  have hF := csz hc hw
  refine va_calli hr hw.2.2 (fun q _ h => hF q h) hF (fun r u t H1 locs1 ht hvm hp hB hz hk hS => ?_)
  obtain ⟨hP1, hD1⟩ := hB
  rw [ht] at hP1
  obtain ⟨g1, g2⟩ := pjoinL hw.1 hw.2.1 hk hF hP1 hD1
  exact kk r u H1 locs1 hp ⟨g1, g2, hS⟩
theorem ccall_l {post : Int64 → S → Prop} (hc : xC p s m args meth c cc nL own wds ret G A) (hw : xW G A s.heap (C ++ va_pl L f) H locs)
    (hr : va_Run p l e R s m args below meth c H locs cells slots mc ms (F0 m pc ls st0) rest (xQl G C H.size post wn av) (va_A C H.size))
    (kk : ∀ (r : Int64) (u : S) (H1 : Heap) (locs1 : List Loc), post r u → xW G A s.heap (wn u ++ va_pl L f) H1 locs1 → W p l e R s m args below meth c H1 locs1 (cells + mc) (slots + ms) Q (F0 m (pc + 3) ls (.long r :: rest))) : W p l e R s m args below meth c H locs cells slots Q (F0 m pc ls st0) := by
  have hF := csz hc hw
  refine va_calll hr hw.2.2 (fun q _ h => hF q h) hF (fun r u t H1 locs1 ht hvm hp hB hz hk hS => ?_)
  obtain ⟨hP1, hD1⟩ := hB
  rw [ht] at hP1
  obtain ⟨g1, g2⟩ := pjoinL hw.1 hw.2.1 hk hF hP1 hD1
  exact kk r u H1 locs1 hp ⟨g1, g2, hS⟩
theorem ccallX_i {post : Int32 → S → Prop} (hc : xC p s m args meth c cc nL own wds ret G A) (hw : xW G A s.heap (C ++ va_pl L f) H locs)
    (hr : vx_Run p l e R s m args below meth c H locs cells slots mc ms (F0 m pc ls st0) rest (xQi G C H.size post wn av) (xX G C H.size px) (va_A C H.size))
    (kx : ∀ (E : String) (ce : Cell) (q9 : Addr) (H1 : Heap) (locs1 : List Loc), px E → xW G A s.heap (C ++ va_pl L f) H1 locs1 → H1[q9]? = some ce → ce.vm = .none → s.vm.findClass E = some ce.cls → vx_W p l e R s m args below meth c H1 locs1 (cells + mc) (slots + ms) Q (F0 m pc ls rest) q9)
    (kk : ∀ (r : Int32) (u : S) (H1 : Heap) (locs1 : List Loc), post r u → xW G A s.heap (wn u ++ va_pl L f) H1 locs1 → W p l e R s m args below meth c H1 locs1 (cells + mc) (slots + ms) Q (F0 m (pc + 3) ls (.int r :: rest))) : W p l e R s m args below meth c H locs cells slots Q (F0 m pc ls st0) := by
  have hF := csz hc hw
  refine vx_calli hr hw.2.2 (fun q _ h => hF q h) hF (fun q _ h => hF q h) (fun E ce q9 u t H1 locs1 ht hvm _ hB hz hk hS h9 hv9 hc9 => ?_) (fun r u t H1 locs1 ht hvm hp hB hz hk hS => ?_)
  · obtain ⟨hpx, hP1, hD1⟩ := hB
    rw [ht] at hP1
    obtain ⟨g1, g2⟩ := pjoinL hw.1 hw.2.1 hk hF hP1 hD1
    exact kx E ce q9 H1 locs1 hpx ⟨g1, g2, hS⟩ h9 hv9 hc9
  · obtain ⟨hP1, hD1⟩ := hB
    rw [ht] at hP1
    obtain ⟨g1, g2⟩ := pjoinL hw.1 hw.2.1 hk hF hP1 hD1
    exact kk r u H1 locs1 hp ⟨g1, g2, hS⟩
theorem wcall_i {post : Int32 → S → Prop} (hc : xC p s m args meth c cc nL own wds ret G A) (hw : xW G A s.heap ws H locs)
    (hr : va_Run p l e R s m args below meth c H locs cells slots mc ms (F0 m pc ls st0) rest (xQi G ws H.size post wn av) (va_A ws H.size))
    (kk : ∀ (r : Int32) (u : S) (H1 : Heap) (locs1 : List Loc), post r u → xW G A s.heap (wn u) H1 locs1 → W p l e R s m args below meth c H1 locs1 (cells + mc) (slots + ms) Q (F0 m (pc + 3) ls (.int r :: rest))) : W p l e R s m args below meth c H locs cells slots Q (F0 m pc ls st0) := by
  have hF := wsz hc hw
  refine va_calli hr hw.2.2 (fun q _ h => hF q h) hF (fun r u t H1 locs1 ht hvm hp hB hz hk hS => ?_)
  obtain ⟨hP1, hD1⟩ := hB
  rw [ht] at hP1
  exact kk r u H1 locs1 hp ⟨hP1, va_D.weaken hD1 (fun k q _ h => hF q.1 h), hS⟩
end CALL
/-- a static call of a method that has no cells -/
theorem nrunS {Qc : Array Value → State → Outcome → State → Prop} (hc : xC p s m args meth c cc nL own wds ret G A) (hw : xW G A s.heap ws H locs) (hM : xM l y wds' rm G As [] H.size Qc)
    (hT : GoodIn wds (va_wsS own index y wds')) (hwd : wds' = Cond.code y bytes maxL ret' :: wds'')
    (hd : y.cls ≠ "java/lang/invoke/MethodHandle" ∧ y.cls ≠ "java/lang/invoke/VarHandle" ∧ (parseMethodDescriptor y.desc).map (fun d => d.parameters.length) = some n) (hR : rm.frames + 1 ≤ R.frames ∧ 8 + (maxL + 11) + rm.locals ≤ R.locals)
    (hn : As.length = n) (hst0 : st0 = As.reverse ++ rest) (hl : ls.size = nL) (hst : (rest.map fun v => v.category).sum ≤ 8) (hdg : decode cc pc = .ok (.invokestatic index, 3)) (hf : cells + rm.cells ≤ R.cells ∧ slots + rm.slots ≤ R.slots) :
    va_Run p l e R s m args below meth c H locs cells slots rm.cells rm.slots (F0 m pc ls st0) rest (Qc As.toArray) (va_A [] H.size) :=
  xrunS hc hw [] hM hT hwd hd hR rfl rfl hn hst0 hl hst hdg hf
theorem ncall_i {mc ms : Nat} {av : Array Value} {post : Int32 → Unit → Prop} (hc : xC p s m args meth c cc nL own wds ret G A) (hw : xW G A s.heap ws H locs)
    (hr : va_Run p l e R s m args below meth c H locs cells slots mc ms (F0 m pc ls st0) rest (xQi G [] H.size post (fun _ => []) av) (va_A [] H.size))
    (kk : ∀ (r : Int32) (H1 : Heap) (locs1 : List Loc), post r () → xW G A s.heap ws H1 locs1 → W p l e R s m args below meth c H1 locs1 (cells + mc) (slots + ms) Q (F0 m (pc + 3) ls (.int r :: rest))) : W p l e R s m args below meth c H locs cells slots Q (F0 m pc ls st0) := by
  have hF := xsz (wc := []) hc hw [] rfl
  refine va_calli hr hw.2.2 (fun q _ h => hF q h) hF (fun r u t H1 locs1 ht hvm hp hB hz hk hS => ?_)
  refine kk r H1 locs1 hp ⟨fun k q hq => (hw.1 k q hq).kept (hk q.1 (hw.1 k q hq).lt (fun h => ?_)), hw.2.1, hS⟩
  rcases h with ⟨k2, e2, h⟩ | h
  · exact absurd h (by simp)
  · exact absurd (hw.1 k q hq).lt (Nat.not_lt.mpr h)
end CR
