theorem yMet_ofWH {l : Launch} {y : MethodName} {ws ws' : List Cond} {rm : Room} {Pc : Array Value → State → Prop} {Qc : Array Value → State → Outcome → State → Prop} {mc ms : Nat} {free : Addr → Prop} {cc : ByteArray} {maxL : Nat} {ret : Option FieldType} {hh : List (Nat × Nat × Nat × Nat)}
    (hy : plainName y.cls = true) (hw : ws = Cond.codeWith y cc maxL ret hh :: ws')
    (body : ∀ p e s m args below meth c s₁, BodyLoose p l y (headSpec ws rm) cc maxL ret e s m args below meth c s₁ → c.maxLocals = maxL → Pc args s →
      W p l e (headSpec ws rm).room s m args below meth c s.heap [] 0 0 (MQ below Qc args s mc ms free) (entryFrame m args maxL)) : Met l y ws rm Pc Qc mc ms free := by
  refine MetFree.of_bodyS (code := cc) (maxLocals := maxL) (ret := ret) hy ?_ ?_
  · intro args s m h hn
    obtain ⟨m9, meth, c, hn9, h1, h2, h3, h4, -, h5, h6, -⟩ := Cond.codeWith_spec (atoms_spec (ws := ws) h _ (by rw [hw]; exact List.mem_cons_self))
    cases hn.symm.trans hn9
    exact ⟨meth, c, h1, h2, h3, h4, h5, h6⟩
  · intro p e s m args below meth c s₁ B hml hP _
    have hh0 : s₁.heap = s.heap := by rw [B.state]; rfl
    obtain ⟨t, a1, o, b1, b2, b3, b4⟩ := body p e s m args below meth c s₁ B hml hP s₁ hh0 (Stand.of_body B)
    exact ⟨t, o, a1, b1, b2, b3, b4⟩
theorem xofW {l : Launch} {y : MethodName} {wds wds' : List Cond} {rm : Room} {G : xG} {av : List Value} {ws : va_W} {sz : Nat} {Qc : Array Value → State → Outcome → State → Prop} {own : String} {cc : ByteArray} {maxL : Nat} {ret : Option FieldType} {hh : List (Nat × Nat × Nat × Nat)}
    (ho : y.cls = own) (hy : plainName y.cls = true) (hwd : wds = Cond.codeWith y cc maxL ret hh :: wds') (hlen : (lg_sl av).length ≤ maxL)
    (body : ∀ (p : Program) (e : Env) (s : State) (m : MethodId) (below : List Frame) (meth : Method) (c : Code), xC p s m av.toArray meth c cc maxL own wds ret G (va_A ws sz) → c.exceptionTable.toList = tableOf hh → xW G (va_A ws sz) s.heap ws s.heap [] →
      ∀ ls, lv_has ls maxL (lv_args 0 av) → W p l e rm s m av.toArray below meth c s.heap [] 0 0 (MQ below Qc av.toArray s rm.cells rm.slots (va_A ws sz)) (F0 m 0 ls [])) :
    xM l y wds rm G av ws sz Qc := by
  subst ho
  refine yMet_ofWH (cc := cc) (maxL := maxL) (ret := ret) (hh := hh) hy hwd ?_
  intro p e s m args below meth c s₁ B hml hv
  have ht := vx_table (x := y) B (atoms_spec (ws := wds) B.pre _ (by rw [hwd]; exact List.mem_cons_self))
  obtain ⟨rfl, hsz, hP, hD0, hE, hZ⟩ := hv
  have hl := lv_entry av (n := maxL) hlen
  rw [lg_entry_eq]
  generalize (lg_sl av ++ List.replicate (maxL - (lg_sl av).length) Slot.unset).toArray = ls at hl ⊢
  exact body p e s m below meth c ⟨B.exec, B.bytes, hml, findClass_of_methodNamed B.named, atoms_spec (ws := wds) B.pre, B.returns, B.notSynchronized, hE, hZ, fun q h => Or.inr (hsz ▸ h)⟩ ht ⟨hP, hD0.self, va_S.rf⟩ ls hl
section YR
variable {p : Program} {l : Launch} {e : Env} {R : Room} {s : State} {m : MethodId} {args : Array Value} {below : List Frame} {meth : Method} {c : Code} {H : Heap} {locs : List Loc} {cells slots : Nat} {Q : State → Prop}
variable {cc : ByteArray} {nL : Nat} {own : String} {wds : List Cond} {ret : Option FieldType} {G : xG} {A : Nat → Prop} {ws : va_W} {pc : Nat} {ls : Array Slot} {st0 rest : List Value}
/-- a static call of a method with handlers -/
theorem xrunSW {wc : va_W} {y : MethodName} {bytes : ByteArray} {maxL n index : Nat} {ret' : Option FieldType} {hh : List (Nat × Nat × Nat × Nat)} {wds' wds'' : List Cond} {rm : Room} {Qc : Array Value → State → Outcome → State → Prop} {As : List Value} (hc : xC p s m args meth c cc nL own wds ret G A) (hw : xW G A s.heap ws H locs) (isC : List Nat) (hM : xM l y wds' rm G As wc H.size Qc)
    (hT : GoodIn wds (va_wsS own index y wds')) (hwd : wds' = Cond.codeWith y bytes maxL ret' hh :: wds'')
    (hd : y.cls ≠ "java/lang/invoke/MethodHandle" ∧ y.cls ≠ "java/lang/invoke/VarHandle" ∧ (parseMethodDescriptor y.desc).map (fun d => d.parameters.length) = some n) (hR : rm.frames + 1 ≤ R.frames ∧ 8 + (maxL + 11) + rm.locals ≤ R.locals)
    (hnn : va_nd isC = true) (hC : isC.map (fun i => ws[i]?) = wc.map some) (hn : As.length = n) (hst0 : st0 = As.reverse ++ rest) (hl : ls.size = nL) (hst : (rest.map fun v => v.category).sum ≤ 8) (hdg : decode cc pc = .ok (.invokestatic index, 3)) (hf : cells + rm.cells ≤ R.cells ∧ slots + rm.slots ≤ R.slots) :
    va_Run p l e R s m args below meth c H locs cells slots rm.cells rm.slots (F0 m pc ls st0) rest (Qc As.toArray) (va_A wc H.size) := by
  subst hst0
  exact vx_runSW ⟨hc.1, hc.2.1, hc.2.2.1, hc.2.2.2.1, hc.2.2.2.2.1⟩ hM (vx_cwSW n hc.2.2.2.2.1 hT hwd rfl rfl hd hR) ⟨xPc_blind, fun U hU hW => ⟨rfl, xPcOf hc hw isC hnn hC U hU hW⟩⟩ rfl hn hl rfl (lv_room hst) hdg hf
end YR

def yc1 {γ : Type} (a : Nat × Unit) (h : Nat → γ) (b : γ) : γ := if a.1 = 0 then b else h a.1
def yc2 {α γ : Type} (a : Nat × α) (h : Nat → γ) (f : α → γ) : γ := if a.1 = 0 then f a.2 else h a.1
def yc3 {α β γ : Type} (a : Nat × α × β) (h : Nat → γ) (f : α → β → γ) : γ := if a.1 = 0 then f a.2.1 a.2.2 else h a.1
theorem yt1 {γ : Type} {a : Nat × Unit} {h : Nat → γ} {b c : γ} (hp : a.1 = 0) (e : b = c) : yc1 a h b = c := by rw [yc1, if_pos hp]; exact e
theorem yt2 {α γ : Type} {a : Nat × α} {h : Nat → γ} {f : α → γ} {r : α} {c : γ} (hp : a.1 = 0 ∧ r = a.2) (e : f r = c) : yc2 a h f = c := by rw [yc2, if_pos hp.1, ← hp.2]; exact e
theorem yt3 {α β γ : Type} {a : Nat × α × β} {h : Nat → γ} {f : α → β → γ} {r : α} {u : β} {c : γ} (hp : a.1 = 0 ∧ r = a.2.1 ∧ u = a.2.2) (e : f r u = c) : yc3 a h f = c := by rw [yc3, if_pos hp.1, ← hp.2.1, ← hp.2.2]; exact e
theorem yh1 {γ : Type} {a : Nat × Unit} {h : Nat → γ} {b c : γ} {k : Nat} (hp : a.1 = k) (h0 : k ≠ 0) (e : h k = c) : yc1 a h b = c := by rw [yc1, if_neg (by rw [hp]; exact h0), hp]; exact e
theorem yh2 {α γ : Type} {a : Nat × α} {h : Nat → γ} {f : α → γ} {c : γ} {k : Nat} (hp : a.1 = k) (h0 : k ≠ 0) (e : h k = c) : yc2 a h f = c := by rw [yc2, if_neg (by rw [hp]; exact h0), hp]; exact e
theorem yh3 {α β γ : Type} {a : Nat × α × β} {h : Nat → γ} {f : α → β → γ} {c : γ} {k : Nat} (hp : a.1 = k) (h0 : k ≠ 0) (e : h k = c) : yc3 a h f = c := by rw [yc3, if_neg (by rw [hp]; exact h0), hp]; exact e
theorem ycase {E : String} (h : xcode E ≠ 0) : E = xIO ∨ E = xIA ∨ E = xIS := by
  unfold xcode at h
  by_cases h1 : E = xIO
  · exact Or.inl h1
  · by_cases h2 : E = xIA
    · exact Or.inr (Or.inl h2)
    · by_cases h3 : E = xIS
      · exact Or.inr (Or.inr h3)
      · rw [if_neg h1, if_neg h2, if_neg h3] at h; exact absurd rfl h
section YC
variable {p : Program} {l : Launch} {e : Env} {R : Room} {s : State} {m : MethodId} {args : Array Value} {below : List Frame} {meth : Method} {c : Code} {H : Heap} {locs : List Loc} {cells slots : Nat} {Q : State → Prop}
variable {cc : ByteArray} {nL : Nat} {own : String} {wds : List Cond} {ret : Option FieldType} {G : xG} {A : Nat → Prop} {ws : va_W} {pc : Nat} {ls : Array Slot} {st0 rest : List Value}
/-- a throw of class E at pc, caught by the row behind pre: the rows of pre name other classes -/
theorem ycatch {E : String} {ce : Cell} {q : Addr} {nms : List (Nat × String)} (hc : xC p s m args meth c cc nL own wds ret G A) (pre : List ExceptionTableEntry) (x : ExceptionTableEntry) (suf : List ExceptionTableEntry) (hsplit : c.exceptionTable.toList = pre ++ x :: suf)
    (hpre : pre.map (fun z => z.catchType) = nms.map (fun z => z.1)) (hz : nms.all (fun z => z.1 != 0) = true) (hlk : ∀ z ∈ nms, Cond.classLink own z.1 z.2 ∈ wds) (hnc : ∀ z ∈ nms, (E, z.2) ∈ xNcs) (hx : covers x pc = true) (h0 : x.catchType ≠ 0)
    (hlink : Cond.classLink own x.catchType E ∈ wds) (hcast : Cond.castable E E ∈ xNest) (h9 : H[q]? = some ce) (hv : ce.vm = .none) (hcl : s.vm.findClass E = some ce.cls)
    (kk : W p l e R s m args below meth c H locs cells slots Q (F0 m x.handlerPc ls [.ref q])) : vx_W p l e R s m args below meth c H locs cells slots Q (F0 m pc ls rest) q := by
  obtain ⟨hx1, hb, hml, hown, hts, hr, hlk1, hE, hZ, hA⟩ := hc
  refine vx_catch (own := own) (name := E) hown pre x suf hsplit (fun z hz1 => Or.inr ?_) hx h0 (hts _ hlink) ((hE.2.1 _ hcast).use rfl) h9 hv hcl kk
  have h1 : z.catchType ∈ pre.map (fun z => z.catchType) := List.mem_map_of_mem hz1
  rw [hpre] at h1
  obtain ⟨y, hy, e⟩ := List.mem_map.mp h1
  have h2 := List.all_eq_true.mp hz y hy
  exact ⟨by rw [← e]; simpa using h2, y.2, by rw [← e]; exact hts _ (hlk y hy), hE.2.2.1 _ (hnc y hy)⟩
end YC
