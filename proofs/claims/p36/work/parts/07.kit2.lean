/-! small rows: what a method's function says of its answer and its world; counters; throws; new objects and rows -/
theorem xe2 {α β : Type} {f : α × β} {a : α} {b : β} (h : f = (a, b)) : a = f.1 ∧ b = f.2 := by rw [h]; exact ⟨rfl, rfl⟩
theorem xe1 {β : Type} {f : Nat × β} {b : β} (h : f = (0, b)) : f.1 = 0 := by rw [h]
theorem xe2r {β : Type} {f : Nat × β} {b : β} (h : f = (0, b)) : f.1 = 0 ∧ b = f.2 := by rw [h]; exact ⟨rfl, rfl⟩
theorem xe2u {β : Type} {f : Nat × β} {b : β} (h : f = (0, b)) : f.1 = 0 ∧ b = f.2 := by rw [h]; exact ⟨rfl, rfl⟩
theorem xe3 {α β : Type} {f : Nat × α × β} {a : α} {b : β} (h : f = (0, a, b)) : f.1 = 0 ∧ a = f.2.1 ∧ b = f.2.2 := by rw [h]; exact ⟨rfl, rfl, rfl⟩
def xbind {α β : Type} (a : α) (f : α → β) : β := f a
def xbind2 {α β γ : Type} (a : α × β) (f : α → β → γ) : γ := f a.1 a.2
def xbt1 {γ : Type} (a : Nat × Unit) (d : γ) (b : Nat × γ) : Nat × γ := if a.1 = 0 then b else (a.1, d)
def xbt2 {α γ : Type} (a : Nat × α) (d : γ) (f : α → Nat × γ) : Nat × γ := if a.1 = 0 then f a.2 else (a.1, d)
def xbt3 {α β γ : Type} (a : Nat × α × β) (d : γ) (f : α → β → Nat × γ) : Nat × γ := if a.1 = 0 then f a.2.1 a.2.2 else (a.1, d)
theorem xb {α β : Type} {a r : α} {f : α → β} {b : β} (hp : r = a) (h : f r = b) : xbind a f = b := by subst hp; exact h
theorem xb2 {α β γ : Type} {a : α × β} {r : α} {u : β} {f : α → β → γ} {b : γ} (hp : r = a.1 ∧ u = a.2) (h : f r u = b) : xbind2 a f = b := by obtain ⟨rfl, rfl⟩ := hp; exact h
theorem xt1 {γ : Type} {a : Nat × Unit} {d : γ} {f b : Nat × γ} (hp : a.1 = 0) (h : f = b) : xbt1 a d f = b := by unfold xbt1; rw [if_pos hp]; exact h
theorem xt2 {α γ : Type} {a : Nat × α} {r : α} {d : γ} {f : α → Nat × γ} {b : Nat × γ} (hp : a.1 = 0 ∧ r = a.2) (h : f r = b) : xbt2 a d f = b := by obtain ⟨h0, rfl⟩ := hp; unfold xbt2; rw [if_pos h0]; exact h
theorem xt3 {α β γ : Type} {a : Nat × α × β} {r : α} {u : β} {d : γ} {f : α → β → Nat × γ} {b : Nat × γ} (hp : a.1 = 0 ∧ r = a.2.1 ∧ u = a.2.2) (h : f r u = b) : xbt3 a d f = b := by obtain ⟨h0, rfl, rfl⟩ := hp; unfold xbt3; rw [if_pos h0]; exact h
theorem xt1x {γ : Type} {a : Nat × Unit} {d : γ} {f : Nat × γ} {k : Nat} (hp : a.1 = k ∧ k ≠ 0) : xbt1 a d f = (a.1, d) := by unfold xbt1; rw [if_neg (by rw [hp.1]; exact hp.2)]
theorem xt2x {α γ : Type} {a : Nat × α} {d : γ} {f : α → Nat × γ} {k : Nat} (hp : a.1 = k ∧ k ≠ 0) : xbt2 a d f = (a.1, d) := by unfold xbt2; rw [if_neg (by rw [hp.1]; exact hp.2)]
theorem xt3x {α β γ : Type} {a : Nat × α × β} {d : γ} {f : α → β → Nat × γ} {k : Nat} (hp : a.1 = k ∧ k ≠ 0) : xbt3 a d f = (a.1, d) := by unfold xbt3; rw [if_neg (by rw [hp.1]; exact hp.2)]
theorem xtr1 {α : Type} {a b r : α} (h : a = b) (e : r = b) : r = a := e.trans h.symm
theorem xtr2 {α β : Type} {a b : α × β} {r : α} {u : β} (h : a = b) (e : r = b.1 ∧ u = b.2) : r = a.1 ∧ u = a.2 := by rw [h]; exact e
theorem xle (a b : Int32) : a ≤ b ↔ a.toInt ≤ b.toInt := Int32.le_iff_toInt_le
theorem xltI (a b : Int32) : a < b ↔ a.toInt < b.toInt := Int32.lt_iff_toInt_lt
theorem xeqI (a b : Int32) : a = b ↔ a.toInt = b.toInt := Int32.toInt_inj.symm
theorem xmax (B : Int32) : B.toInt < 2 ^ 31 := Int32.toInt_lt B
/-- a counter below its bound -/
theorem xlt {B : Int32} {i : Nat} (hlo : ((i : Nat) : Int) ≤ B.toInt) (h : ¬ B ≤ nI i) : ((i + 1 : Nat) : Int) ≤ B.toInt := by
  have h1 := xmax B
  rw [xle, nI_toInt (by omega)] at h
  omega
theorem xlt2 {B : Int32} {i : Nat} (hlo : ((i : Nat) : Int) ≤ B.toInt) (h : ¬ B ≤ nI i) : (i : Int) < B.toInt ∧ (nI i).toInt = i := by
  have h1 := xmax B
  rw [xle, nI_toInt (by omega)] at h
  exact ⟨by omega, nI_toInt (by omega)⟩
theorem xin {x : Int32} {n : Nat} (h : 0 ≤ x.toInt ∧ x.toInt < n) : vp_in x n := vp_in_iff.mpr h
theorem xcl {x : Int32} {n : Nat} (h : 0 ≤ x.toInt ∧ x.toInt < n) : x.toNatClampNeg < n := Nat.not_le.mp fun q => xin h (Or.inr q)
theorem xinI {i n : Nat} (h : i < n) (hn : n < 2 ^ 31) : vp_in (nI i) n := vp_in_nI h hn
def xcode (E : String) : Nat := if E = xIO then 1 else if E = xIA then 2 else if E = xIS then 3 else 0
theorem xcode_IO : xcode xIO = 0 + 1 := by decide +kernel
theorem xcode_IA : xcode xIA = 1 + 1 := by decide +kernel
theorem xcode_IS : xcode xIS = 2 + 1 := by decide +kernel
abbrev xups : List String := ["java/lang/RuntimeException", "java/lang/Exception"]
theorem xnon_IO : ∀ w ∈ (vx_atS RX3 212 xIO xups).filter (fun w => !goodWord w), w ∈ xNest := by decide +kernel
theorem xnon_IA : ∀ w ∈ (vx_atS RX3 47 xIA xups).filter (fun w => !goodWord w), w ∈ xNest := by decide +kernel
theorem xnon_IS : ∀ w ∈ (vx_atS RX3 36 xIS xups).filter (fun w => !goodWord w), w ∈ xNest := by decide +kernel
theorem xgood_IO : ∀ w ∈ Cond.classLink RX3 208 xIO :: Cond.initialized xIO :: vx_atS RX3 212 xIO xups, vx_ot w = true := by decide +kernel
theorem xgood_IA : ∀ w ∈ Cond.classLink RX3 43 xIA :: Cond.initialized xIA :: vx_atS RX3 47 xIA xups, vx_ot w = true := by decide +kernel
theorem xgood_IS : ∀ w ∈ Cond.classLink RX3 32 xIS :: Cond.initialized xIS :: vx_atS RX3 36 xIS xups, vx_ot w = true := by decide +kernel
theorem xnest_ot : ∀ w ∈ xNest, w.onTables = true := by decide +kernel
theorem xtyJ (t : ArrayType) : True := trivial
section XR2
variable {p : Program} {l : Launch} {e : Env} {R : Room} {s : State} {m : MethodId} {args : Array Value} {below : List Frame} {meth : Method} {c : Code} {H : Heap} {locs : List Loc} {cells slots : Nat} {Q : State → Prop}
variable {cc : ByteArray} {nL : Nat} {own : String} {wds : List Cond} {ret : Option FieldType} {G : xG} {A : Nat → Prop} {ws w0 : va_W} {sz : Nat} {pc : Nat} {ls : Array Slot} {rest : List Value}
theorem xldc {index : Nat} {v : Int32} (hc : xC p s m args meth c cc nL own wds ret G A) (hlk : Cond.constant own index v ∈ wds) (hdg : decode cc pc = .ok (.ldc index, 2)) (k : W p l e R s m args below meth c H locs cells slots Q (F0 m (pc + 2) ls (.int v :: rest))) : W p l e R s m args below meth c H locs cells slots Q (F0 m pc ls rest) :=
  lv_ldc hc.1 hc.2.1 hc.2.2.2.1 (hc.2.2.2.2.1 _ hlk) hdg k
theorem xthrow {Qc : Array Value → State → Outcome → State → Prop} {cls text : String} {ik is ic n k9 mc ms : Nat} (hc : xC p s m args meth c cc nL own wds ret G (va_A w0 sz)) (hex : ∀ x ∈ c.exceptionTable.toList, False) (hst : l.stackTraces = false) (hw : xW G (va_A w0 sz) s.heap w0 H locs) (hxc : xcode cls = k9 + 1) (hn : n = k9 + 1) (hcls : Bundle.fit cls = true)
    (hk : Cond.classLink own ik cls ∈ wds) (hini : Cond.initialized cls ∈ wds) (kS : Nat) (hstr : xStrs[kS]? = some (own, is, text)) (hat : ∀ w ∈ (vx_atS own ic cls xups).filter goodWord, w ∈ wds) (hnon : ∀ w ∈ (vx_atS own ic cls xups).filter (fun w => !goodWord w), w ∈ xNest) (hgood : ∀ w ∈ Cond.classLink own ik cls :: Cond.initialized cls :: vx_atS own ic cls xups, vx_ot w = true)
    (d0 : decode cc pc = .ok (.new ik, 3)) (d3 : decode cc (pc + 3) = .ok (.dup, 1)) (d4 : decode cc (pc + 4) = .ok (.ldc is, 2)) (d6 : decode cc (pc + 6) = .ok (.invokespecial ic, 3)) (d9 : decode cc (pc + 9) = .ok (.athrow, 1)) (hsize : ls.size = nL) (hRf : 5 < R.frames) (hRl : (rest.map fun v => v.category).sum + 82 ≤ R.locals) (hR : cells + 1 ≤ R.cells ∧ slots + 6 ≤ R.slots) (hm : cells + 1 ≤ mc ∧ slots + 6 ≤ ms) :
    W p l e R s m args below meth c H locs cells slots (vx_MQ below Qc (xX G w0 sz (fun E => n = xcode E ∧ xcode E ≠ 0)) args s mc ms (va_A w0 sz)) (F0 m pc ls rest) := by
  obtain ⟨hx, hb, hml, hown, hts, hr, hlk, hE, hZ, hA⟩ := id hc
  refine vx_throwS (names := xups) (A := va_A w0 sz) hx hb hst hown hcls (by decide +kernel) (hts _ hk) (hts _ hini) (hE.2.2.2.1 kS _ hstr)
    (vx_hat (B := xNest) (fun w h => hts w (hat w h)) hnon (fun w h => (hE.2.1 w h).use (xnest_ot w h))) hgood hZ.1 hZ.2 hw.2.2 (hsize.trans hml.symm) d0 d3 d4 d6 d9 (fun x h => (hex x h).elim) hRf hRl hR.1 hR.2 hlk (fun t hvm hz hq => ?_) hw.2.2.2.2 hm.1 hm.2
  refine ⟨(), trivial, ⟨⟨hn.trans hxc.symm, by rw [hxc]; exact Nat.succ_ne_zero _⟩, hw.1.kept (fun k q h => hq q.1 ((hw.1 k q h).lt)), hw.2.1⟩, ⟨Nat.le_trans hw.2.2.1 hz, fun q h1 h2 => ?_⟩⟩
  rw [hq q (Nat.lt_of_lt_of_le h1 hw.2.2.1)]
  exact hw.2.2.2.1 q h1 h2
theorem xobj {idx : Nat} {a : Nat} (hc : xC p s m args meth c cc nL own wds ret G A) (hlink : Cond.methodLink own idx Lib.objectInit ∈ wds) (hinst : (Cond.instanceMethod Lib.objectInit).before args s = true) (hcode : (Cond.code Lib.objectInit ⟨#[0xb1]⟩ 1 none).before args s = true) (hl : ls.size = nL) (hd : decode cc pc = .ok (.invokespecial idx, 3))
    (hframes : 1 ≤ R.frames) (hlocals : (rest.map fun v => v.category).sum + 12 ≤ R.locals) (kk : W p l e R s m args below meth c H locs cells slots Q (F0 m (pc + 3) ls rest)) : W p l e R s m args below meth c H locs cells slots Q (F0 m pc ls (.ref a :: rest)) :=
  W.objInit hc.1 hc.2.1 hc.2.2.2.1 (hc.2.2.2.2.1 _ hlink) hinst hcode rfl (hl.trans hc.2.2.1.symm) rfl hd hframes (by simpa [JFrame.monitorRoom] using hlocals) kk
theorem xnew {C : String} {T : u_T} {N ci index : Nat} (hc : xC p s m args meth c cc nL own wds ret G A) (hw : xW G A s.heap ws H locs) (hin : ∀ w ∈ u_ws C T N, w ∈ wds) (ty : Nat → FieldType) (hty : ∀ k, k < N → parseFieldDescriptor (T k).2.2.1 = some (ty k)) (fs : List Value) (hcl : Cond.classLink own index C ∈ wds) (hinst : Cond.instantiable C N ∈ wds) (hini : Cond.initialized C ∈ wds) (hci : vwCl[ci]? = some (C, T, N)) (hfs : ∀ j, j < N → defaultValue (ty j) = vp_V fs j) (hcells : cells + 1 ≤ R.cells) (hslots : slots + N ≤ R.slots) (hdg : decode cc pc = .ok (.new index, 3))
    (kk : ∀ (q : Nat) (H1 : Heap), xW G A s.heap (ws ++ [(q, .inr (ci, fs))]) H1 locs → W p l e R s m args below meth c H1 locs (cells + 1) (slots + N) Q (F0 m (pc + 3) ls (.ref q :: rest))) : W p l e R s m args below meth c H locs cells slots Q (F0 m pc ls rest) :=
  va_new hc.1 hc.2.1 hc.2.2.2.2.1 hin ty hty hc.2.2.2.1 (hc.2.2.2.2.1 _ hcl) (hc.2.2.2.2.1 _ hinst) (hc.2.2.2.2.1 _ hini) hc.2.2.2.2.2.2.2.1.1 hw.1 hw.2.1 hw.2.2 hc.2.2.2.2.2.2.2.2.2 hci hfs hcells hslots hdg (fun q H1 h1 h2 h3 => kk q H1 ⟨h1, h2, h3⟩)
theorem xtyU {U : State} {ty : FieldType} {a b : ClassId} (h : ∀ C, ty ≠ .object C) (h1 : va_RA U a ty) (h2 : va_RA U b ty) : a = b := by
  cases ty <;> first | exact absurd rfl (h _) | exact Option.some.inj (Eq.trans (Eq.symm h1) h2)
theorem xnewaI (hc : xC p s m args meth c cc nL own wds ret G A) (hw : xW G A s.heap ws H locs) {n : Int32} (N' : Nat) (harr : Cond.arrayClass .int ∈ wds) (hn : ¬ n < 0) (hN : n.toNatClampNeg = N') (hbytes : N' * componentBytes .int ≤ 536870912) (hcells : cells + 1 ≤ R.cells) (hslots : slots + N' ≤ R.slots) (hdg : decode cc pc = .ok (.newarray .int, 2))
    (kk : ∀ (q : Nat) (H1 : Heap), xW G A s.heap (ws ++ [(q, .inl (G.2.1.1, N', .inl (fun _ => 0)))]) H1 locs → W p l e R s m args below meth c H1 locs (cells + 1) (slots + N') Q (F0 m (pc + 2) ls (.ref q :: rest))) : W p l e R s m args below meth c H locs cells slots Q (F0 m pc ls (.int n :: rest)) := by
  have hK := hc.2.2.2.2.2.2.2.1.1
  refine va_newa (atype := .int) (ty := .int) (a0 := (N', .inl (fun _ => 0))) hc.1 hc.2.1 (hc.2.2.2.2.1 _ harr) rfl hK hw.1 hw.2.1 hw.2.2 hc.2.2.2.2.2.2.2.2.2 (fun cA => rfl) hn hN hbytes hcells hslots hdg (fun q cA H1 k1 h1 h2 h3 => ?_)
  have e : cA = G.2.1.1 := xtyU (fun _ h => by cases h) (k1.2 4 (cA, .int) rfl).2 (hK.2 0 (G.2.1.1, .int) rfl).2
  subst e
  exact kk q H1 ⟨h1, h2, h3⟩
theorem xnewaZ (hc : xC p s m args meth c cc nL own wds ret G A) (hw : xW G A s.heap ws H locs) {n : Int32} (N' : Nat) (harr : Cond.arrayClass .boolean ∈ wds) (hn : ¬ n < 0) (hN : n.toNatClampNeg = N') (hbytes : N' * componentBytes .boolean ≤ 536870912) (hcells : cells + 1 ≤ R.cells) (hslots : slots + N' ≤ R.slots) (hdg : decode cc pc = .ok (.newarray .boolean, 2))
    (kk : ∀ (q : Nat) (H1 : Heap), xW G A s.heap (ws ++ [(q, .inl (G.2.1.2.1, N', .inl (fun _ => 0)))]) H1 locs → W p l e R s m args below meth c H1 locs (cells + 1) (slots + N') Q (F0 m (pc + 2) ls (.ref q :: rest))) : W p l e R s m args below meth c H locs cells slots Q (F0 m pc ls (.int n :: rest)) := by
  have hK := hc.2.2.2.2.2.2.2.1.1
  refine va_newa (atype := .boolean) (ty := .boolean) (a0 := (N', .inl (fun _ => 0))) hc.1 hc.2.1 (hc.2.2.2.2.1 _ harr) rfl hK hw.1 hw.2.1 hw.2.2 hc.2.2.2.2.2.2.2.2.2 (fun cA => rfl) hn hN hbytes hcells hslots hdg (fun q cA H1 k1 h1 h2 h3 => ?_)
  have e : cA = G.2.1.2.1 := xtyU (fun _ h => by cases h) (k1.2 4 (cA, .boolean) rfl).2 (hK.2 1 (G.2.1.2.1, .boolean) rfl).2
  subst e
  exact kk q H1 ⟨h1, h2, h3⟩
theorem xcopyI {index : Nat} {a0 a : Nat} {n0 n1 : Nat} {f g : Nat → Int32} (hc : xC p s m args meth c cc nL own wds ret G A) (hw : xW G A s.heap ws H locs) (q0 q1 : Nat) (w2 : va_W) {n : Int32} (hlk : Cond.methodLink own index arraycopyName ∈ wds) (hnat : Cond.native arraycopyName ∈ wds) (hsta : Cond.static arraycopyName ∈ wds) (hini : Cond.initialized "java/lang/System" ∈ wds)
    (ha0 : ws[q0]? = some (a0, .inl (G.2.1.1, n0, .inl f))) (ha1 : ws[q1]? = some (a, .inl (G.2.1.1, n1, .inl g))) (h2 : ws.set q1 (a, .inl (G.2.1.1, n1, .inl (va_cpy f g 0 0 n.toNatClampNeg))) = w2) (hfit : ∀ i, i < n.toNatClampNeg → fits .int (.int (f ((0 : Int32).toNatClampNeg + i))) = true) (h3 : ¬ n < 0 ∧ n.toNatClampNeg ≤ n0 ∧ n.toNatClampNeg ≤ n1) (hl : ls.size = nL)
    (hframes : 1 ≤ R.frames) (hlocals : (rest.map fun v => v.category).sum + (nativeFrameWords "java/lang/System" "arraycopy" 5 + 11) ≤ R.locals) (hdg : decode cc pc = .ok (.invokestatic index, 3))
    (kk : ∀ (H1 : Heap) (locs1 : List Loc), xW G A s.heap w2 H1 locs1 → W p l e R s m args below meth c H1 locs1 cells slots Q (F0 m (pc + 3) ls rest)) :
    W p l e R s m args below meth c H locs cells slots Q (F0 m pc ls (.int n :: .int 0 :: .ref a :: .int 0 :: .ref a0 :: rest)) := by
  subst h2
  exact va_copyi hc.1 hc.2.1 (hc.2.2.1.trans hl.symm) hc.2.2.2.1 (hc.2.2.2.2.1 _ hlk) (hc.2.2.2.2.1 _ hnat) (hc.2.2.2.2.1 _ hsta) (hc.2.2.2.2.1 _ hini) hc.2.2.2.2.2.2.2.1.1 hw.1 hw.2.1 hw.2.2 q0 q1 0 0 ha0 ha1 rfl rfl rfl (by decide) (by decide) h3.1 (by rw [show (0 : Int32).toNatClampNeg = 0 from rfl, Nat.zero_add]; exact h3.2.1) (by rw [show (0 : Int32).toNatClampNeg = 0 from rfl, Nat.zero_add]; exact h3.2.2) hfit hframes hlocals hdg (fun H1 locs1 h1 h2 h3 => kk H1 locs1 ⟨h1, h2, h3⟩)
theorem xcopyZ {index : Nat} {a0 a : Nat} {n0 n1 : Nat} {f g : Nat → Int32} (hc : xC p s m args meth c cc nL own wds ret G A) (hw : xW G A s.heap ws H locs) (q0 q1 : Nat) (w2 : va_W) {n : Int32} (hlk : Cond.methodLink own index arraycopyName ∈ wds) (hnat : Cond.native arraycopyName ∈ wds) (hsta : Cond.static arraycopyName ∈ wds) (hini : Cond.initialized "java/lang/System" ∈ wds)
    (ha0 : ws[q0]? = some (a0, .inl (G.2.1.2.1, n0, .inl f))) (ha1 : ws[q1]? = some (a, .inl (G.2.1.2.1, n1, .inl g))) (h2 : ws.set q1 (a, .inl (G.2.1.2.1, n1, .inl (va_cpy f g 0 0 n.toNatClampNeg))) = w2) (hfit : ∀ i, i < n.toNatClampNeg → fits .boolean (.int (f ((0 : Int32).toNatClampNeg + i))) = true) (h3 : ¬ n < 0 ∧ n.toNatClampNeg ≤ n0 ∧ n.toNatClampNeg ≤ n1) (hl : ls.size = nL)
    (hframes : 1 ≤ R.frames) (hlocals : (rest.map fun v => v.category).sum + (nativeFrameWords "java/lang/System" "arraycopy" 5 + 11) ≤ R.locals) (hdg : decode cc pc = .ok (.invokestatic index, 3))
    (kk : ∀ (H1 : Heap) (locs1 : List Loc), xW G A s.heap w2 H1 locs1 → W p l e R s m args below meth c H1 locs1 cells slots Q (F0 m (pc + 3) ls rest)) :
    W p l e R s m args below meth c H locs cells slots Q (F0 m pc ls (.int n :: .int 0 :: .ref a :: .int 0 :: .ref a0 :: rest)) := by
  subst h2
  exact va_copyi hc.1 hc.2.1 (hc.2.2.1.trans hl.symm) hc.2.2.2.1 (hc.2.2.2.2.1 _ hlk) (hc.2.2.2.2.1 _ hnat) (hc.2.2.2.2.1 _ hsta) (hc.2.2.2.2.1 _ hini) hc.2.2.2.2.2.2.2.1.1 hw.1 hw.2.1 hw.2.2 q0 q1 1 1 ha0 ha1 rfl rfl rfl (by decide) (by decide) h3.1 (by rw [show (0 : Int32).toNatClampNeg = 0 from rfl, Nat.zero_add]; exact h3.2.1) (by rw [show (0 : Int32).toNatClampNeg = 0 from rfl, Nat.zero_add]; exact h3.2.2) hfit hframes hlocals hdg (fun H1 locs1 h1 h2 h3 => kk H1 locs1 ⟨h1, h2, h3⟩)
end XR2
