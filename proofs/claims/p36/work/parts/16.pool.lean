/-! pools: the cells at the addresses in L hold what f says; rows of ints, flags, references; an object; rows of the kit over them -/
/-- all at L stays there, and what it holds, but at the addresses that P names -/
def pk (P : Nat → Prop) (L : List Nat) (f : Nat → va_E) (L' : List Nat) (f' : Nat → va_E) : Prop := ∀ b, b ∈ L → b ∈ L' ∧ (¬ P b → f' b = f b)
theorem pk.rf {P : Nat → Prop} {L : List Nat} {f : Nat → va_E} : pk P L f L f := fun _ h => ⟨h, fun _ => rfl⟩
theorem pk.tr {P : Nat → Prop} {L L1 L2 : List Nat} {f f1 f2 : Nat → va_E} (h : pk P L f L1 f1) (k : pk P L1 f1 L2 f2) : pk P L f L2 f2 := fun b hb => ⟨(k b (h b hb).1).1, fun q => ((k b (h b hb).1).2 q).trans ((h b hb).2 q)⟩
theorem pk.mono {P Q : Nat → Prop} {L L1 : List Nat} {f f1 : Nat → va_E} (h : pk P L f L1 f1) (k : ∀ b, b ∈ L → P b → Q b) : pk Q L f L1 f1 := fun b hb => ⟨(h b hb).1, fun q => (h b hb).2 (fun z => q (k b hb z))⟩
theorem pself (vm : Vm) (a : ClassId) : vm.assignable a a = true := by
  unfold Vm.assignable
  rw [show (256 : Nat) = 255 + 1 from rfl, Vm.assignableAux]
  rw [show (a == a) = true from beq_self_eq_true a, Bool.true_or]
theorem pinI {j n : Nat} (hj : j < n) (hb : j < 2 ^ 31) : vp_in (nI j) n := fun q => q.elim (nI_pos hb) (fun h => by rw [nI_clamp hb] at h; omega)
def rowI (G : xG) (L : List Nat) (f : Nat → va_E) (a n : Nat) (g : Nat → Int32) : Prop := a ∈ L ∧ ∃ h : Nat → Int32, f a = .inl (G.2.1.1, n, .inl h) ∧ ∀ j, j < n → h j = g j
def rowZ (G : xG) (L : List Nat) (f : Nat → va_E) (a n : Nat) (g : Nat → Int32) : Prop := a ∈ L ∧ ∃ h : Nat → Int32, f a = .inl (G.2.1.2.1, n, .inl h) ∧ ∀ j, j < n → h j = g j
def rowA (G : xG) (L : List Nat) (f : Nat → va_E) (a n : Nat) (g : Nat → Option Nat) : Prop := a ∈ L ∧ ∃ h : Nat → Option Nat, f a = .inl (G.2.1.2.2.1, n, .inr (.inr (.inr (.inr h)))) ∧ ∀ j, j < n → h j = g j
def rowB (G : xG) (L : List Nat) (f : Nat → va_E) (a n : Nat) (g : Nat → Option Nat) : Prop := a ∈ L ∧ ∃ h : Nat → Option Nat, f a = .inl (G.2.1.2.2.2, n, .inr (.inr (.inr (.inr h)))) ∧ ∀ j, j < n → h j = g j
def objS (L : List Nat) (f : Nat → va_E) (a ci : Nat) (fs : List Value) : Prop := a ∈ L ∧ f a = .inr (ci, fs)
section PK
variable {G : xG} {P : Nat → Prop} {L L' : List Nat} {f f' : Nat → va_E} {a b n k ci : Nat} {g g' : Nat → Int32} {o o' : Nat → Option Nat} {fs : List Value}
theorem rowI.kp (h : rowI G L f a n g) (c : pk P L f L' f') (ha : ¬ P a) : rowI G L' f' a n g := by obtain ⟨h1, x, h2, h3⟩ := h; exact ⟨(c a h1).1, x, ((c a h1).2 ha).trans h2, h3⟩
theorem rowZ.kp (h : rowZ G L f a n g) (c : pk P L f L' f') (ha : ¬ P a) : rowZ G L' f' a n g := by obtain ⟨h1, x, h2, h3⟩ := h; exact ⟨(c a h1).1, x, ((c a h1).2 ha).trans h2, h3⟩
theorem rowA.kp (h : rowA G L f a n o) (c : pk P L f L' f') (ha : ¬ P a) : rowA G L' f' a n o := by obtain ⟨h1, x, h2, h3⟩ := h; exact ⟨(c a h1).1, x, ((c a h1).2 ha).trans h2, h3⟩
theorem rowB.kp (h : rowB G L f a n o) (c : pk P L f L' f') (ha : ¬ P a) : rowB G L' f' a n o := by obtain ⟨h1, x, h2, h3⟩ := h; exact ⟨(c a h1).1, x, ((c a h1).2 ha).trans h2, h3⟩
theorem objS.kp (h : objS L f a ci fs) (c : pk P L f L' f') (ha : ¬ P a) : objS L' f' a ci fs := ⟨(c a h.1).1, ((c a h.1).2 ha).trans h.2⟩
theorem rowI.cg (h : rowI G L f a n g) (e : ∀ j, j < n → g j = g' j) : rowI G L f a n g' := by obtain ⟨h1, x, h2, h3⟩ := h; exact ⟨h1, x, h2, fun j hj => (h3 j hj).trans (e j hj)⟩
theorem rowZ.cg (h : rowZ G L f a n g) (e : ∀ j, j < n → g j = g' j) : rowZ G L f a n g' := by obtain ⟨h1, x, h2, h3⟩ := h; exact ⟨h1, x, h2, fun j hj => (h3 j hj).trans (e j hj)⟩
theorem rowA.cg (h : rowA G L f a n o) (e : ∀ j, j < n → o j = o' j) : rowA G L f a n o' := by obtain ⟨h1, x, h2, h3⟩ := h; exact ⟨h1, x, h2, fun j hj => (h3 j hj).trans (e j hj)⟩
theorem rowI.neI (h : rowI G L f a n g) (h' : rowI G L f b k g') (e : n ≠ k) : a ≠ b := by
  rintro rfl
  obtain ⟨-, x, h2, -⟩ := h; obtain ⟨-, y, h4, -⟩ := h'
  rw [h2] at h4; injection h4 with h5; injection h5 with h6 h7; injection h7 with h8; exact e h8
theorem rowI.neZ (h : rowI G L f a n g) (h' : rowZ G L f b k g') (e : n ≠ k) : a ≠ b := by
  rintro rfl
  obtain ⟨-, x, h2, -⟩ := h; obtain ⟨-, y, h4, -⟩ := h'
  rw [h2] at h4; injection h4 with h5; injection h5 with h6 h7; injection h7 with h8; exact e h8
theorem rowI.neA (h : rowI G L f a n g) (h' : rowA G L f b k o) : a ≠ b := by
  rintro rfl
  obtain ⟨-, x, h2, -⟩ := h; obtain ⟨-, y, h4, -⟩ := h'
  rw [h2] at h4; injection h4 with h5; injection h5 with h6 h7; injection h7 with h8 h9; cases h9
theorem rowI.neB (h : rowI G L f a n g) (h' : rowB G L f b k o) : a ≠ b := by
  rintro rfl
  obtain ⟨-, x, h2, -⟩ := h; obtain ⟨-, y, h4, -⟩ := h'
  rw [h2] at h4; injection h4 with h5; injection h5 with h6 h7; injection h7 with h8 h9; cases h9
theorem rowZ.neA (h : rowZ G L f a n g) (h' : rowA G L f b k o) : a ≠ b := by
  rintro rfl
  obtain ⟨-, x, h2, -⟩ := h; obtain ⟨-, y, h4, -⟩ := h'
  rw [h2] at h4; injection h4 with h5; injection h5 with h6 h7; injection h7 with h8 h9; cases h9
theorem rowZ.neB (h : rowZ G L f a n g) (h' : rowB G L f b k o) : a ≠ b := by
  rintro rfl
  obtain ⟨-, x, h2, -⟩ := h; obtain ⟨-, y, h4, -⟩ := h'
  rw [h2] at h4; injection h4 with h5; injection h5 with h6 h7; injection h7 with h8 h9; cases h9
theorem objS.neI (h : objS L f a ci fs) (h' : rowI G L f b k g) : a ≠ b := by
  rintro rfl
  obtain ⟨-, y, h4, -⟩ := h'
  rw [h.2] at h4; cases h4
theorem objS.neZ (h : objS L f a ci fs) (h' : rowZ G L f b k g) : a ≠ b := by
  rintro rfl
  obtain ⟨-, y, h4, -⟩ := h'
  rw [h.2] at h4; cases h4
theorem objS.neA (h : objS L f a ci fs) (h' : rowA G L f b k o) : a ≠ b := by
  rintro rfl
  obtain ⟨-, y, h4, -⟩ := h'
  rw [h.2] at h4; cases h4
theorem objS.neB (h : objS L f a ci fs) (h' : rowB G L f b k o) : a ≠ b := by
  rintro rfl
  obtain ⟨-, y, h4, -⟩ := h'
  rw [h.2] at h4; cases h4
end PK
theorem pk_up (L : List Nat) (f : Nat → va_E) (a : Nat) (e : va_E) : pk (fun b => b = a) L f L (va_up f a e) := fun b hb => ⟨hb, fun h => va_up_ne _ _ h⟩
theorem pk_nw {L : List Nat} {f : Nat → va_E} {q : Nat} (h : q ∉ L) (e : va_E) : pk (fun _ => False) L f (L ++ [q]) (va_up f q e) := fun b hb => ⟨List.mem_append_left _ hb, fun _ => va_up_ne _ _ (fun z => h (z ▸ hb))⟩
theorem pmem (L : List Nat) (q : Nat) : q ∈ L ++ [q] := List.mem_append_right _ (List.mem_singleton.mpr rfl)
/-- a world of two parts of which a callee had the second -/
theorem pjoin {A0 : Nat → Prop} {D : va_G} {cl : List vw_C} {X pl pl1 : va_W} {H H1 : Heap} (hP : va_P D cl (X ++ pl) H) (hD : va_D A0 (X ++ pl)) (hk : ∀ q : Nat, q < H.size → ¬ va_A pl H.size q → H1[q]? = H[q]?) (hF : ∀ q, va_A pl H.size q → A0 q) (hP1 : va_P D cl pl1 H1) (hD1 : va_D (va_A pl H.size) pl1) : va_P D cl (X ++ pl1) H1 ∧ va_D A0 (X ++ pl1) := by
  have apart : ∀ (k : Nat) (q : Nat × va_E), X[k]? = some q → q.1 < H.size ∧ ¬ va_A pl H.size q.1 := by
    intro k q hq
    have hkl : k < X.length := (List.getElem?_eq_some_iff.mp hq).1
    have h2 : (X ++ pl)[k]? = some q := by rw [List.getElem?_append_left hkl]; exact hq
    have hl := (hP k q h2).lt
    refine ⟨hl, fun h => ?_⟩
    rcases h with ⟨k2, e, h⟩ | h
    · have h3 : (X ++ pl)[X.length + k2]? = some (q.1, e) := by rw [List.getElem?_append_right (by omega), Nat.add_sub_cancel_left]; exact h
      have := hD.1 _ _ q (q.1, e) h2 h3 rfl
      omega
    · omega
  have hX : va_D A0 X := ⟨fun i j p q hi hj e => hD.1 i j p q (by rw [List.getElem?_append_left (List.getElem?_eq_some_iff.mp hi).1]; exact hi) (by rw [List.getElem?_append_left (List.getElem?_eq_some_iff.mp hj).1]; exact hj) e,
    fun k q hq => hD.2 k q (by rw [List.getElem?_append_left (List.getElem?_eq_some_iff.mp hq).1]; exact hq)⟩
  refine ⟨va_P.app (fun k q hq => ?_) hP1, va_D.app hX (hD1.weaken (fun k q _ h => hF q.1 h)) (fun i j x y hx hy hxy => ?_)⟩
  · obtain ⟨g1, g2⟩ := apart k q hq
    exact (hP k q (by rw [List.getElem?_append_left (List.getElem?_eq_some_iff.mp hq).1]; exact hq)).kept (hk q.1 g1 g2)
  · exact (apart i x hx).2 (by rw [hxy]; exact hD1.2 j y hy)
/-- .. of which a callee had the first -/
theorem pjoinL {A0 : Nat → Prop} {D : va_G} {cl : List vw_C} {X X1 pl : va_W} {H H1 : Heap} (hP : va_P D cl (X ++ pl) H) (hD : va_D A0 (X ++ pl)) (hk : ∀ q : Nat, q < H.size → ¬ va_A X H.size q → H1[q]? = H[q]?) (hF : ∀ q, va_A X H.size q → A0 q) (hP1 : va_P D cl X1 H1) (hD1 : va_D (va_A X H.size) X1) : va_P D cl (X1 ++ pl) H1 ∧ va_D A0 (X1 ++ pl) := by
  have e0 : ((([] : va_W) ++ X) ++ pl) = X ++ pl := rfl
  have g1 : va_P D cl (pl ++ X) H := va_P.swap (a := []) (b := X) (c := pl) hP
  have g2 : va_D A0 (pl ++ X) := va_D.swap (a := []) (b := X) (c := pl) hD
  obtain ⟨k1, k2⟩ := pjoin g1 g2 hk hF hP1 hD1
  exact ⟨va_P.swap (a := []) (b := pl) (c := X1) k1, va_D.swap (a := []) (b := pl) (c := X1) k2⟩
section PR
variable {p : Program} {l : Launch} {e : Env} {R : Room} {s : State} {m : MethodId} {args : Array Value} {below : List Frame} {meth : Method} {c : Code} {H : Heap} {locs : List Loc} {cells slots : Nat} {Q : State → Prop}
variable {cc : ByteArray} {nL : Nat} {own : String} {wds : List Cond} {ret : Option FieldType} {G : xG} {A : Nat → Prop} {X : va_W} {L : List Nat} {f : Nat → va_E} {pc : Nat} {ls : Array Slot} {st0 rest : List Value} {a n : Nat} {g : Nat → Int32} {o : Nat → Option Nat}
theorem pget {C : String} {T : u_T} {N ci index : Nat} {fs : List Value} {v : Value} (hc : xC p s m args meth c cc nL own wds ret G A) (hw : xW G A s.heap (X ++ va_pl L f) H locs) (hin : ∀ w ∈ u_ws C T N, w ∈ wds) (h : objS L f a ci fs) (hcl : vwCl[ci]? = some (C, T, N)) (k : Nat) (hk : k < N) {ref : String} (hlink : Cond.fieldLink own index ref (T k).2.1 (T k).2.2.1 ∈ wds) (hdecl : (T k).1 = ref) (hv : fs[k]? = some v) (hdg : decode cc pc = .ok (.getfield index, 3))
    (kk : W p l e R s m args below meth c H locs cells slots Q (F0 m (pc + 3) ls (v :: rest))) : W p l e R s m args below meth c H locs cells slots Q (F0 m pc ls (.ref a :: rest)) := by
  obtain ⟨q0, h0⟩ := va_pl_get (X := X) (f := f) h.1
  rw [h.2] at h0
  exact xget hc hw hin q0 h0 hcl k hk hlink hdecl hv hdg kk
theorem pput {C : String} {T : u_T} {N ci index : Nat} {fs : List Value} {v : Value} {ty : FieldType} (hc : xC p s m args meth c cc nL own wds ret G A) (hw : xW G A s.heap (X ++ va_pl L f) H locs) (hin : ∀ w ∈ u_ws C T N, w ∈ wds) (ty0 : Nat → FieldType) (hty : ∀ k, k < N → parseFieldDescriptor (T k).2.2.1 = some (ty0 k)) (hnm : ∀ a, a < N → ∀ b, b < N → a ≠ b → (T a).2.1 ≠ (T b).2.1) (h : objS L f a ci fs) (hcl : vwCl[ci]? = some (C, T, N)) (k : Nat) (hk : k < N) {ref : String} (hlink : Cond.fieldLink own index ref (T k).2.1 (T k).2.2.1 ∈ wds) (hdecl : (T k).1 = ref) (hfin : (T k).2.2.2 = false) (hn : narrow (ty0 k) v = v) (hfit : fits (ty0 k) v = true) (hl : k < fs.length) (fs2 : List Value) (h2 : fs.set k v = fs2) (hdg : decode cc pc = .ok (.putfield index, 3))
    (kk : ∀ (f' : Nat → va_E) (H1 : Heap) (locs1 : List Loc), pk (fun b => b = a) L f L f' → objS L f' a ci fs2 → xW G A s.heap (X ++ va_pl L f') H1 locs1 → W p l e R s m args below meth c H1 locs1 cells slots Q (F0 m (pc + 3) ls rest)) : W p l e R s m args below meth c H locs cells slots Q (F0 m pc ls (v :: .ref a :: rest)) := by
  subst h2
  obtain ⟨q0, h0⟩ := va_pl_get (X := X) (f := f) h.1
  have hs := va_pl_set (e := .inr (ci, fs.set k v)) hw.2.1 h.1 h0
  rw [h.2] at h0
  exact xput (ty := .int) hc hw hin ty0 hty hnm q0 _ h0 hcl k hk hlink hdecl hfin hn hfit hl hs hdg (fun H1 locs1 hw1 => kk _ H1 locs1 (pk_up L f a _) ⟨h.1, va_up_self _ _ _⟩ hw1)
theorem pild (hc : xC p s m args meth c cc nL own wds ret G A) (hw : xW G A s.heap (X ++ va_pl L f) H locs) (h : rowI G L f a n g) {i : Int32} (j : Nat) (hi : i = nI j) (hj : j < n) (hb : j < 2 ^ 31) {v : Int32} (hv : g j = v) (hdg : decode cc pc = .ok (.iaload, 1))
    (kk : W p l e R s m args below meth c H locs cells slots Q (F0 m (pc + 1) ls (.int v :: rest))) : W p l e R s m args below meth c H locs cells slots Q (F0 m pc ls (.int i :: .ref a :: rest)) := by
  subst hv
  subst hi
  obtain ⟨h1, x, h2, h3⟩ := h
  obtain ⟨q0, h0⟩ := va_pl_get (X := X) (f := f) h1
  rw [h2] at h0
  refine xiald hc hw q0 h0 (pinI hj hb) hdg ?_
  rw [nI_clamp hb, h3 j hj]
  exact kk
theorem pzld (hc : xC p s m args meth c cc nL own wds ret G A) (hw : xW G A s.heap (X ++ va_pl L f) H locs) (h : rowZ G L f a n g) {i : Int32} (j : Nat) (hi : i = nI j) (hj : j < n) (hb : j < 2 ^ 31) {v : Int32} (hv : g j = v) (hdg : decode cc pc = .ok (.baload, 1))
    (kk : W p l e R s m args below meth c H locs cells slots Q (F0 m (pc + 1) ls (.int v :: rest))) : W p l e R s m args below meth c H locs cells slots Q (F0 m pc ls (.int i :: .ref a :: rest)) := by
  subst hv
  subst hi
  obtain ⟨h1, x, h2, h3⟩ := h
  obtain ⟨q0, h0⟩ := va_pl_get (X := X) (f := f) h1
  rw [h2] at h0
  refine xzald hc hw q0 h0 (pinI hj hb) hdg ?_
  rw [nI_clamp hb, h3 j hj]
  exact kk
theorem pist (hc : xC p s m args meth c cc nL own wds ret G A) (hw : xW G A s.heap (X ++ va_pl L f) H locs) (h : rowI G L f a n g) {i x : Int32} (j : Nat) (hi : i = nI j) (hj : j < n) (hb : j < 2 ^ 31) (hdg : decode cc pc = .ok (.iastore, 1))
    (kk : ∀ (f' : Nat → va_E) (H1 : Heap) (locs1 : List Loc), pk (fun b => b = a) L f L f' → rowI G L f' a n (upd g j x) → xW G A s.heap (X ++ va_pl L f') H1 locs1 → W p l e R s m args below meth c H1 locs1 cells slots Q (F0 m (pc + 1) ls rest)) : W p l e R s m args below meth c H locs cells slots Q (F0 m pc ls (.int x :: .int i :: .ref a :: rest)) := by
  subst hi
  obtain ⟨h1, y, h2, h3⟩ := h
  obtain ⟨q0, h0⟩ := va_pl_get (X := X) (f := f) h1
  have hs := va_pl_set (e := .inl (G.2.1.1, n, .inl (upd y j x))) hw.2.1 h1 h0
  rw [h2] at h0
  refine xiast hc hw q0 _ h0 (pinI hj hb) (by rw [nI_clamp hb]; exact hs) hdg (fun H1 locs1 hw1 => kk _ H1 locs1 (pk_up L f a _) ⟨h1, _, va_up_self _ _ _, fun t ht => ?_⟩ hw1)
  by_cases c : t = j
  · subst c; rw [pk_us, pk_us]
  · rw [pk_un c, pk_un c]; exact h3 t ht
theorem pzst (hc : xC p s m args meth c cc nL own wds ret G A) (hw : xW G A s.heap (X ++ va_pl L f) H locs) (h : rowZ G L f a n g) {i x : Int32} (j : Nat) (hi : i = nI j) (hj : j < n) (hb : j < 2 ^ 31) (hx : vp_nar .boolean x = x) (hdg : decode cc pc = .ok (.bastore, 1))
    (kk : ∀ (f' : Nat → va_E) (H1 : Heap) (locs1 : List Loc), pk (fun b => b = a) L f L f' → rowZ G L f' a n (upd g j x) → xW G A s.heap (X ++ va_pl L f') H1 locs1 → W p l e R s m args below meth c H1 locs1 cells slots Q (F0 m (pc + 1) ls rest)) : W p l e R s m args below meth c H locs cells slots Q (F0 m pc ls (.int x :: .int i :: .ref a :: rest)) := by
  subst hi
  obtain ⟨h1, y, h2, h3⟩ := h
  obtain ⟨q0, h0⟩ := va_pl_get (X := X) (f := f) h1
  have hs := va_pl_set (e := .inl (G.2.1.2.1, n, .inl (upd y j x))) hw.2.1 h1 h0
  rw [h2] at h0
  refine xzast hc hw q0 _ h0 (pinI hj hb) hx (by rw [nI_clamp hb]; exact hs) hdg (fun H1 locs1 hw1 => kk _ H1 locs1 (pk_up L f a _) ⟨h1, _, va_up_self _ _ _, fun t ht => ?_⟩ hw1)
  by_cases c : t = j
  · subst c; rw [pk_us, pk_us]
  · rw [pk_un c, pk_un c]; exact h3 t ht
theorem pald (hc : xC p s m args meth c cc nL own wds ret G A) (hw : xW G A s.heap (X ++ va_pl L f) H locs) (h : rowA G L f a n o) {i : Int32} (j : Nat) (hi : i = nI j) (hj : j < n) (hb : j < 2 ^ 31) {v : Value} (hv : va_rf (o j) = v) (hdg : decode cc pc = .ok (.aaload, 1))
    (kk : W p l e R s m args below meth c H locs cells slots Q (F0 m (pc + 1) ls (v :: rest))) : W p l e R s m args below meth c H locs cells slots Q (F0 m pc ls (.int i :: .ref a :: rest)) := by
  subst hv
  subst hi
  obtain ⟨h1, x, h2, h3⟩ := h
  obtain ⟨q0, h0⟩ := va_pl_get (X := X) (f := f) h1
  rw [h2] at h0
  have hK := hc.2.2.2.2.2.2.2.1.1
  refine W.aald (v := va_rf (x j)) (ty := .array .int) hc.1 hc.2.1 (hw.1 q0 _ h0) ((hK.2 2 _ rfl).1 n (fun t => va_rf (x t))) rfl (fun q => by cases q) (by show ¬ (nI j < 0 ∨ (arrV _ _ _).slots.size ≤ _); rw [arrV_size]; exact pinI hj hb) (by show (arrV _ _ _).slots[_]? = _; rw [nI_clamp hb, arrV_read _ _ hj]) rfl rfl hdg ?_
  rw [h3 j hj]
  exact kk
theorem pbld (hc : xC p s m args meth c cc nL own wds ret G A) (hw : xW G A s.heap (X ++ va_pl L f) H locs) (h : rowB G L f a n o) {i : Int32} (j : Nat) (hi : i = nI j) (hj : j < n) (hb : j < 2 ^ 31) {v : Value} (hv : va_rf (o j) = v) (hdg : decode cc pc = .ok (.aaload, 1))
    (kk : W p l e R s m args below meth c H locs cells slots Q (F0 m (pc + 1) ls (v :: rest))) : W p l e R s m args below meth c H locs cells slots Q (F0 m pc ls (.int i :: .ref a :: rest)) := by
  subst hv
  subst hi
  obtain ⟨h1, x, h2, h3⟩ := h
  obtain ⟨q0, h0⟩ := va_pl_get (X := X) (f := f) h1
  rw [h2] at h0
  have hK := hc.2.2.2.2.2.2.2.1.1
  refine W.aald (v := va_rf (x j)) (ty := .array (.array .int)) hc.1 hc.2.1 (hw.1 q0 _ h0) ((hK.2 3 _ rfl).1 n (fun t => va_rf (x t))) rfl (fun q => by cases q) (by show ¬ (nI j < 0 ∨ (arrV _ _ _).slots.size ≤ _); rw [arrV_size]; exact pinI hj hb) (by show (arrV _ _ _).slots[_]? = _; rw [nI_clamp hb, arrV_read _ _ hj]) rfl rfl hdg ?_
  rw [h3 j hj]
  exact kk
theorem plenI (hc : xC p s m args meth c cc nL own wds ret G A) (hw : xW G A s.heap (X ++ va_pl L f) H locs) (h : rowI G L f a n g) (hdg : decode cc pc = .ok (.arraylength, 1))
    (kk : W p l e R s m args below meth c H locs cells slots Q (F0 m (pc + 1) ls (.int (nI n) :: rest))) : W p l e R s m args below meth c H locs cells slots Q (F0 m pc ls (.ref a :: rest)) := by
  obtain ⟨h1, x, h2, h3⟩ := h
  obtain ⟨q0, h0⟩ := va_pl_get (X := X) (f := f) h1
  rw [h2] at h0
  exact va_alen hc.1 hc.2.1 hc.2.2.2.2.2.2.2.1.1 hw.1 q0 0 h0 (ty := .int) rfl rfl hdg kk
theorem plenA (hc : xC p s m args meth c cc nL own wds ret G A) (hw : xW G A s.heap (X ++ va_pl L f) H locs) (h : rowA G L f a n o) (hdg : decode cc pc = .ok (.arraylength, 1))
    (kk : W p l e R s m args below meth c H locs cells slots Q (F0 m (pc + 1) ls (.int (nI n) :: rest))) : W p l e R s m args below meth c H locs cells slots Q (F0 m pc ls (.ref a :: rest)) := by
  obtain ⟨h1, x, h2, h3⟩ := h
  obtain ⟨q0, h0⟩ := va_pl_get (X := X) (f := f) h1
  rw [h2] at h0
  exact va_alen hc.1 hc.2.1 hc.2.2.2.2.2.2.2.1.1 hw.1 q0 2 h0 (ty := .array .int) rfl rfl hdg kk
theorem plenB (hc : xC p s m args meth c cc nL own wds ret G A) (hw : xW G A s.heap (X ++ va_pl L f) H locs) (h : rowB G L f a n o) (hdg : decode cc pc = .ok (.arraylength, 1))
    (kk : W p l e R s m args below meth c H locs cells slots Q (F0 m (pc + 1) ls (.int (nI n) :: rest))) : W p l e R s m args below meth c H locs cells slots Q (F0 m pc ls (.ref a :: rest)) := by
  obtain ⟨h1, x, h2, h3⟩ := h
  obtain ⟨q0, h0⟩ := va_pl_get (X := X) (f := f) h1
  rw [h2] at h0
  exact va_alen hc.1 hc.2.1 hc.2.2.2.2.2.2.2.1.1 hw.1 q0 3 h0 (ty := .array (.array .int)) rfl rfl hdg kk
theorem ppush {E : va_E} {q : Nat} {H1 : Heap} {locs1 : List Loc} (hw : xW G A s.heap ((X ++ va_pl L f) ++ [(q, E)]) H1 locs1) : q ∉ L ∧ xW G A s.heap (X ++ va_pl (L ++ [q]) (va_up f q E)) H1 locs1 := by
  have hq : q ∉ L := va_pl_fresh2 hw.2.1
  refine ⟨hq, ?_⟩
  rw [List.append_assoc, va_pl_push hq] at hw
  exact hw
theorem pnewI (hc : xC p s m args meth c cc nL own wds ret G A) (hw : xW G A s.heap (X ++ va_pl L f) H locs) (N : Nat) {v : Int32} (hv : v = nI N) (hN : N < 100000) (harr : Cond.arrayClass .int ∈ wds) (hcells : cells + 1 ≤ R.cells) (hslots : slots + N ≤ R.slots) (hdg : decode cc pc = .ok (.newarray .int, 2))
    (kk : ∀ (q : Nat) (L' : List Nat) (f' : Nat → va_E) (H1 : Heap), q ∉ L → pk (fun _ => False) L f L' f' → rowI G L' f' q N (fun _ => 0) → xW G A s.heap (X ++ va_pl L' f') H1 locs → W p l e R s m args below meth c H1 locs (cells + 1) (slots + N) Q (F0 m (pc + 2) ls (.ref q :: rest))) : W p l e R s m args below meth c H locs cells slots Q (F0 m pc ls (.int v :: rest)) := by
  subst hv
  refine xnewaI hc hw N harr (nI_pos (by omega)) (nI_clamp (by omega)) (by show N * 4 ≤ 536870912; omega) hcells hslots hdg (fun q H1 hw1 => ?_)
  obtain ⟨h1, h2⟩ := ppush hw1
  exact kk q _ _ H1 h1 (pk_nw h1 _) ⟨pmem L q, _, va_up_self _ _ _, fun _ _ => rfl⟩ h2
theorem pnewZ (hc : xC p s m args meth c cc nL own wds ret G A) (hw : xW G A s.heap (X ++ va_pl L f) H locs) (N : Nat) {v : Int32} (hv : v = nI N) (hN : N < 100000) (harr : Cond.arrayClass .boolean ∈ wds) (hcells : cells + 1 ≤ R.cells) (hslots : slots + N ≤ R.slots) (hdg : decode cc pc = .ok (.newarray .boolean, 2))
    (kk : ∀ (q : Nat) (L' : List Nat) (f' : Nat → va_E) (H1 : Heap), q ∉ L → pk (fun _ => False) L f L' f' → rowZ G L' f' q N (fun _ => 0) → xW G A s.heap (X ++ va_pl L' f') H1 locs → W p l e R s m args below meth c H1 locs (cells + 1) (slots + N) Q (F0 m (pc + 2) ls (.ref q :: rest))) : W p l e R s m args below meth c H locs cells slots Q (F0 m pc ls (.int v :: rest)) := by
  subst hv
  refine xnewaZ hc hw N harr (nI_pos (by omega)) (nI_clamp (by omega)) (by show N * 1 ≤ 536870912; omega) hcells hslots hdg (fun q H1 hw1 => ?_)
  obtain ⟨h1, h2⟩ := ppush hw1
  exact kk q _ _ H1 h1 (pk_nw h1 _) ⟨pmem L q, _, va_up_self _ _ _, fun _ _ => rfl⟩ h2
/-- the array of rows of ints: its component is the class of rows of ints -/
theorem pcomp {U : State} (hE : xE G U) : ∃ kA : Class, U.vm.classes[G.2.1.2.2.1]? = some kA ∧ kA.kind = .array G.2.1.1 (.array .int) ∧ (∃ kI : Class, U.vm.classes[G.2.1.1]? = some kI) ∧ U.vm.findClass (FieldType.array .int).toString = some G.2.1.1 ∧ U.vm.findClass ("[" ++ (FieldType.array .int).toString) = some G.2.1.2.2.1 := by
  obtain ⟨comp, cA, kA, g1, g2, g3, g4, g5⟩ := arrayOverA_spec (hE.2.2.2.2.1)
  have r0 : U.vm.findClass (FieldType.array .int).toString = some G.2.1.1 := (hE.1.2 0 (G.2.1.1, .int) rfl).2
  have r2 : U.vm.findClass ("[" ++ (FieldType.array .int).toString) = some G.2.1.2.2.1 := (hE.1.2 2 (G.2.1.2.2.1, .array .int) rfl).2
  have e1 : comp = G.2.1.1 := Option.some.inj (g1.symm.trans r0)
  have e2 : cA = G.2.1.2.2.1 := Option.some.inj (g5.symm.trans r2)
  subst e1; subst e2
  obtain ⟨-, kI, hkI, -⟩ := (hE.1.2 0 (G.2.1.1, .int) rfl).1 0 (fun _ => .null)
  exact ⟨kA, g3, g4, ⟨kI, hkI⟩, r0, r2⟩
theorem past (hc : xC p s m args meth c cc nL own wds ret G A) (hw : xW G A s.heap (X ++ va_pl L f) H locs) (h : rowA G L f a n o) {i : Int32} {q n2 : Nat} {g2 : Nat → Int32} (j : Nat) (hi : i = nI j) (hj : j < n) (hb : j < 2 ^ 31) (hq : rowI G L f q n2 g2) (hdg : decode cc pc = .ok (.aastore, 1))
    (kk : ∀ (f' : Nat → va_E) (H1 : Heap) (locs1 : List Loc), pk (fun b => b = a) L f L f' → rowA G L f' a n (va_up o j (some q)) → xW G A s.heap (X ++ va_pl L f') H1 locs1 → W p l e R s m args below meth c H1 locs1 cells slots Q (F0 m (pc + 1) ls rest)) : W p l e R s m args below meth c H locs cells slots Q (F0 m pc ls (.ref q :: .int i :: .ref a :: rest)) := by
  subst hi
  obtain ⟨h1, y, h2, h3⟩ := h
  obtain ⟨q0, h0⟩ := va_pl_get (X := X) (f := f) h1
  have hs := va_pl_set (e := .inl (G.2.1.2.2.1, n, .inr (.inr (.inr (.inr (va_up y j (some q))))))) hw.2.1 h1 h0
  rw [h2] at h0
  obtain ⟨hq1, z, hq2, hq3⟩ := hq
  obtain ⟨q1, h9⟩ := va_pl_get (X := X) (f := f) hq1
  rw [hq2] at h9
  obtain ⟨kA, k1, k2, ⟨kI, k3⟩, -, -⟩ := pcomp hc.2.2.2.2.2.2.2.1
  have hcv : H[q]? = some (vp_cell G.2.1.1 (n2, .inl z)) := hw.1 q1 _ h9
  refine W.aast hc.1 hc.2.1 (hw.1 q0 _ h0) (fun q h => by cases h) (fun h => by cases h) k1 k2 rfl k3 ⟨nI_pos hb, by show _ < (arrV _ _ _).slots.size; rw [arrV_size, nI_clamp hb]; exact hj⟩ hcv (fun q h => by cases h) k3 (pself s.vm G.2.1.1) rfl rfl hdg fun H1 e z1 oq => ?_
  have hset : va_P G.1 vwCl ((X ++ va_pl L f).set q0 (a, .inl (G.2.1.2.2.1, n, .inr (.inr (.inr (.inr (va_up y j (some q)))))))) H1 := by
    refine hw.1.set hw.2.1 h0 ?_ oq
    show H1[a]? = some (vp_cell _ _)
    rw [e, nI_clamp hb, vp_cell_q, vp_cell_q, arrV_store]
    congr 2
    funext t
    by_cases ht : t = j
    · subst ht
      simp [updV, va_up, va_rf]
    · simp [updV, va_up, ht]
  have hD2 := hw.2.1.set (e := .inl (G.2.1.2.2.1, n, .inr (.inr (.inr (.inr (va_up y j (some q))))))) h0
  rw [hs] at hset hD2
  refine kk _ H1 _ (pk_up L f a _) ⟨h1, _, va_up_self _ _ _, fun t ht => ?_⟩ ⟨hset, hD2, hw.2.2.put z1 oq (hw.2.1.2 q0 _ h0)⟩
  by_cases c : t = j
  · subst c; rw [va_up_self, va_up_self]
  · rw [va_up_ne _ _ c, va_up_ne _ _ c]; exact h3 t ht
end PR
