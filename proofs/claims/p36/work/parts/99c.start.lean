/-! THE CLAIM OUT OF ONE WALK OF THE LAW'S BODY. Your part is whole_start (and what it stands on); all else here is the same for every law, but numbers. -/
def R_law : String := "MapCarrierLaw"
def lw_P (b : Addr) (xs : List Int32) (args : Array Value) (s : State) : Prop := args = #[.ref b] ∧ s.IntsAt b xs ∧ xs.length ≤ 260 ∧ (Jvm.Cond.and given_1 narrow_1).before args s = true
/-- what a walk over the start with the record d0 says of its end, said of the start itself -/
theorem lw_closed {s t : State} {o : Outcome} {d0 : Drawn} {L : List Loc} {k n : Nat} (hd0 : s.drawn.sameBut d0 lw_cs) (hv : ∃ v, o = .returned v) (hW : (s.setDrawn d0).WarmedH t.vm) (hs : (s.setDrawn d0).sameButNew ({ t with vm := s.vm } : State) L k n) : State.butDraws s t lw_cs (fun t1 => Framed s o t1 L k n) := by
  have h2 : t.drawn = d0 := congrArg State.drawn hs.1
  refine ⟨⟨hv, hW, State.sameButNew.setDrawn hs s.drawn⟩, ?_, by decide⟩
  rw [h2]
  exact hd0
def lw_Q (_ : Array Value) (s : State) (o : Outcome) (t : State) : Prop := o = .returned (some (.int 1)) ∧ State.butDraws s t lw_cs (fun t1 => Framed s o t1 [] 777134 6770066)
def lw_Z (below : List Frame) (a : Array Value) (s : State) : State → Prop := fun t => ∃ o, t.status = .running ∧ Ended t below o ∧ lw_Q a s o t
/-- the law's own end, with 1 on the stack, nothing written that was there before, its room as the claim has it; d0: the record of draws at this point (at the entry s.drawn: begin with 'refine W.base ?_' and 'have hd0 := Drawn.sameBut.refl s.drawn lw_cs') -/
theorem lw_ret {p : Program} {l : Launch} {e : Env} {s : State} {m : MethodId} {below : List Frame} {meth : Method} {c : Code} {b : Nat} {d0 : Drawn} (hd0 : s.drawn.sameBut d0 lw_cs) (hx : p.tables.exec = Jvm.exec) (hb : c.code = code) (hr : meth.sig.returnType = ret) (hlocks : meth.locks = false) {pc : Nat} {H : Heap} {ls : Array Slot} (hdg : decode code pc = .ok (.ireturn, 1)) : W p l e room_1 (s.setDrawn d0) m #[Value.ref b] below meth c H [] 777134 6770066 (lw_Z below #[Value.ref b] s) (F0 m pc ls [.int 1]) := by
  intro T hT X
  obtain ⟨fs, hret, hrun, hended, hW, hframe⟩ := X.leave (v := some (.int 1)) (hlocks := hlocks) (fun h => by rw [hr] at h; cases h)
  have hmeth' : T.vm.method? m = some meth := X.method'
  refine ⟨T.setFrames fs, ?_, .returned (some (.int 1)), hrun, hended, rfl, lw_closed hd0 ⟨_, rfl⟩ hW hframe⟩
  jvm_step X.here [X.here.top, hx, hb, hdg, hmeth', hr, ret, narrow_b1]
  (try refine ⟨rfl, ?_⟩); (try refine ⟨rfl, ?_⟩)
  first | (intro acts; rw [hret _ acts rfl rfl rfl]) | rw [hret _ _ rfl rfl rfl]
  exact Steps.refl _
/-- what holds at the law's entry: the machine, the code, the tables' words (any of lw_tbl by 'hts w (by decide +kernel)'), the script of L ints xs at the cell b, what the Statement gives of the start (any of its parts by flat_of_before) -/
def lw_At (p : Program) (s : State) (m : MethodId) (meth : Method) (c : Code) (b L : Nat) (xs : Nat → Int32) : Prop :=
  p.tables.exec = Jvm.exec ∧ c.code = code ∧ meth.sig.returnType = ret ∧ c.maxLocals = 20 ∧ s.vm.findClass R_law = some m.cls ∧ (∀ w ∈ lw_tbl, w.before #[Value.ref b] s = true) ∧ va_X b L xs s s.heap ∧ b < s.heap.size ∧ meth.locks = false ∧ (Jvm.Cond.and given_1 narrow_1).before #[Value.ref b] s = true

/-! the start: the tables, the objects, the rounds, the end -/
theorem zarrI {s : State} {args : Array Value} (h : (Cond.arrayClass .int).before args s = true) : ∃ cA : ClassId, ArrOfT s cA .int ∧ va_RA s cA .int := by
  obtain ⟨cA, kA, comp, h1, h2, h3⟩ := Cond.arrayClass_spec h
  exact ⟨cA, fun n z => ⟨fun k h => (by cases h), kA, h2, comp, h3⟩, h1⟩
theorem zarrZ {s : State} {args : Array Value} (h : (Cond.arrayClass .boolean).before args s = true) : ∃ cA : ClassId, ArrOfT s cA .boolean ∧ va_RA s cA .boolean := by
  obtain ⟨cA, kA, comp, h1, h2, h3⟩ := Cond.arrayClass_spec h
  exact ⟨cA, fun n z => ⟨fun k h => (by cases h), kA, h2, comp, h3⟩, h1⟩
theorem zarrA {s : State} {args : Array Value} {t : FieldType} (h : (Cond.arrayOver (.array t)).before args s = true) : ∃ cA : ClassId, ArrOfT s cA (.array t) ∧ va_RA s cA (.array t) := by
  obtain ⟨comp, cA, kA, g1, g2, g3, g4, g5⟩ := arrayOverA_spec h
  exact ⟨cA, fun n z => ⟨fun k h => (by cases h), kA, g3, comp, g4⟩, g5⟩
set_option maxHeartbeats 40000000 in
set_option maxRecDepth 100000 in
/-- what the Statement gives at the law's entry, in the words of the walk -/
theorem lw_hc {p : Program} {s : State} {m : MethodId} {meth : Method} {c : Code} {b L : Nat} {xs : Nat → Int32} (C0 : lw_At p s m meth c b L xs) : ∃ G : xG, xC p s m #[Value.ref b] meth c cL_law 20 RL wsL_law (some .boolean) G (fun q : Nat => s.heap.size ≤ q) := by
  obtain ⟨hx, hb, hr, hml, hown, hts0, hX, hbl, hlocks, hgv⟩ := id C0
  have hs := flat_of_before _ hgv
  obtain ⟨c0, i0, k0⟩ := u_known (C := RX0) (T := TX0) (N := 15) (n := 15) hts0 inX0 (hts0 (.instantiable RX0 15) (by decide +kernel))
  obtain ⟨c1, i1, k1⟩ := u_known (C := RX1) (T := TX1) (N := 8) (n := 8) hts0 inX1 (hts0 (.instantiable RX1 8) (by decide +kernel))
  obtain ⟨c2, i2, k2⟩ := u_known (C := RX2) (T := TX2) (N := 2) (n := 2) hts0 inX2 (hts0 (.instantiable RX2 2) (by decide +kernel))
  obtain ⟨c3, i3, k3⟩ := u_known (C := RX3) (T := TX3) (N := 3) (n := 3) hts0 inX3 (hts0 (.instantiable RX3 3) (by decide +kernel))
  obtain ⟨c4, i4, k4⟩ := u_known (C := RX4) (T := TX4) (N := 14) (n := 14) hts0 inX4 (hts0 (.instantiable RX4 14) (by decide +kernel))
  obtain ⟨aI, aI1, aI2⟩ := zarrI (hts0 (.arrayClass .int) (by decide +kernel))
  obtain ⟨aZ, aZ1, aZ2⟩ := zarrZ (hts0 (.arrayClass .boolean) (by decide +kernel))
  obtain ⟨aA, aA1, aA2⟩ := zarrA (t := .int) (hts0 (.arrayOver (.array .int)) (by decide +kernel))
  obtain ⟨aB, aB1, aB2⟩ := zarrA (t := .array .int) (hts0 (.arrayOver (.array (.array .int))) (by decide +kernel))
  have hm : ∀ q ∈ xStrs, Cond.stringRef q.1 q.2.1 q.2.2 ∈ lw_tbl := by decide +kernel
  have hstr : ∀ k : Nat, ∃ a : Nat, ∀ q : String × Nat × String, xStrs[k]? = some q → vk_R q.1 q.2.1 q.2.2 a s := by
    intro k
    cases hk : xStrs[k]? with
    | none => exact ⟨0, fun q h => by cases h⟩
    | some q =>
      have h1 := hts0 _ (hm q (List.mem_of_getElem? hk))
      have hcur : ∃ cur, s.vm.findClass q.1 = some cur := by
        simp only [Cond.before, Cond.holds, Cond.value] at h1
        cases hc : s.vm.findClass q.1 with
        | none => simp [hc] at h1
        | some cur => exact ⟨cur, rfl⟩
      obtain ⟨cur, hcur⟩ := hcur
      obtain ⟨-, -, -, sa, -, -, -, -, -, hev⟩ := Cond.stringRef_spec hcur h1
      exact ⟨sa, fun q' h => by cases h; exact vk_R.of h1 hev⟩
  have hnc : ∀ q ∈ xNcs, va_Nc q.1 q.2 s := by
    intro q hq
    refine va_Nc.of (args := #[Value.ref b]) (hs _ ?_)
    revert q
    decide +kernel
  refine ⟨((fun k => if k = 0 then c0 else if k = 1 then c1 else if k = 2 then c2 else if k = 3 then c3 else c4, fun k => if k = 0 then i0 else if k = 1 then i1 else if k = 2 then i2 else if k = 3 then i3 else i4), (aI, aZ, aA, aB), fun k => Classical.choose (hstr k)), hx, hb, hml, hown, fun w h => hts0 w (wsL_law_in w h), hr, hlocks, ⟨⟨?_, ?_⟩, fun w hw => va_Nw.of (xnest_ot w hw) (hts0 w (xNest_tbl w hw)), hnc, fun k q hq => Classical.choose_spec (hstr k) q hq, ⟨xAO.of (hts0 (.arrayOver (.array .int)) (by decide +kernel)), xAO.of (hts0 (.arrayOver (.array (.array .int))) (by decide +kernel))⟩⟩, ⟨?_, ?_⟩, fun _ h => h⟩
  · intro k q hq
    match k, hq with
    | 0, hq => cases hq; exact k0
    | 1, hq => cases hq; exact k1
    | 2, hq => cases hq; exact k2
    | 3, hq => cases hq; exact k3
    | 4, hq => cases hq; exact k4
    | k + 5, hq => simp [vwCl] at hq
  · intro k q hq
    match k, hq with
    | 0, hq => cases hq; exact ⟨aI1, aI2⟩
    | 1, hq => cases hq; exact ⟨aZ1, aZ2⟩
    | 2, hq => cases hq; exact ⟨aA1, aA2⟩
    | 3, hq => cases hq; exact ⟨aB1, aB2⟩
    | k + 4, hq => simp [xTy] at hq
  · exact vx_Zqof (hts0 _ (by decide +kernel)) (hts0 _ (by decide +kernel)) (hs _ (by decide +kernel)) (fun a h => Nat.not_le.mpr h)
  · exact vx_Zqof (hts0 _ (by decide +kernel)) (hts0 _ (by decide +kernel)) (hs _ (by decide +kernel)) (fun a h => Nat.not_le.mpr h)
def aof (x : Nat) (t : Nat × Nat × Nat × Nat × Nat × Nat × Nat × Nat × Nat × Nat × Nat × Nat × Nat × Nat × Nat × Nat × Nat × Nat × Nat × Nat × Nat × Nat) : Nat → Nat := fun k => if k = 0 then x else if k = 1 then t.1 else if k = 2 then t.2.2.2.2.2.2.2.2.1 else if k = 3 then t.2.2.2.2.2.2.2.2.2.2.2.2.2.2.2.1 else if k = 4 then t.2.2.2.2.2.2.2.2.2.1 else if k = 5 then t.2.2.2.2.2.2.2.2.2.2.2.2.2.2.2.2.1 else if k = 6 then t.2.1 else if k = 7 then t.2.2.1 else if k = 8 then t.2.2.2.1 else if k = 9 then t.2.2.2.2.1 else if k = 10 then t.2.2.2.2.2.1 else if k = 11 then t.2.2.2.2.2.2.1 else if k = 12 then t.2.2.2.2.2.2.2.1 else if k = 13 then t.2.2.2.2.2.2.2.2.2.2.2.2.1 else if k = 14 then t.2.2.2.2.2.2.2.2.2.2.2.2.2.1 else if k = 15 then t.2.2.2.2.2.2.2.2.2.2.2.2.2.2.1 else if k = 16 then t.2.2.2.2.2.2.2.2.2.2.1 else if k = 17 then t.2.2.2.2.2.2.2.2.2.2.2.1 else if k = 18 then t.2.2.2.2.2.2.2.2.2.2.2.2.2.2.2.2.2.2.2.1 else if k = 19 then t.2.2.2.2.2.2.2.2.2.2.2.2.2.2.2.2.2.2.2.2.1 else if k = 20 then t.2.2.2.2.2.2.2.2.2.2.2.2.2.2.2.2.2.2.2.2.2 else if k = 21 then t.2.2.2.2.2.2.2.2.2.2.2.2.2.2.2.2.2.1 else if k = 22 then t.2.2.2.2.2.2.2.2.2.2.2.2.2.2.2.2.2.2.1 else 0
def u00 : cU := (fun _ => 0, (fun k => if k = 2 ∨ k = 4 then -1 else 0), fun _ _ => 0)
set_option maxHeartbeats 40000000 in
set_option maxRecDepth 100000 in
theorem lpw_start {p : Program} {l : Launch} {e : Env} {s : State} {m : MethodId} {args : Array Value} {below : List Frame} {meth : Method} {c : Code} {Q : State → Prop} {G : xG} {A : Nat → Prop} (hst : l.stackTraces = false) {bs : Nat} {ret : Option FieldType} (hc : xC p s m args meth c cL_law 20 RL wsL_law ret G A) {L0 : Nat} {xs : Nat → Int32} (hX : va_X bs L0 xs s s.heap) (hbl : bs < s.heap.size) (hbA : ¬ A bs) (hL0 : L0 ≤ 1000)
    (kx : ∀ (a : Nat → Nat) (aS : Nat) (w9 : lS) (H : Heap) (locs : List Loc) (ls : Array Slot), lZ 60 24000 G aS w9 → lv_has ls 20 [(2, .ref aS), (1, .ref (a 0)), (0, .ref bs)] → xW G A s.heap (lWN G a w9) H locs → W p l e ⟨12, 777134, 6770066, 438⟩ s m args below meth c H locs 241000 1300000 Q (F0 m 1024 ls []))
    {ls : Array Slot} (hl : lv_has ls 20 [(0, .ref bs)]) (hw : xW G A s.heap [] s.heap []) : W p l e ⟨12, 777134, 6770066, 438⟩ s m args below meth c s.heap [] 0 0 Q (F0 m 0 ls []) := by
  obtain ⟨hx, hb, -, hown, hts, -⟩ := id hc
  refine xnew (C := RX3) (T := TX3) (N := 3) (ci := 3) hc hw inlX3 tyX3 tyX3_ok [.null, .null, .null] (by decide +kernel) (by decide +kernel) (by decide +kernel) rfl (by decide) (Nat.le_of_ble_eq_true rfl) (Nat.le_of_ble_eq_true rfl) dL_law_0 (fun x0 H hw => ?_)
  have hw : xW G A s.heap [xO x0 3 [.null, .null, .null]] H _ := hw
  refine lv_dup hx hb dL_law_3 rfl ?_
  refine xcall_v (isC := [0]) hc hw (xrunI (n := 0) (As := []) (rest := [.ref x0]) hc hw [0] (metX3_init l G _ x0) gL_law_X3_init (by decide +kernel) (by decide +kernel) (by decide +kernel) rfl rfl (by decide +kernel) ⟨Nat.le_of_ble_eq_true rfl, Nat.le_of_ble_eq_true rfl⟩ rfl rfl rfl rfl hl.1 (Nat.le_of_ble_eq_true rfl) dL_law_4 ⟨Nat.le_of_ble_eq_true rfl, Nat.le_of_ble_eq_true rfl⟩) rfl [] [0, 1, 2, 3, 4, 5, 6, 7, 8, 9, 13, 14, 15, 10, 11, 12, 16, 20, 21, 22, 17, 18, 19] (fun t => cW G (aof x0 t) z00 r00 u00) (fun t => rfl) rfl rfl rfl rfl (fun t H locs hp hw => ?_)
  obtain ⟨a, ea, hw3⟩ : ∃ a : Nat → Nat, a 0 = x0 ∧ xW G A s.heap (cW G a z00 r00 u00 ++ va_pl [] (fun _ => .inr (0, []))) H locs := by
    have e : cW G (aof x0 t) z00 r00 u00 ++ va_pl [] (fun _ => .inr (0, [])) = cW G (aof x0 t) z00 r00 u00 := List.append_nil _
    exact ⟨aof x0 t, rfl, by rw [e]; exact hw⟩
  clear hw
  subst ea
  have hw := hw3
  refine lv_astore_n (lv' := [(1, .ref (a 0)), (0, .ref bs)]) hx hb dL_law_7 rfl hl (by decide) rfl (fun ls hl => ?_)
  refine lv_aload_n hx hb dL_law_8 rfl (lv_at hl 0 rfl) ?_
  refine lv_aload_n hx hb dL_law_9 rfl (lv_at hl 1 rfl) ?_
  refine wcall_r hc hw (wrunSs (rm := ⟨8, 300, 3000, 130⟩) (n := 2) (As := [.ref (a 0), .ref bs]) (rest := []) hc hw hX hbl hbA (metL_build l G hst _ a u00 _ _ _ xs hL0) gL_law_L_build rfl (by decide +kernel) ⟨Nat.le_of_ble_eq_true rfl, Nat.le_of_ble_eq_true rfl⟩ rfl rfl hl.1 (Nat.le_of_ble_eq_true rfl) dL_law_10 (by first | exact ⟨Nat.le_of_ble_eq_true rfl, Nat.le_of_ble_eq_true rfl⟩ | (refine ⟨?_, ?_⟩ <;> ((try dsimp only); omega)))) (fun aS w9 H locs hZ hw => ?_)
  refine lv_astore_n (lv' := [(2, .ref aS), (1, .ref (a 0)), (0, .ref bs)]) hx hb dL_law_13 rfl hl (by decide) rfl (fun ls hl => ?_)
  refine lv_aload_n hx hb dL_law_14 rfl (lv_at hl 0 rfl) ?_
  refine lv_ifnonnull (tgt := 20) hx hb dL_law_15 (by decide) ?_
  refine lv_iconst (v := 0) hx hb dL_law_20 (by decide) ?_
  refine lv_istore_n (lv' := [(3, .int 0), (2, .ref aS), (1, .ref (a 0)), (0, .ref bs)]) hx hb dL_law_21 rfl hl (by decide) rfl (fun ls hl => ?_)
  refine W.widen (k := 500 + 20000 * 0) (n := 5000 + 100000 * 0) (Nat.le_of_ble_eq_true rfl) (Nat.le_of_ble_eq_true rfl) ?_
  exact lpw_rounds hst hc (a := a) hX hbl hbA hL0 (fun w9 H locs ls hZ hl hw => kx a aS w9 H locs ls hZ hl hw) 12 0 rfl w9 H locs ls hZ (lv_sub hl [0, 1, 2, 3] rfl) hw
