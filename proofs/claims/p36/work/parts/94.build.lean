theorem inL_build_X4 : ∀ w ∈ u_ws RX4 TX4 14, w ∈ wsL_build := fun _ h => List.mem_cons_of_mem _ (List.mem_append_left _ (List.mem_append_left _ (List.mem_append_left _ (List.mem_append_left _ (List.mem_append_left _ (List.mem_append_right _ h))))))
theorem lkL_build_f9 : Cond.fieldLink RL 9 "MapCarrierLaw$Sim" "exits" "[[I" ∈ wsL_build := List.mem_of_getElem? (i := 4) (by decide +kernel)
theorem lkL_build_f46 : Cond.fieldLink RL 46 "MapCarrierLaw$Sim" "shepherd" "[Z" ∈ wsL_build := List.mem_of_getElem? (i := 5) (by decide +kernel)
theorem lkL_build_c10 : Cond.classLink RL 10 RX4 ∈ wsL_build := List.mem_of_getElem? (i := 1) (by decide +kernel)
theorem lkL_build_ins : Cond.instantiable RX4 14 ∈ wsL_build := List.mem_of_getElem? (i := 2) (by decide +kernel)
theorem lkL_build_ini : Cond.initialized RX4 ∈ wsL_build := List.mem_of_getElem? (i := 3) (by decide +kernel)
theorem lkL_build_inm : Cond.instanceMethod yX4_init ∈ wsL_build := List.mem_of_getElem? (i := 6) (by decide +kernel)
/-! the law's build: a land is laid, on both sides -/
abbrev zz : Nat → Int32 := fun _ => 0
theorem zI_init : zI 0 0 0 zz zz zz zz zz zz zz zz zz 0 (-1) (-1) 0 (-1) 0 zz zz zz zz zz zz zz zz (fun _ => -1) zz := by
  have e0 : (0 : Int32).toInt = 0 := rfl
  have nE : ∀ e, ¬ zE 0 zz e := fun e h => by
    have := h.2.1
    rw [e0] at this
    omega
  refine ⟨⟨by rw [e0]; omega, fun k hk => by show 0 ≤ (0 : Int32).toInt ∧ (0 : Int32).toInt ≤ 4; rw [e0]; omega, fun k hk _ => rfl, fun k hk => by show 0 ≤ (0 : Int32).toInt ∧ (0 : Int32).toInt < 10; rw [e0]; omega, fun k hk => by show 0 ≤ (0 : Int32).toInt ∧ (0 : Int32).toInt < 40; rw [e0]; omega, fun k hk => Or.inl rfl, ⟨by rw [e0]; omega, by decide⟩, fun k hk => by show 0 ≤ (0 : Int32).toInt ∧ (0 : Int32).toInt < 20; rw [e0]; omega, fun k hk => Or.inl rfl, fun e hz => absurd hz (nE e), fun e he hz => rfl⟩, fun k hk => Or.inl rfl, rfl, by rw [e0]; omega, Or.inr ⟨rfl, rfl, rfl, rfl, rfl, ⟨fun k hk => Or.inl rfl, fun k hk => Or.inl rfl, by rw [e0]; omega, fun k hk => by rw [e0] at hk; omega, fun k hk => by show 0 ≤ (0 : Int32).toInt ∧ (0 : Int32).toInt < 40; rw [e0]; omega⟩, fun k hk => Or.inl ⟨rfl, rfl⟩, fun k hk => rfl⟩⟩
def z00 : Nat → Int32 := fun k => if k = 3 ∨ k = 5 then -1 else 0
def r00 : Nat → Nat → Int32 := fun _ _ => 0
/-- between two places of the build: nothing yet, or p places -/
def bI (p : Nat) (G : xG) (aS : Nat) (z : Nat → Int32) (r : Nat → Nat → Int32) (L : List Nat) (f : Nat → va_E) : Prop :=
  (∀ k, p ≤ k → k < 10 → r 1 k = 0) ∧ ((p = 0 ∧ z = z00 ∧ r = r00 ∧ ∃ xn xr rw wy mm, Sh G L f aS sv0 0 xn xr 0 rw (fun _ => 0) (fun _ => 0) 0 wy (fun _ _ => false) mm) ∨ ∃ xn xr nr v rw ak wl wy mp mm, cB 0 0 z r p xn xr nr v rw ak wl wy mp mm ∧ Sh G L f aS v p xn xr nr rw (r 1) ak wl wy mp mm)
/-- the first place, and the next ones -/
theorem bI_place {l : Launch} {G : xG} {a : Nat → Nat} {u : cU} (hst : l.stackTraces = false) {p aS : Nat} (hp : p < 10) {z : Nat → Int32} {r : Nat → Nat → Int32} {L : List Nat} {f : Nat → va_E} (h : bI p G aS z r L f) : ∃ v xn xr nr rw ak wl wy mp mm, Sh G L f aS v p xn xr nr rw (r 1) ak wl wy mp mm ∧ ∀ (sz : Nat) L1 f1, Sh G L1 f1 aS (if v 4 < 0 then upd v 4 0 else v) (p + 1) (va_up xn p 0) xr nr rw (r 1) ak wl wy mp mm → xM l yX3_addPlace wsX3_addPlace ⟨6, 1, 6, 82⟩ G [.ref (a 0)] (cW G a z r u) sz (xQi G (cW G a z r u) sz (fun x (w : cV) => x = nI p ∧ (∀ k, p ≤ k → k < 10 → w.2.1 1 k = 0) ∧ ∃ xn xr nr v rw ak wl wy mp mm, cB 0 0 w.1 w.2.1 (p + 1) xn xr nr v rw ak wl wy mp mm ∧ Sh G L1 f1 aS v (p + 1) xn xr nr rw (w.2.1 1) ak wl wy mp mm) (cN G a)) := by
  obtain ⟨hz, h⟩ := h
  rcases h with ⟨rfl, rfl, rfl, xn, xr, rw, wy, mm, hS⟩ | ⟨xn, xr, nr, v, rw, ak, wl, wy, mp, mm, hB, hS⟩
  · refine ⟨_, _, _, _, _, _, _, _, _, _, hS, fun sz L1 f1 hS1 => ?_⟩
    have hS1 : Sh G L1 f1 aS (upd sv0 4 0) 1 (va_up xn 0 0) xr 0 rw (fun _ => 0) (fun _ => 0) 0 wy (fun _ _ => false) mm := by rw [if_pos (by decide)] at hS1; exact hS1
    obtain ⟨h1, h2⟩ := a_first (B := 0) (xn := xn) (xr := xr) (rw := rw) (wy' := wy) (mm := mm) zI_init rfl rfl (by decide) (fun _ _ => rfl) (fun _ _ => rfl)
    exact xM_map (k_addPlace hst sz a z00 r00 u h1) (fun x w hx => ⟨(upd z00 0 (nI 1), r00, w), ⟨hx, fun _ _ _ => rfl, _, _, _, _, _, _, _, _, _, _, ⟨0, qq zz zz zz zz zz zz (fun _ => -1) zz, h2⟩, hS1⟩, rfl⟩)
  · refine ⟨_, _, _, _, _, _, _, _, _, _, hS, fun sz L1 f1 hS1 => ?_⟩
    obtain ⟨y4, hy4, hy5⟩ := cB_at hB
    have hv4 : ¬ v 4 < 0 := by rw [hy4, xltI, nI_toInt (by omega), show (0 : Int32).toInt = 0 from rfl]; omega
    rw [if_neg hv4] at hS1
    exact xM_map (kk_addPlace hst hB hp) (fun x w hx => ⟨w, ⟨hx.1, fun k h1 h2 => by rw [hx.2.2]; exact hz k h1 h2, _, _, _, _, _, _, _, _, _, _, hx.2.1, by rw [hx.2.2]; exact hS1⟩, rfl⟩)
section PI
variable {p : Program} {l : Launch} {e : Env} {R : Room} {s : State} {m : MethodId} {args : Array Value} {below : List Frame} {meth : Method} {c : Code} {H : Heap} {locs : List Loc} {cells slots : Nat} {Q : State → Prop}
variable {cc : ByteArray} {nL : Nat} {own : String} {wds : List Cond} {ret : Option FieldType} {G : xG} {A : Nat → Prop} {X : va_W} {L : List Nat} {f : Nat → va_E} {pc : Nat} {ls : Array Slot} {st0 rest : List Value}
variable {y : MethodName} {bytes : ByteArray} {maxL n index : Nat} {wds' wds'' : List Cond} {rm : Room} {b : Nat} {As : List Value}
theorem prunIN {Qc : Array Value → State → Outcome → State → Prop} {host : String} (hc : xC p s m args meth c cc nL own wds ret G A) (hw : xW G A s.heap (X ++ va_pl L f) H locs) (hM : xM l y wds' rm G (.ref b :: As) (pW L f) H.size Qc)
    (hT : GoodIn wds wds') (hlk : Cond.methodLinkNest own index y host ∈ xNest) (hini : Cond.initialized y.cls ∈ wds) (hin : Cond.instanceMethod y ∈ wds) (hy1 : y.name = "<init>") (hwd : wds' = Cond.code y bytes maxL none :: wds'')
    (hd : y.cls ≠ "java/lang/invoke/MethodHandle" ∧ y.cls ≠ "java/lang/invoke/VarHandle" ∧ (parseMethodDescriptor y.desc).map (fun d => d.parameters.length) = some n) (hR : rm.frames + 1 ≤ R.frames ∧ 8 + (maxL + 11) + rm.locals ≤ R.locals)
    (hn : As.length = n) (hst0 : st0 = As.reverse ++ .ref b :: rest) (hl : ls.size = nL) (hst : (rest.map fun v => v.category).sum ≤ 8) (hdg : decode cc pc = .ok (.invokespecial index, 3)) (hf : cells + rm.cells ≤ R.cells ∧ slots + rm.slots ≤ R.slots) :
    va_Run p l e R s m args below meth c H locs cells slots rm.cells rm.slots (F0 m pc ls st0) rest (Qc (Value.ref b :: As).toArray) (va_A (pW L f) H.size) := by
  subst hst0
  exact va_runIN ⟨hc.1, hc.2.1, hc.2.2.1, hc.2.2.2.1, hc.2.2.2.2.1⟩ hM ⟨va_cnB n hc.2.2.2.2.1 hT hwd rfl rfl (hc.2.2.2.2.2.2.2.1.2.1 _ hlk) (hc.2.2.2.2.1 _ hini) hd hR, hy1, hc.2.2.2.2.1 _ hin⟩ ⟨xPc_blind, fun U hU hW => ⟨rfl, pPcOf hc hw U hU hW⟩⟩ rfl hn hl rfl (lv_room hst) hdg hf
end PI
/-- a contract of a method that answers an object -/
abbrev xQr {S : Type} (G : xG) (ws : va_W) (sz : Nat) (post : Nat → S → Prop) (wn : S → va_W) := va_Qq (fun r u => ∃ q : Nat, r = some q ∧ post q u) (xB G (va_A ws sz) wn) (va_A ws sz)
set_option maxHeartbeats 40000000 in
set_option maxRecDepth 100000 in
theorem lpB_roads {pg : Program} {l : Launch} {e : Env} {s : State} {m : MethodId} {args : Array Value} {below : List Frame} {meth : Method} {c : Code} {Q : State → Prop} {G : xG} {A : Nat → Prop} (hst : l.stackTraces = false) {a : Nat → Nat} {aS b L0 : Nat} {xs : Nat → Int32} {ret : Option FieldType} (hc : xC pg s m args meth c cL_build 9 RL wsL_build ret G A) {p n0 : Nat} {x5 : Int32} {C S : Nat} (hp : p < 10) (hCS : C ≤ 260 ∧ S ≤ 2600)
    (kx : ∀ (z : Nat → Int32) (r : Nat → Nat → Int32) (u : cU) (L : List Nat) (f : Nat → va_E) (H : Heap) (locs : List Loc) (ls : Array Slot), (∀ k, p ≤ k → k < 10 → r 1 k = 0) → (∃ xn xr nr v rw ak wl wy mp mm, cB 0 0 z r (p + 1) xn xr nr v rw ak wl wy mp mm ∧ Sh G L f aS v (p + 1) xn xr nr rw (r 1) ak wl wy mp mm) → lv_has ls 9 [(5, .int x5), (4, .int (nI p)), (3, .int (nI n0)), (2, .ref aS), (0, .ref (a 0)), (1, .ref b)] → xW G A s.heap (cW G a z r u ++ va_pl L f) H locs → W pg l e ⟨8, 300, 3000, 130⟩ s m args below meth c H locs (C + 16) (S + 160) Q (F0 m 166 ls [])) :
    ∀ (d k : Nat), k + d = 2 → ∀ (z : Nat → Int32) (r : Nat → Nat → Int32) (u : cU) (L : List Nat) (f : Nat → va_E) (H : Heap) (locs : List Loc) (ls : Array Slot), (∀ k, p ≤ k → k < 10 → r 1 k = 0) → (∃ xn xr nr v rw ak wl wy mp mm, cB 0 0 z r (p + 1) xn xr nr v rw ak wl wy mp mm ∧ Sh G L f aS v (p + 1) xn xr nr rw (r 1) ak wl wy mp mm) → lv_has ls 9 [(6, .int (nI k)), (5, .int x5), (4, .int (nI p)), (3, .int (nI n0)), (2, .ref aS), (0, .ref (a 0)), (1, .ref b)] → xW G A s.heap (cW G a z r u ++ va_pl L f) H locs → W pg l e ⟨8, 300, 3000, 130⟩ s m args below meth c H locs (C + 8 * k) (S + 80 * k) Q (F0 m 58 ls []) := by
  obtain ⟨hx, hb, -, hown, hts, -⟩ := id hc
  intro d
  induction d with
  | zero =>
    intro k hd z r u L f H locs ls hz hB hl hw
    have ek : k = 2 := by omega
    subst ek
    refine lv_iload hx hb dL_build_58 (lv_at hl 2 rfl) ?_
    refine lv_if_le (tgt := 166) hx hb dL_build_60 (by decide) (fun hz1 => ?_) (fun hz1 => ?_)
    · exact W.widen (k := C + 16) (n := S + 160) (by (try dsimp only); omega) (by (try dsimp only); omega) (kx z r u L f H locs ls hz hB (lv_sub hl [1, 2, 3, 4, 5, 6] rfl) hw)
    · refine lv_iload hx hb dL_build_63 (lv_at hl 0 rfl) ?_
      refine lv_iconst (v := 1) hx hb dL_build_65 (by decide) ?_
      refine lv_iload hx hb dL_build_66 (lv_at hl 1 rfl) ?_
      refine lv_iconst (v := 2) hx hb dL_build_68 (by decide) ?_
      refine ncall_i hc hw (nrunS (n := 2) (As := [.int x5, .int 2]) (rest := [.int 1, .int (nI 2)]) hc hw (metL_below l G _ (_) 2 (by decide)) gL_build_L_below rfl (by decide +kernel) ⟨Nat.le_of_ble_eq_true rfl, Nat.le_of_ble_eq_true rfl⟩ rfl rfl hl.1 (Nat.le_of_ble_eq_true rfl) dL_build_69 (by first | exact ⟨Nat.le_of_ble_eq_true rfl, Nat.le_of_ble_eq_true rfl⟩ | (refine ⟨?_, ?_⟩ <;> ((try dsimp only); omega)))) (fun x0 H locs hp hw => ?_)
      obtain ⟨j, hj, ej⟩ := hp
      subst ej
      obtain ⟨e1, -, -⟩ := l1k hj (by decide)
      refine lv_iadd hx hb dL_build_72 ?_
      refine lv_icmp_ge (tgt := 166) hx hb dL_build_73 (by decide) (fun hz2 => ?_) (fun hz2 => ?_)
      · exact W.widen (k := C + 16) (n := S + 160) (by (try dsimp only); omega) (by (try dsimp only); omega) (kx z r u L f H locs ls hz hB (lv_sub hl [1, 2, 3, 4, 5, 6] rfl) hw)
      · exact absurd (by rw [e1]; exact nI_le (by omega) (by omega)) hz2
  | succ d ih =>
    intro k hd z r u L f H locs ls hz hB hl hw
    refine lv_iload hx hb dL_build_58 (lv_at hl 2 rfl) ?_
    refine lv_if_le (tgt := 166) hx hb dL_build_60 (by decide) (fun hz1 => ?_) (fun hz1 => ?_)
    · exact W.widen (k := C + 16) (n := S + 160) (by (try dsimp only); omega) (by (try dsimp only); omega) (kx z r u L f H locs ls hz hB (lv_sub hl [1, 2, 3, 4, 5, 6] rfl) hw)
    · refine lv_iload hx hb dL_build_63 (lv_at hl 0 rfl) ?_
      refine lv_iconst (v := 1) hx hb dL_build_65 (by decide) ?_
      refine lv_iload hx hb dL_build_66 (lv_at hl 1 rfl) ?_
      refine lv_iconst (v := 2) hx hb dL_build_68 (by decide) ?_
      refine ncall_i hc hw (nrunS (n := 2) (As := [.int x5, .int 2]) (rest := [.int 1, .int (nI k)]) hc hw (metL_below l G _ (_) 2 (by decide)) gL_build_L_below rfl (by decide +kernel) ⟨Nat.le_of_ble_eq_true rfl, Nat.le_of_ble_eq_true rfl⟩ rfl rfl hl.1 (Nat.le_of_ble_eq_true rfl) dL_build_69 (by first | exact ⟨Nat.le_of_ble_eq_true rfl, Nat.le_of_ble_eq_true rfl⟩ | (refine ⟨?_, ?_⟩ <;> ((try dsimp only); omega)))) (fun x0 H locs hp hw => ?_)
      obtain ⟨j, hj, ej⟩ := hp
      subst ej
      obtain ⟨e1, -, -⟩ := l1k hj (by decide)
      refine lv_iadd hx hb dL_build_72 ?_
      refine lv_icmp_ge (tgt := 166) hx hb dL_build_73 (by decide) (fun hz2 => ?_) (fun hz2 => ?_)
      · exact W.widen (k := C + 16) (n := S + 160) (by (try dsimp only); omega) (by (try dsimp only); omega) (kx z r u L f H locs ls hz hB (lv_sub hl [1, 2, 3, 4, 5, 6] rfl) hw)
      · obtain ⟨xn, xr, nr, v, rw, ak, wl, wy, mp, mm, hB, hS⟩ := hB
        obtain ⟨hn1, hn2, hn3, hn4, hn5⟩ := cB_n hB
        obtain ⟨ad, oo, om, hO, hA⟩ := id hS
        obtain ⟨-, ⟨hE1, hE2⟩, -, -, -, -⟩ := id hA
        have hO : objS L f aS 4 [.ref (ad 0), .ref (ad 1), .ref (ad 2), .ref (ad 3), .int (v 4), .int (v 5), .int (v 6), .ref (ad 4), .ref (ad 5), .int (v 9), .int (v 10), .int (v 11), .int (v 12), .int (v 13)] := hO
        have hp1 : 1 ≤ p := by
          rcases Nat.eq_zero_or_pos p with h | h
          · subst h; exact absurd (show (nI 0 : Int32) ≤ 0 by decide) hz1
          · exact h
        refine lv_iload hx hb dL_build_76 (lv_at hl 1 rfl) ?_
        refine lv_iconst (v := 3) hx hb dL_build_78 (by decide) ?_
        refine lv_ishr hx hb dL_build_79 ?_
        refine lv_iload hx hb dL_build_80 (lv_at hl 0 rfl) ?_
        refine lv_iadd hx hb dL_build_82 ?_
        refine lv_iload hx hb dL_build_83 (lv_at hl 2 rfl) ?_
        refine ncall_i hc hw (nrunS (n := 2) (As := [.int ((x5 >>> ((3 : Int32) &&& 31)) + (nI k)), .int (nI p)]) (rest := []) hc hw (metL_below l G _ (_) p (by omega)) gL_build_L_below rfl (by decide +kernel) ⟨Nat.le_of_ble_eq_true rfl, Nat.le_of_ble_eq_true rfl⟩ rfl rfl hl.1 (Nat.le_of_ble_eq_true rfl) dL_build_85 (by first | exact ⟨Nat.le_of_ble_eq_true rfl, Nat.le_of_ble_eq_true rfl⟩ | (refine ⟨?_, ?_⟩ <;> ((try dsimp only); omega)))) (fun x0 H locs hp hw => ?_)
        obtain ⟨y, hy, ej⟩ := hp
        subst ej
        refine lv_istore (lv' := [(7, .int (nI y)), (6, .int (nI k)), (5, .int x5), (4, .int (nI p)), (3, .int (nI n0)), (2, .ref aS), (0, .ref (a 0)), (1, .ref b)]) hx hb dL_build_88 hl (by decide) rfl (fun ls hl => ?_)
        refine lv_iconst (v := 1) hx hb dL_build_90 (by decide) ?_
        refine lv_iload hx hb dL_build_91 (lv_at hl 2 rfl) ?_
        refine lv_iconst (v := 5) hx hb dL_build_93 (by decide) ?_
        refine lv_ishr hx hb dL_build_94 ?_
        refine lv_iconst (v := 3) hx hb dL_build_95 (by decide) ?_
        refine lv_iload hx hb dL_build_96 (lv_at hl 1 rfl) ?_
        refine lv_imul hx hb dL_build_98 ?_
        refine lv_iadd hx hb dL_build_99 ?_
        refine lv_bipush (v := 9) hx hb dL_build_100 (by decide) ?_
        refine ncall_i hc hw (nrunS (n := 2) (As := [.int ((x5 >>> ((5 : Int32) &&& 31)) + (3 * (nI k))), .int 9]) (rest := [.int 1]) hc hw (metL_below l G _ (_) 9 (by decide)) gL_build_L_below rfl (by decide +kernel) ⟨Nat.le_of_ble_eq_true rfl, Nat.le_of_ble_eq_true rfl⟩ rfl rfl hl.1 (Nat.le_of_ble_eq_true rfl) dL_build_102 (by first | exact ⟨Nat.le_of_ble_eq_true rfl, Nat.le_of_ble_eq_true rfl⟩ | (refine ⟨?_, ?_⟩ <;> ((try dsimp only); omega)))) (fun x0 H locs hp hw => ?_)
        obtain ⟨k9, hk9, ej⟩ := hp
        subst ej
        obtain ⟨e4, e5, e6⟩ := l1k hk9 (by decide)
        obtain ⟨hx4, ea, he1, he2⟩ := hE2 p (by omega)
        obtain ⟨hy4, eb, hf1, hf2⟩ := hE2 y (by omega)
        refine lv_iadd hx hb dL_build_105 ?_
        refine lv_istore (lv' := [(8, .int (1 + (nI k9))), (7, .int (nI y)), (6, .int (nI k)), (5, .int x5), (4, .int (nI p)), (3, .int (nI n0)), (2, .ref aS), (0, .ref (a 0)), (1, .ref b)]) hx hb dL_build_106 hl (by decide) rfl (fun ls hl => ?_)
        refine lv_aload_n hx hb dL_build_108 rfl (lv_at hl 6 rfl) ?_
        refine pget (C := RX4) (T := TX4) (N := 14) (ci := 4) hc hw inL_build_X4 hO rfl 1 (by decide) lkL_build_f9 rfl rfl dL_build_109 ?_
        refine lv_iload hx hb dL_build_112 (lv_at hl 4 rfl) ?_
        refine pald hc hw hE1 p rfl (by omega) (by omega) (v := .ref ea) (by rw [he1]; rfl) dL_build_114 ?_
        refine plenI hc hw he2 dL_build_115 ?_
        refine lv_iconst (v := 4) hx hb dL_build_116 (by decide) ?_
        refine lv_icmp_eq (tgt := 160) hx hb dL_build_117 (by decide) (fun hz3 => ?_) (fun hz3 => ?_)
        · refine lv_iinc (v := nI (k + 1)) (lv' := [(6, .int (nI (k + 1))), (8, .int (1 + (nI k9))), (7, .int (nI y)), (5, .int x5), (4, .int (nI p)), (3, .int (nI n0)), (2, .ref aS), (0, .ref (a 0)), (1, .ref b)]) hx hb dL_build_160 hl (k := 2) rfl (nI_1 _) (by decide) rfl (fun ls hl => ?_)
          refine lv_goto (tgt := 58) hx hb dL_build_163 (by decide) ?_
          refine W.widen (k := C + 8 * (k + 1)) (n := S + 80 * (k + 1)) (by (try dsimp only); omega) (by (try dsimp only); omega) ?_
          exact ih (k + 1) (by omega) z r u L f H locs ls hz ⟨_, _, _, _, _, _, _, _, _, _, hB, hS⟩ (lv_sub hl [0, 3, 4, 5, 6, 7, 8] rfl) hw
        · refine lv_aload_n hx hb dL_build_120 rfl (lv_at hl 6 rfl) ?_
          refine pget (C := RX4) (T := TX4) (N := 14) (ci := 4) hc hw inL_build_X4 hO rfl 1 (by decide) lkL_build_f9 rfl rfl dL_build_121 ?_
          refine lv_iload hx hb dL_build_124 (lv_at hl 1 rfl) ?_
          refine pald hc hw hE1 y rfl (by omega) (by omega) (v := .ref eb) (by rw [hf1]; rfl) dL_build_126 ?_
          refine plenI hc hw hf2 dL_build_127 ?_
          refine lv_iconst (v := 4) hx hb dL_build_128 (by decide) ?_
          refine lv_icmp_ne (tgt := 135) hx hb dL_build_129 (by decide) (fun hz4 => ?_) (fun hz4 => ?_)
          · have g1 : xn p ≤ 3 := by
              have := cB_x4 hB (p := p) (by omega)
              rcases Nat.lt_or_ge (xn p) 4 with h | h
              · omega
              · exact absurd (show (nI (xn p) : Int32) = 4 by rw [show xn p = 4 by omega]; rfl) hz3
            have g2 : xn y ≤ 3 := by
              have := cB_x4 hB (p := y) (by omega)
              rcases Nat.lt_or_ge (xn y) 4 with h | h
              · omega
              · exact absurd (show (nI (xn y) : Int32) = 4 by rw [show xn y = 4 by omega]; rfl) hz4
            have hne : p ≠ y := by omega
            have g3 : nr ≤ 19 := by
              obtain ⟨rs, q, hA0⟩ := id hB
              exact a_nr hA0 (by omega) (by omega) hne g1 g2
            refine lv_aload_n hx hb dL_build_135 rfl (lv_at hl 7 rfl) ?_
            refine lv_iload hx hb dL_build_136 (lv_at hl 4 rfl) ?_
            refine lv_iload hx hb dL_build_138 (lv_at hl 1 rfl) ?_
            refine lv_iload hx hb dL_build_140 (lv_at hl 0 rfl) ?_
            refine ccall_i hc hw (crunV (n := 3) (As := [.int (nI p), .int (nI y), .int (1 + (nI k9))]) (rest := []) hc hw (kk_addRoad hst hB (x := p) (y := y) (by omega) (by omega) hne g1 g2 e6) gL_build_X3_addRoad rfl (by decide +kernel) ⟨Nat.le_of_ble_eq_true rfl, Nat.le_of_ble_eq_true rfl⟩ 0 rfl rfl rfl rfl hl.1 (Nat.le_of_ble_eq_true rfl) dL_build_142 (by first | exact ⟨Nat.le_of_ble_eq_true rfl, Nat.le_of_ble_eq_true rfl⟩ | (refine ⟨?_, ?_⟩ <;> ((try dsimp only); omega)))) (fun x0 w1 H locs hp hw => ?_)
            obtain ⟨z2, r2, u2⟩ := w1
            have hw : xW G A s.heap (cW G a z2 r2 u2 ++ va_pl L f) H locs := hw
            obtain ⟨ex, hB2, hr2⟩ := hp
            subst ex
            refine lv_aload_n hx hb dL_build_145 rfl (lv_at hl 6 rfl) ?_
            refine lv_iload hx hb dL_build_146 (lv_at hl 4 rfl) ?_
            refine lv_iload hx hb dL_build_148 (lv_at hl 1 rfl) ?_
            refine lv_iload hx hb dL_build_150 (lv_at hl 0 rfl) ?_
            refine pcall_i hc hw (prunV (n := 3) (As := [.int (nI p), .int (nI y), .int (1 + (nI k9))]) (rest := [.int (nI (xn p))]) hc hw (metS_road l G _ _ _ aS v (p + 1) xn xr nr rw _ ak wl wy mp mm hS p y _ (by omega) (by omega) hne hn4 g3 g1 g2) gL_build_X4_road rfl (by decide +kernel) ⟨Nat.le_of_ble_eq_true rfl, Nat.le_of_ble_eq_true rfl⟩ hO rfl rfl rfl hl.1 (Nat.le_of_ble_eq_true rfl) dL_build_152 (by first | exact ⟨Nat.le_of_ble_eq_true rfl, Nat.le_of_ble_eq_true rfl⟩ | (refine ⟨?_, ?_⟩ <;> ((try dsimp only); omega)))) (fun x6 L1 f1 H locs hp hw => ?_)
            obtain ⟨ex6, hS1⟩ := hp
            subst ex6
            refine lv_icmp_eq (tgt := 160) hx hb dL_build_155 (by decide) (fun hz5 => ?_) (fun h => absurd rfl h)
            refine lv_iinc (v := nI (k + 1)) (lv' := [(6, .int (nI (k + 1))), (8, .int (1 + (nI k9))), (7, .int (nI y)), (5, .int x5), (4, .int (nI p)), (3, .int (nI n0)), (2, .ref aS), (0, .ref (a 0)), (1, .ref b)]) hx hb dL_build_160 hl (k := 2) rfl (nI_1 _) (by decide) rfl (fun ls hl => ?_)
            refine lv_goto (tgt := 58) hx hb dL_build_163 (by decide) ?_
            refine W.widen (k := C + 8 * (k + 1)) (n := S + 80 * (k + 1)) (by (try dsimp only); omega) (by (try dsimp only); omega) ?_
            exact ih (k + 1) (by omega) z2 r2 u2 L1 f1 H locs ls (fun k9 h1 h2 => by rw [show r2 1 = r 1 from hr2]; exact hz k9 h1 h2) ⟨_, _, _, _, _, _, _, _, _, _, hB2, Sh_r hS1 hr2⟩ (lv_sub hl [0, 3, 4, 5, 6, 7, 8] rfl) hw
          · refine lv_goto (tgt := 160) hx hb dL_build_132 (by decide) ?_
            refine lv_iinc (v := nI (k + 1)) (lv' := [(6, .int (nI (k + 1))), (8, .int (1 + (nI k9))), (7, .int (nI y)), (5, .int x5), (4, .int (nI p)), (3, .int (nI n0)), (2, .ref aS), (0, .ref (a 0)), (1, .ref b)]) hx hb dL_build_160 hl (k := 2) rfl (nI_1 _) (by decide) rfl (fun ls hl => ?_)
            refine lv_goto (tgt := 58) hx hb dL_build_163 (by decide) ?_
            refine W.widen (k := C + 8 * (k + 1)) (n := S + 80 * (k + 1)) (by (try dsimp only); omega) (by (try dsimp only); omega) ?_
            exact ih (k + 1) (by omega) z r u L f H locs ls hz ⟨_, _, _, _, _, _, _, _, _, _, hB, hS⟩ (lv_sub hl [0, 3, 4, 5, 6, 7, 8] rfl) hw
set_option maxHeartbeats 40000000 in
set_option maxRecDepth 100000 in
theorem lpB_rest {pg : Program} {l : Launch} {e : Env} {s : State} {m : MethodId} {args : Array Value} {below : List Frame} {meth : Method} {c : Code} {Q : State → Prop} {G : xG} {A : Nat → Prop} (hst : l.stackTraces = false) {a : Nat → Nat} {aS b L0 : Nat} {xs : Nat → Int32} {ret : Option FieldType} (hc : xC pg s m args meth c cL_build 9 RL wsL_build ret G A) (hX : va_X b L0 xs s s.heap) (hbl : b < s.heap.size) (hbA : ¬ A b) (hL0 : L0 ≤ 1000) {p n0 : Nat} {C S : Nat} (hp : p < 10) (hCS : C ≤ 260 ∧ S ≤ 2600)
    (kx : ∀ (z : Nat → Int32) (r : Nat → Nat → Int32) (u : cU) (L : List Nat) (f : Nat → va_E) (H : Heap) (locs : List Loc) (ls : Array Slot), bI (p + 1) G aS z r L f → lv_has ls 9 [(4, .int (nI (p + 1))), (3, .int (nI n0)), (2, .ref aS), (0, .ref (a 0)), (1, .ref b)] → xW G A s.heap (cW G a z r u ++ va_pl L f) H locs → W pg l e ⟨8, 300, 3000, 130⟩ s m args below meth c H locs (C + 17) (S + 166) Q (F0 m 24 ls [])) (z : Nat → Int32) (r : Nat → Nat → Int32) (u : cU) (L : List Nat) (f : Nat → va_E) (H : Heap) (locs : List Loc) (ls : Array Slot) (hz : ∀ k, p ≤ k → k < 10 → r 1 k = 0) (hB : ∃ xn xr nr v rw ak wl wy mp mm, cB 0 0 z r (p + 1) xn xr nr v rw ak wl wy mp mm ∧ Sh G L f aS v (p + 1) xn xr nr rw (r 1) ak wl wy mp mm) (hl : lv_has ls 9 [(4, .int (nI p)), (3, .int (nI n0)), (2, .ref aS), (0, .ref (a 0)), (1, .ref b)]) (hw : xW G A s.heap (cW G a z r u ++ va_pl L f) H locs) : W pg l e ⟨8, 300, 3000, 130⟩ s m args below meth c H locs C S Q (F0 m 45 ls []) := by
  obtain ⟨hx, hb, -, hown, hts, -⟩ := id hc
  refine lv_aload_n hx hb dL_build_45 rfl (lv_at hl 4 rfl) ?_
  refine lv_iconst (v := 1) hx hb dL_build_46 (by decide) ?_
  refine lv_iload hx hb dL_build_47 (lv_at hl 0 rfl) ?_
  refine lv_iadd hx hb dL_build_49 ?_
  rw [show (1 : Int32) + nI p = nI (1 + p) from nI_add 1 p]
  refine ncall_i hc hw (nrunSs (n := 2) (As := [.ref b, .int (nI (1 + p))]) (rest := []) hc hw hX hbl hbA (metL_cell l G _ _ _ _ (1 + p) (by omega) hL0) gL_build_L_cell rfl (by decide +kernel) ⟨Nat.le_of_ble_eq_true rfl, Nat.le_of_ble_eq_true rfl⟩ rfl rfl hl.1 (Nat.le_of_ble_eq_true rfl) dL_build_50 (by first | exact ⟨Nat.le_of_ble_eq_true rfl, Nat.le_of_ble_eq_true rfl⟩ | (refine ⟨?_, ?_⟩ <;> ((try dsimp only); omega)))) (fun x5 H locs hp9 hw => ?_)
  refine lv_istore (lv' := [(5, .int x5), (4, .int (nI p)), (3, .int (nI n0)), (2, .ref aS), (0, .ref (a 0)), (1, .ref b)]) hx hb dL_build_53 hl (by decide) rfl (fun ls hl => ?_)
  refine lv_iconst (v := 0) hx hb dL_build_55 (by decide) ?_
  refine lv_istore (lv' := [(6, .int 0), (5, .int x5), (4, .int (nI p)), (3, .int (nI n0)), (2, .ref aS), (0, .ref (a 0)), (1, .ref b)]) hx hb dL_build_56 hl (by decide) rfl (fun ls hl => ?_)
  refine W.widen (k := C + 8 * 0) (n := S + 80 * 0) (by (try dsimp only); omega) (by (try dsimp only); omega) ?_
  refine lpB_roads (L0 := L0) (xs := xs) hst hc (C := C) (S := S) hp hCS (fun z r u L f H locs ls hz hB hl hw => ?_) 2 0 (by omega) z r u L f H locs ls hz hB (lv_sub hl [0, 1, 2, 3, 4, 5, 6] rfl) hw
  obtain ⟨xn, xr, nr, v, rw, ak, wl, wy, mp, mm, hB, hS⟩ := hB
  obtain ⟨hn1, hn2, hn3, hn4, hn5⟩ := cB_n hB
  refine lv_iload hx hb dL_build_166 (lv_at hl 0 rfl) ?_
  refine lv_bipush (v := 7) hx hb dL_build_168 (by decide) ?_
  refine lv_ishr hx hb dL_build_170 ?_
  refine lv_iconst (v := 4) hx hb dL_build_171 (by decide) ?_
  refine ncall_i hc hw (nrunS (n := 2) (As := [.int (x5 >>> ((7 : Int32) &&& 31)), .int 4]) (rest := []) hc hw (metL_below l G _ (_) 4 (by decide)) gL_build_L_below rfl (by decide +kernel) ⟨Nat.le_of_ble_eq_true rfl, Nat.le_of_ble_eq_true rfl⟩ rfl rfl hl.1 (Nat.le_of_ble_eq_true rfl) dL_build_172 (by first | exact ⟨Nat.le_of_ble_eq_true rfl, Nat.le_of_ble_eq_true rfl⟩ | (refine ⟨?_, ?_⟩ <;> ((try dsimp only); omega)))) (fun x0 H locs hp hw => ?_)
  obtain ⟨j, hj, ej⟩ := hp
  subst ej
  refine lv_if_le (tgt := 181) hx hb dL_build_175 (by decide) (fun hz6 => ?_) (fun hz6 => ?_)
  · obtain ⟨ad, oo, om, hO, hA⟩ := id hS
    obtain ⟨hZ1, hZ2, hZ3⟩ := hA.2.2.1
    have hO : objS L f aS 4 [.ref (ad 0), .ref (ad 1), .ref (ad 2), .ref (ad 3), .int (v 4), .int (v 5), .int (v 6), .ref (ad 4), .ref (ad 5), .int (v 9), .int (v 10), .int (v 11), .int (v 12), .int (v 13)] := hO
    have h0 : r 1 p = 0 := hz p (Nat.le_refl _) hp
    refine lv_aload_n hx hb dL_build_181 rfl (lv_at hl 3 rfl) ?_
    refine pget (C := RX4) (T := TX4) (N := 14) (ci := 4) hc hw inL_build_X4 hO rfl 2 (by decide) lkL_build_f46 rfl rfl dL_build_182 ?_
    refine lv_iload hx hb dL_build_185 (lv_at hl 1 rfl) ?_
    refine lv_iconst (v := 1) hx hb dL_build_187 (by decide) ?_
    refine pzst hc hw hZ1 p rfl (by omega) (by omega) rfl dL_build_188 (fun f H locs kp hrow hw => ?_)
    have hS1 : Sh G L f aS v (p + 1) xn xr nr rw (upd (r 1) p 1) ak wl wy mp mm := ⟨ad, oo, om, hO.kp kp (hO.neZ hZ1), hA.setSh kp hrow⟩
    refine lv_aload_n hx hb dL_build_189 rfl (lv_at hl 4 rfl) ?_
    refine lv_iload hx hb dL_build_190 (lv_at hl 1 rfl) ?_
    refine ccall_i hc hw (crunV (n := 1) (As := [.int (nI p)]) (rest := []) hc hw (kk_turnShep hst hB (p := p) (by omega)) gL_build_X3_turnShepherd rfl (by decide +kernel) ⟨Nat.le_of_ble_eq_true rfl, Nat.le_of_ble_eq_true rfl⟩ 0 rfl rfl rfl rfl hl.1 (Nat.le_of_ble_eq_true rfl) dL_build_192 (by first | exact ⟨Nat.le_of_ble_eq_true rfl, Nat.le_of_ble_eq_true rfl⟩ | (refine ⟨?_, ?_⟩ <;> ((try dsimp only); omega)))) (fun x0 w1 H locs hp hw => ?_)
    obtain ⟨z2, r2, u2⟩ := w1
    have hw : xW G A s.heap (cW G a z2 r2 u2 ++ va_pl L f) H locs := hw
    obtain ⟨ex, hB2, hr2⟩ := hp
    rw [if_pos h0] at ex hr2
    subst ex
    refine lv_if_ne (tgt := 200) hx hb dL_build_195 (by decide) (fun hz6 => ?_) (fun h => absurd h (by decide))
    refine lv_iinc (v := nI (p + 1)) (lv' := [(4, .int (nI (p + 1))), (5, .int x5), (3, .int (nI n0)), (2, .ref aS), (0, .ref (a 0)), (1, .ref b)]) hx hb dL_build_200 hl (k := 1) rfl (nI_1 _) (by decide) rfl (fun ls hl => ?_)
    refine lv_goto (tgt := 24) hx hb dL_build_203 (by decide) ?_
    refine W.widen (k := C + 17) (n := S + 166) (by (try dsimp only); omega) (by (try dsimp only); omega) ?_
    exact kx z2 r2 u2 L f H locs ls ⟨fun k h1 h2 => by rw [show r2 1 = upd (r 1) p 1 from hr2, pk_un (by omega)]; exact hz k (by omega) h2, Or.inr ⟨_, _, _, _, _, _, _, _, _, _, hB2, Sh_r hS1 hr2⟩⟩ (lv_sub hl [0, 2, 3, 4, 5] rfl) hw
  · refine lv_goto (tgt := 200) hx hb dL_build_178 (by decide) ?_
    refine lv_iinc (v := nI (p + 1)) (lv' := [(4, .int (nI (p + 1))), (5, .int x5), (3, .int (nI n0)), (2, .ref aS), (0, .ref (a 0)), (1, .ref b)]) hx hb dL_build_200 hl (k := 1) rfl (nI_1 _) (by decide) rfl (fun ls hl => ?_)
    refine lv_goto (tgt := 24) hx hb dL_build_203 (by decide) ?_
    refine W.widen (k := C + 17) (n := S + 166) (by (try dsimp only); omega) (by (try dsimp only); omega) ?_
    exact kx z r u L f H locs ls ⟨fun k h1 h2 => hz k (by omega) h2, Or.inr ⟨_, _, _, _, _, _, _, _, _, _, hB, hS⟩⟩ (lv_sub hl [0, 2, 3, 4, 5] rfl) hw
set_option maxHeartbeats 40000000 in
set_option maxRecDepth 100000 in
theorem lpB_places {pg : Program} {l : Launch} {e : Env} {s : State} {m : MethodId} {args : Array Value} {below : List Frame} {meth : Method} {c : Code} {Q : State → Prop} {G : xG} {A : Nat → Prop} (hst : l.stackTraces = false) {a : Nat → Nat} {aS b L0 : Nat} {xs : Nat → Int32} {ret : Option FieldType} (hc : xC pg s m args meth c cL_build 9 RL wsL_build ret G A) (hX : va_X b L0 xs s s.heap) (hbl : b < s.heap.size) (hbA : ¬ A b) (hL0 : L0 ≤ 1000) {n0 : Nat} (hn0 : 1 ≤ n0 ∧ n0 ≤ 10)
    (kx : ∀ (z : Nat → Int32) (r : Nat → Nat → Int32) (u : cU) (L : List Nat) (f : Nat → va_E) (H : Heap) (locs : List Loc) (ls : Array Slot), bI n0 G aS z r L f → lv_has ls 9 [(4, .int (nI n0)), (3, .int (nI n0)), (2, .ref aS), (0, .ref (a 0)), (1, .ref b)] → xW G A s.heap (cW G a z r u ++ va_pl L f) H locs → W pg l e ⟨8, 300, 3000, 130⟩ s m args below meth c H locs 300 3000 Q (F0 m 206 ls [])) :
    ∀ (d p : Nat), p + d = n0 → ∀ (z : Nat → Int32) (r : Nat → Nat → Int32) (u : cU) (L : List Nat) (f : Nat → va_E) (H : Heap) (locs : List Loc) (ls : Array Slot), bI p G aS z r L f → lv_has ls 9 [(4, .int (nI p)), (3, .int (nI n0)), (2, .ref aS), (0, .ref (a 0)), (1, .ref b)] → xW G A s.heap (cW G a z r u ++ va_pl L f) H locs → W pg l e ⟨8, 300, 3000, 130⟩ s m args below meth c H locs (20 + 20 * p) (150 + 220 * p) Q (F0 m 24 ls []) := by
  obtain ⟨hx, hb, -, hown, hts, -⟩ := id hc
  intro d
  induction d with
  | zero =>
    intro p hd z r u L f H locs ls hI hl hw
    have ep : p = n0 := by omega
    subst ep
    refine lv_iload hx hb dL_build_24 (lv_at hl 0 rfl) ?_
    refine lv_iload_n hx hb dL_build_26 rfl (lv_at hl 1 rfl) ?_
    refine lv_icmp_ge (tgt := 206) hx hb dL_build_27 (by decide) (fun hz => ?_) (fun h => absurd (nI_le (by omega) (by omega)) h)
    exact W.widen (k := 300) (n := 3000) (by (try dsimp only); omega) (by (try dsimp only); omega) (kx z r u L f H locs ls hI hl hw)
  | succ d ih =>
    intro p hd z r u L f H locs ls hI hl hw
    obtain ⟨v, xn, xr, nr, rw, ak, wl, wy, mp, mm, hS, hP⟩ := bI_place (l := l) (a := a) (u := u) hst (by omega) hI
    obtain ⟨ad, oo, om, hO, hA⟩ := id hS
    have hO : objS L f aS 4 [.ref (ad 0), .ref (ad 1), .ref (ad 2), .ref (ad 3), .int (v 4), .int (v 5), .int (v 6), .ref (ad 4), .ref (ad 5), .int (v 9), .int (v 10), .int (v 11), .int (v 12), .int (v 13)] := hO
    refine lv_iload hx hb dL_build_24 (lv_at hl 0 rfl) ?_
    refine lv_iload_n hx hb dL_build_26 rfl (lv_at hl 1 rfl) ?_
    refine lv_icmp_ge (tgt := 206) hx hb dL_build_27 (by decide) (fun h => absurd h (nI_ge (by omega) (by omega))) (fun hz => ?_)
    refine lv_aload_n hx hb dL_build_30 rfl (lv_at hl 2 rfl) ?_
    refine pcall_v hc hw (prunV (n := 0) (As := []) (rest := []) hc hw (metS_place l G _ _ _ aS v p xn xr nr rw _ ak wl wy mp mm hS (by omega)) gL_build_X4_place rfl (by decide +kernel) ⟨Nat.le_of_ble_eq_true rfl, Nat.le_of_ble_eq_true rfl⟩ hO rfl rfl rfl hl.1 (Nat.le_of_ble_eq_true rfl) dL_build_31 (by first | exact ⟨Nat.le_of_ble_eq_true rfl, Nat.le_of_ble_eq_true rfl⟩ | (refine ⟨?_, ?_⟩ <;> ((try dsimp only); omega)))) (fun L1 f1 H locs hp hw => ?_)
    have hP := hP H.size L1 f1 hp
    refine lv_aload_n hx hb dL_build_34 rfl (lv_at hl 3 rfl) ?_
    refine ccall_i hc hw (crunV (n := 0) (As := []) (rest := []) hc hw (hP) gL_build_X3_addPlace rfl (by decide +kernel) ⟨Nat.le_of_ble_eq_true rfl, Nat.le_of_ble_eq_true rfl⟩ 0 rfl rfl rfl rfl hl.1 (Nat.le_of_ble_eq_true rfl) dL_build_35 (by first | exact ⟨Nat.le_of_ble_eq_true rfl, Nat.le_of_ble_eq_true rfl⟩ | (refine ⟨?_, ?_⟩ <;> ((try dsimp only); omega)))) (fun x0 w1 H locs hp hw => ?_)
    obtain ⟨z2, r2, u2⟩ := w1
    have hw : xW G A s.heap (cW G a z2 r2 u2 ++ va_pl L1 f1) H locs := hw
    obtain ⟨ex, hz2, hB2⟩ := hp
    subst ex
    refine lv_iload hx hb dL_build_38 (lv_at hl 0 rfl) ?_
    refine lv_icmp_eq (tgt := 45) hx hb dL_build_40 (by decide) (fun hz9 => ?_) (fun h => absurd rfl h)
    refine lpB_rest hst hc hX hbl hbA hL0 (p := p) (n0 := n0) (by omega) (by (try dsimp only); omega) (fun z r u L f H locs ls hI hl hw => ?_) z2 r2 u2 L1 f1 H locs ls hz2 hB2 (lv_sub hl [0, 1, 2, 3, 4] rfl) hw
    refine W.widen (k := 20 + 20 * (p + 1)) (n := 150 + 220 * (p + 1)) (by (try dsimp only); omega) (by (try dsimp only); omega) ?_
    exact ih (p + 1) (by omega) z r u L f H locs ls hI hl hw
set_option maxHeartbeats 40000000 in
set_option maxRecDepth 100000 in
theorem metL_build (l : Launch) (G : xG) (hst : l.stackTraces = false) (sz : Nat) (a : Nat → Nat) (u : cU) (f0 : Nat → va_E) (b L0 : Nat) (xs : Nat → Int32) (hL0 : L0 ≤ 1000) : xMs l yL_build wsL_build ⟨8, 300, 3000, 130⟩ G [.ref (a 0), .ref b] b L0 xs (cW G a z00 r00 u ++ va_pl [] f0) sz (xQr G (cW G a z00 r00 u ++ va_pl [] f0) sz (fun q (w : lS) => lZ 0 0 G q w) (lWN G a)) := by
  refine xofs (own := RL) (cc := cL_build) (maxL := 9) (ret := (some (.object "MapCarrierLaw$Sim"))) rfl (by decide) rfl (Nat.le_of_ble_eq_true rfl) ?_
  intro pg en s mi below meth cd hc hnm hw hX hbl hbA ls hl
  obtain ⟨hx, hb, -, hown, hts, -⟩ := id hc
  have hl : lv_has ls 9 [(0, .ref (a 0)), (1, .ref b)] := hl
  refine xnew (C := RX4) (T := TX4) (N := 14) (ci := 4) hc hw inL_build_X4 tyX4 tyX4_ok [.null, .null, .null, .null, .int 0, .int 0, .int 0, .null, .null, .int 0, .int 0, .int 0, .int 0, .int 0] lkL_build_c10 lkL_build_ins lkL_build_ini rfl (by decide) (Nat.le_of_ble_eq_true rfl) (Nat.le_of_ble_eq_true rfl) dL_build_0 (fun q H hw => ?_)
  obtain ⟨hq, hw⟩ := ppush hw
  have hO : objS ([] ++ [q]) (va_up f0 q (.inr (4, [.null, .null, .null, .null, .int 0, .int 0, .int 0, .null, .null, .int 0, .int 0, .int 0, .int 0, .int 0]))) q 4 [.null, .null, .null, .null, .int 0, .int 0, .int 0, .null, .null, .int 0, .int 0, .int 0, .int 0, .int 0] := ⟨pmem [] q, va_up_self _ _ _⟩
  refine lv_dup hx hb dL_build_3 rfl ?_
  refine pcall_v hc hw (prunIN (host := "MapCarrierLaw") (n := 0) (As := []) (rest := [.ref q]) hc hw (metS_init l G _ _ _ q (fun _ => 0) (fun _ _ => 0) (fun _ _ => 0) (fun _ _ => 0) (fun _ _ _ => 0) hO) gL_build_X4_init_n103 (by decide +kernel) lkL_build_ini lkL_build_inm rfl rfl (by decide +kernel) ⟨Nat.le_of_ble_eq_true rfl, Nat.le_of_ble_eq_true rfl⟩ rfl rfl hl.1 (Nat.le_of_ble_eq_true rfl) dL_build_4 (by first | exact ⟨Nat.le_of_ble_eq_true rfl, Nat.le_of_ble_eq_true rfl⟩ | (refine ⟨?_, ?_⟩ <;> ((try dsimp only); omega)))) (fun L1 f1 H locs hS hw => ?_)
  refine lv_astore_n (lv' := [(2, .ref q), (0, .ref (a 0)), (1, .ref b)]) hx hb dL_build_7 rfl hl (by decide) rfl (fun ls hl => ?_)
  refine lv_iconst (v := 1) hx hb dL_build_8 (by decide) ?_
  refine lv_aload_n hx hb dL_build_9 rfl (lv_at hl 2 rfl) ?_
  refine lv_iconst (v := 0) hx hb dL_build_10 (by decide) ?_
  refine ncall_i hc hw (nrunSs (n := 2) (As := [.ref b, .int 0]) (rest := [.int 1]) hc hw hX hbl hbA (metL_cell l G _ _ _ _ 0 (by omega) hL0) gL_build_L_cell rfl (by decide +kernel) ⟨Nat.le_of_ble_eq_true rfl, Nat.le_of_ble_eq_true rfl⟩ rfl rfl hl.1 (Nat.le_of_ble_eq_true rfl) dL_build_11 (by first | exact ⟨Nat.le_of_ble_eq_true rfl, Nat.le_of_ble_eq_true rfl⟩ | (refine ⟨?_, ?_⟩ <;> ((try dsimp only); omega)))) (fun x5 H locs hp9 hw => ?_)
  refine lv_bipush (v := 10) hx hb dL_build_14 (by decide) ?_
  refine ncall_i hc hw (nrunS (n := 2) (As := [.int x5, .int 10]) (rest := [.int 1]) hc hw (metL_below l G _ (_) 10 (by decide)) gL_build_L_below rfl (by decide +kernel) ⟨Nat.le_of_ble_eq_true rfl, Nat.le_of_ble_eq_true rfl⟩ rfl rfl hl.1 (Nat.le_of_ble_eq_true rfl) dL_build_16 (by first | exact ⟨Nat.le_of_ble_eq_true rfl, Nat.le_of_ble_eq_true rfl⟩ | (refine ⟨?_, ?_⟩ <;> ((try dsimp only); omega)))) (fun x0 H locs hp hw => ?_)
  obtain ⟨k, hk, ej⟩ := hp
  subst ej
  obtain ⟨e1, e2, -⟩ := l1k hk (by decide)
  refine lv_iadd hx hb dL_build_19 ?_
  rw [e1]
  refine lv_istore_n (lv' := [(3, .int (nI (1 + k))), (2, .ref q), (0, .ref (a 0)), (1, .ref b)]) hx hb dL_build_20 rfl hl (by decide) rfl (fun ls hl => ?_)
  refine lv_iconst (v := 0) hx hb dL_build_21 (by decide) ?_
  refine lv_istore (lv' := [(4, .int 0), (3, .int (nI (1 + k))), (2, .ref q), (0, .ref (a 0)), (1, .ref b)]) hx hb dL_build_22 hl (by decide) rfl (fun ls hl => ?_)
  refine W.widen (k := 20 + 20 * 0) (n := 150 + 220 * 0) (Nat.le_of_ble_eq_true rfl) (Nat.le_of_ble_eq_true rfl) ?_
  refine lpB_places (aS := q) hst hc hX hbl hbA hL0 (n0 := 1 + k) (by omega) (fun z r u L f H locs ls hI hl hw => ?_) (1 + k) 0 (by omega) z00 r00 u L1 f1 H locs ls ⟨fun _ _ _ => rfl, Or.inl ⟨rfl, rfl, rfl, _, _, _, _, _, hS⟩⟩ (lv_sub hl [0, 1, 2, 3, 4] rfl) hw
  refine lv_aload_n hx hb dL_build_206 rfl (lv_at hl 2 rfl) ?_
  have hZ : lZ 0 0 G q (((z, r, u), (L, f)) : lS) := by
    rcases hI.2 with ⟨h0, -⟩ | ⟨xn, xr, nr, v, rw, ak, wl, wy, mp, mm, hB, hS⟩
    · omega
    · exact ⟨_, _, _, _, _, _, _, _, _, _, _, hB, hS⟩
  exact W.aret hc.1 hc.2.1 hc.2.2.2.2.2.1 (Or.inl ⟨_, rfl⟩) (Or.inr ⟨q, rfl⟩) (fun t ht hW => ⟨⟨some q, (((z, r, u), (L, f)) : lS), rfl, ⟨q, rfl, hZ⟩, by rw [ht]; exact hw.1, hw.2.1⟩, hw.2.2.F ht⟩) hw.2.2.2.2 dL_build_207 hc.2.2.2.2.2.2.1
