theorem inX4_over_X4 : ∀ w ∈ u_ws RX4 TX4 14, w ∈ wsX4_over := fun _ h => List.mem_cons_of_mem _ (List.mem_append_right _ h)
theorem lkX4_over_f29 : Cond.fieldLink RX4 29 "MapCarrierLaw$Sim" "goal" "I" ∈ wsX4_over := List.mem_of_getElem? (i := 1) (by decide +kernel)
theorem lkX4_over_c7 : Cond.classLink RX4 7 "[I" ∈ wsX4_over := List.mem_of_getElem? (i := 2) (by decide +kernel)
theorem lkX4_over_f32 : Cond.fieldLink RX4 32 "MapCarrierLaw$Sim" "way" "[[I" ∈ wsX4_over := List.mem_of_getElem? (i := 3) (by decide +kernel)
theorem lkX4_over_aZ : Cond.arrayClass .boolean ∈ wsX4_over := List.mem_of_getElem? (i := 4) (by decide +kernel)
theorem lkX4_over_f22 : Cond.fieldLink RX4 22 "MapCarrierLaw$Sim" "isAsked" "[Z" ∈ wsX4_over := List.mem_of_getElem? (i := 5) (by decide +kernel)
theorem lkX4_over_f9 : Cond.fieldLink RX4 9 "MapCarrierLaw$Sim" "roads" "[[I" ∈ wsX4_over := List.mem_of_getElem? (i := 6) (by decide +kernel)
theorem inX4_begin_X4 : ∀ w ∈ u_ws RX4 TX4 14, w ∈ wsX4_begin := fun _ h => List.mem_cons_of_mem _ (List.mem_append_right _ h)
theorem lkX4_begin_f25 : Cond.fieldLink RX4 25 "MapCarrierLaw$Sim" "where" "I" ∈ wsX4_begin := List.mem_of_getElem? (i := 1) (by decide +kernel)
theorem lkX4_begin_f29 : Cond.fieldLink RX4 29 "MapCarrierLaw$Sim" "goal" "I" ∈ wsX4_begin := List.mem_of_getElem? (i := 3) (by decide +kernel)
theorem lkX4_begin_f59 : Cond.fieldLink RX4 59 "MapCarrierLaw$Sim" "done" "I" ∈ wsX4_begin := List.mem_of_getElem? (i := 2) (by decide +kernel)
theorem lkX4_far_m76 : Cond.methodLink RX4 76 Lib.Math.min.name ∈ wsX4_far := List.mem_of_getElem? (i := 4) (by decide +kernel)
theorem lkX4_far_msmin : Cond.static Lib.Math.min.name ∈ wsX4_far := List.mem_of_getElem? (i := 5) (by decide +kernel)
theorem lkX4_far_mi : Cond.initialized "java/lang/Math" ∈ wsX4_far := List.mem_of_getElem? (i := 6) (by decide +kernel)
theorem lkX4_far_mcmin : Cond.code Lib.Math.min.name Lib.Math.min.code 2 (some .int) ∈ wsX4_far := List.mem_of_getElem? (i := 7) (by decide +kernel)
theorem inX4_far_X4 : ∀ w ∈ u_ws RX4 TX4 14, w ∈ wsX4_far := fun _ h => List.mem_cons_of_mem _ (List.mem_append_right _ h)
theorem lkX4_far_f9 : Cond.fieldLink RX4 9 "MapCarrierLaw$Sim" "roads" "[[I" ∈ wsX4_far := List.mem_of_getElem? (i := 3) (by decide +kernel)
theorem lkX4_far_f15 : Cond.fieldLink RX4 15 "MapCarrierLaw$Sim" "exits" "[[I" ∈ wsX4_far := List.mem_of_getElem? (i := 1) (by decide +kernel)
theorem lkX4_far_aI : Cond.arrayClass .int ∈ wsX4_far := List.mem_of_getElem? (i := 2) (by decide +kernel)
/-! the second carrier: the end and the start of an errand, miles between two places -/
set_option maxHeartbeats 40000000 in
set_option maxRecDepth 100000 in
theorem lpS_over {p : Program} {l : Launch} {e : Env} {R : Room} {s : State} {m : MethodId} {args : Array Value} {below : List Frame} {meth : Method} {c : Code} {cells slots : Nat} {Q : State → Prop} {ret : Option FieldType} {G : xG} {A : Nat → Prop} (hc : xC p s m args meth c cX4_over 5 RX4 wsX4_over ret G A) {L : List Nat} {aS : Nat} {fs : List Value} {ad : Nat → Nat} {oo om : Nat → Nat → Option Nat} {n : Nat} {xn : Nat → Nat} {xr : Nat → Nat → Int32} {nr : Nat} {rw : Nat → Nat → Int32} {sh ak : Nat → Int32} {wl : Nat} {wy : Nat → Nat → Int32} {mp : Nat → Nat → Bool} {mm : Nat → Nat → Nat → Int32} (hr20 : nr ≤ 20)
    (kx : ∀ (f : Nat → va_E) (H : Heap) (locs : List Loc) (ls : Array Slot), objS L f aS 4 fs → ShA G L f ad oo om n xn xr nr (sOv rw nr) sh ak wl wy mp mm → lv_has ls 5 [(2, .int (nI nr)), (1, .ref (ad 0)), (0, .ref aS)] → xW G A s.heap (([] : va_W) ++ va_pl L f) H locs → W p l e R s m args below meth c H locs cells slots Q (F0 m 52 ls [])) :
    ∀ (d i : Nat), i + d = nr → ∀ (f : Nat → va_E) (H : Heap) (locs : List Loc) (ls : Array Slot), objS L f aS 4 fs → ShA G L f ad oo om n xn xr nr (sOv rw i) sh ak wl wy mp mm → lv_has ls 5 [(3, .int (nI i)), (2, .int (nI nr)), (1, .ref (ad 0)), (0, .ref aS)] → xW G A s.heap (([] : va_W) ++ va_pl L f) H locs → W p l e R s m args below meth c H locs cells slots Q (F0 m 31 ls []) := by
  obtain ⟨hx, hb, -, hown, hts, -⟩ := id hc
  intro d
  induction d with
  | zero =>
    intro i hd f H locs ls hO hA hl hw
    refine lv_iload_n hx hb dX4_over_31 rfl (lv_at hl 0 rfl) ?_
    refine lv_iload_n hx hb dX4_over_32 rfl (lv_at hl 1 rfl) ?_
    refine lv_icmp_ge (tgt := 52) hx hb dX4_over_33 (by decide) (fun hz => ?_) (fun h => absurd (nI_le (by omega) (by omega)) h)
    have ei : i = nr := by omega
    subst ei
    exact kx f H locs ls hO hA (lv_sub hl [1, 2, 3] rfl) hw
  | succ d ih =>
    intro i hd f H locs ls hO hA hl hw
    obtain ⟨hR1, hR2, hR3⟩ := hA.1
    obtain ⟨b, hb1, hb2⟩ := hR2 i (by omega)
    refine lv_iload_n hx hb dX4_over_31 rfl (lv_at hl 0 rfl) ?_
    refine lv_iload_n hx hb dX4_over_32 rfl (lv_at hl 1 rfl) ?_
    refine lv_icmp_ge (tgt := 52) hx hb dX4_over_33 (by decide) (fun h => absurd h (nI_ge (by omega) (by omega))) (fun hz => ?_)
    refine lv_aload_n hx hb dX4_over_36 rfl (lv_at hl 2 rfl) ?_
    refine lv_iload_n hx hb dX4_over_37 rfl (lv_at hl 0 rfl) ?_
    refine pald hc hw hR1 i rfl (by omega) (by omega) (v := .ref b) (by rw [hb1]; rfl) dX4_over_38 ?_
    refine lv_astore (lv' := [(4, .ref b), (3, .int (nI i)), (2, .int (nI nr)), (1, .ref (ad 0)), (0, .ref aS)]) hx hb dX4_over_39 hl (by decide) rfl (fun ls hl => ?_)
    refine lv_aload hx hb dX4_over_41 (lv_at hl 0 rfl) ?_
    refine lv_iconst (v := 4) hx hb dX4_over_43 (by decide) ?_
    refine lv_iconst (v := 0) hx hb dX4_over_44 (by decide) ?_
    refine pist hc hw hb2 4 rfl (by decide) (by omega) dX4_over_45 (fun f H locs k r9 hw => ?_)
    refine lv_iinc (v := nI (i + 1)) (lv' := [(3, .int (nI (i + 1))), (4, .ref b), (2, .int (nI nr)), (1, .ref (ad 0)), (0, .ref aS)]) hx hb dX4_over_46 hl (k := 1) rfl (nI_1 _) (by decide) rfl (fun ls hl => ?_)
    refine lv_goto (tgt := 31) hx hb dX4_over_49 (by decide) ?_
    refine ih (i + 1) (by omega) f H locs ls (hO.kp k (hO.neI hb2)) ?_ (lv_sub hl [0, 2, 3, 4] rfl) hw
    have := hA.setRoad (k := i) (by omega) hb1 k r9
    rw [sOv_s] at this
    exact this
set_option maxHeartbeats 40000000 in
set_option maxRecDepth 100000 in
theorem metS_over (l : Launch) (G : xG) (sz : Nat) (L : List Nat) (f : Nat → va_E) (aS : Nat) (v : Nat → Int32) (n : Nat) (xn : Nat → Nat) (xr : Nat → Nat → Int32) (nr : Nat) (rw : Nat → Nat → Int32) (sh ak : Nat → Int32) (wl : Nat) (wy : Nat → Nat → Int32) (mp : Nat → Nat → Bool) (mm : Nat → Nat → Nat → Int32) (S : Sh G L f aS v n xn xr nr rw sh ak wl wy mp mm) (hr20 : nr ≤ 20) : pMv l yX4_over wsX4_over ⟨0, 2, 10, 0⟩ G [.ref aS] L f sz (fun u => Sh G u.1 u.2 aS (upd v 6 (-1)) n xn xr nr (sOv rw nr) sh (fun _ => 0) 0 wy mp mm) := by
  obtain ⟨ad, oo, om, hO, hA⟩ := S
  have hO : objS L f aS 4 [.ref (ad 0), .ref (ad 1), .ref (ad 2), .ref (ad 3), .int (v 4), .int (v 5), .int (v 6), .ref (ad 4), .ref (ad 5), .int (v 9), .int (v 10), .int (v 11), .int (v 12), .int (v 13)] := hO
  refine xof (own := RX4) (cc := cX4_over) (maxL := 5) (ret := none) rfl (by decide) rfl (Nat.le_of_ble_eq_true rfl) ?_
  intro pg en s mi below meth cd hc hnm hw ls hl
  obtain ⟨hx, hb, -, hown, hts, -⟩ := id hc
  have hl : lv_has ls 5 [(0, .ref aS)] := hl
  have hw : xW G _ s.heap (([] : va_W) ++ va_pl L f) s.heap [] := hw
  refine lv_aload_n hx hb dX4_over_0 rfl (lv_at hl 0 rfl) ?_
  refine lv_iconst (v := (-1)) hx hb dX4_over_1 (by decide) ?_
  refine pput (C := RX4) (T := TX4) (N := 14) (ci := 4) (ty := .int) hc hw inX4_over_X4 tyX4 tyX4_ok nmX4 hO rfl 6 (by decide) lkX4_over_f29 rfl rfl rfl rfl (Nat.le_of_ble_eq_true rfl) [.ref (ad 0), .ref (ad 1), .ref (ad 2), .ref (ad 3), .int (v 4), .int (v 5), .int (-1), .ref (ad 4), .ref (ad 5), .int (v 9), .int (v 10), .int (v 11), .int (v 12), .int (v 13)] rfl dX4_over_2 (fun f H locs k1 hO1 hw => ?_)
  have hA := hA.obj hO k1
  have hO := hO1
  refine lv_aload_n hx hb dX4_over_5 rfl (lv_at hl 0 rfl) ?_
  refine lv_iconst (v := 0) hx hb dX4_over_6 (by decide) ?_
  refine pnewA hc hw 0 rfl (by omega) lkX4_over_c7 (by first | exact Nat.le_of_ble_eq_true rfl | ((try dsimp only); omega)) (by first | exact Nat.le_of_ble_eq_true rfl | ((try dsimp only); omega)) dX4_over_7 (fun q L1 f1 H hq k2 r2 hw => ?_)
  obtain ⟨⟨n0, n1, n2, n3, n4, n5⟩, n6⟩ := hA.nin hq
  have hO := hO.kp k2 (fun z => z)
  have hA := hA.fresh k2
  refine pput (C := RX4) (T := TX4) (N := 14) (ci := 4) (ty := .int) hc hw inX4_over_X4 tyX4 tyX4_ok nmX4 hO rfl 7 (by decide) lkX4_over_f32 rfl rfl rfl rfl (Nat.le_of_ble_eq_true rfl) [.ref (ad 0), .ref (ad 1), .ref (ad 2), .ref (ad 3), .int (v 4), .int (v 5), .int (-1), .ref q, .ref (ad 5), .int (v 9), .int (v 10), .int (v 11), .int (v 12), .int (v 13)] rfl dX4_over_10 (fun f H locs k3 hO3 hw => ?_)
  have r2 := r2.kp k3 (hO.neA r2).symm
  have hA := hA.obj hO k3
  have hO := hO3
  have hA := hA.newW (q := q) (wl1 := 0) (o1 := fun _ => none) (wy1 := wy) ⟨r2, fun k hk => absurd hk (Nat.not_lt_zero _)⟩ n1.symm n6
  refine lv_aload_n hx hb dX4_over_13 rfl (lv_at hl 0 rfl) ?_
  refine lv_bipush (v := 10) hx hb dX4_over_14 (by decide) ?_
  refine pnewZ hc hw 10 rfl (by omega) lkX4_over_aZ (by first | exact Nat.le_of_ble_eq_true rfl | ((try dsimp only); omega)) (by first | exact Nat.le_of_ble_eq_true rfl | ((try dsimp only); omega)) dX4_over_16 (fun z L2 f2 H hz k4 r4 hw => ?_)
  obtain ⟨⟨z0, z1, z2, z3, z4, z5⟩, z6⟩ := hA.nin hz
  have hO := hO.kp k4 (fun z => z)
  have hA := hA.fresh k4
  refine pput (C := RX4) (T := TX4) (N := 14) (ci := 4) (ty := .int) hc hw inX4_over_X4 tyX4 tyX4_ok nmX4 hO rfl 3 (by decide) lkX4_over_f22 rfl rfl rfl rfl (Nat.le_of_ble_eq_true rfl) [.ref (ad 0), .ref (ad 1), .ref (ad 2), .ref z, .int (v 4), .int (v 5), .int (-1), .ref q, .ref (ad 5), .int (v 9), .int (v 10), .int (v 11), .int (v 12), .int (v 13)] rfl dX4_over_18 (fun f H locs k5 hO5 hw => ?_)
  have r4 := r4.kp k5 (hO.neZ r4).symm
  have hA := hA.obj hO k5
  have hO := hO5
  have hA := hA.newAk (q := z) r4 z2.symm
  refine lv_aload_n hx hb dX4_over_21 rfl (lv_at hl 0 rfl) ?_
  refine pget (C := RX4) (T := TX4) (N := 14) (ci := 4) hc hw inX4_over_X4 hO rfl 0 (by decide) lkX4_over_f9 rfl rfl dX4_over_22 ?_
  refine lv_astore_n (lv' := [(1, .ref (ad 0)), (0, .ref aS)]) hx hb dX4_over_25 rfl hl (by decide) rfl (fun ls hl => ?_)
  refine lv_aload_n hx hb dX4_over_26 rfl (lv_at hl 0 rfl) ?_
  refine plenA hc hw hA.1.1 dX4_over_27 ?_
  refine lv_istore_n (lv' := [(2, .int (nI nr)), (1, .ref (ad 0)), (0, .ref aS)]) hx hb dX4_over_28 rfl hl (by decide) rfl (fun ls hl => ?_)
  refine lv_iconst (v := 0) hx hb dX4_over_29 (by decide) ?_
  refine lv_istore_n (lv' := [(3, .int 0), (2, .int (nI nr)), (1, .ref (ad 0)), (0, .ref aS)]) hx hb dX4_over_30 rfl hl (by decide) rfl (fun ls hl => ?_)
  refine lpS_over (ad := va_up (va_up ad 4 q) 3 z) hc hr20 (fun f H locs ls hO hA hl hw => ?_) nr 0 (by omega) f _ _ ls hO (by rw [sOv_0]; exact hA) hl hw
  exact pret_v hc hw (⟨va_up (va_up ad 4 q) 3 z, _, _, hO, hA⟩) (by first | exact ⟨Nat.le_of_ble_eq_true rfl, Nat.le_of_ble_eq_true rfl⟩ | (refine ⟨?_, ?_⟩ <;> ((try dsimp only); omega))) dX4_over_52
set_option maxHeartbeats 40000000 in
set_option maxRecDepth 100000 in
theorem metS_begin (l : Launch) (G : xG) (sz : Nat) (L : List Nat) (f : Nat → va_E) (aS : Nat) (v : Nat → Int32) (n : Nat) (xn : Nat → Nat) (xr : Nat → Nat → Int32) (nr : Nat) (rw : Nat → Nat → Int32) (sh ak : Nat → Int32) (wl : Nat) (wy : Nat → Nat → Int32) (mp : Nat → Nat → Bool) (mm : Nat → Nat → Nat → Int32) (S : Sh G L f aS v n xn xr nr rw sh ak wl wy mp mm) (hr20 : nr ≤ 20) (g : Nat) : pMi l yX4_begin wsX4_begin ⟨1, 2, 10, 24⟩ G [.ref aS, .int (nI g)] L f sz (fun r u => (nI g = v 4 → r = 0 ∧ Sh G u.1 u.2 aS (upd v 11 (v 11 + 1)) n xn xr nr rw sh ak wl wy mp mm) ∧ (¬ nI g = v 4 → r = 1 ∧ Sh G u.1 u.2 aS (upd v 6 (nI g)) n xn xr nr (sOv rw nr) sh (fun _ => 0) 0 wy mp mm)) := by
  obtain ⟨ad, oo, om, hO, hA⟩ := S
  have hO : objS L f aS 4 [.ref (ad 0), .ref (ad 1), .ref (ad 2), .ref (ad 3), .int (v 4), .int (v 5), .int (v 6), .ref (ad 4), .ref (ad 5), .int (v 9), .int (v 10), .int (v 11), .int (v 12), .int (v 13)] := hO
  refine xof (own := RX4) (cc := cX4_begin) (maxL := 2) (ret := (some .boolean)) rfl (by decide) rfl (Nat.le_of_ble_eq_true rfl) ?_
  intro pg en s mi below meth cd hc hnm hw ls hl
  obtain ⟨hx, hb, -, hown, hts, -⟩ := id hc
  have hl : lv_has ls 2 [(0, .ref aS), (1, .int (nI g))] := hl
  have hw : xW G _ s.heap (([] : va_W) ++ va_pl L f) s.heap [] := hw
  refine lv_iload_n hx hb dX4_begin_0 rfl (lv_at hl 1 rfl) ?_
  refine lv_aload_n hx hb dX4_begin_1 rfl (lv_at hl 0 rfl) ?_
  refine pget (C := RX4) (T := TX4) (N := 14) (ci := 4) hc hw inX4_begin_X4 hO rfl 4 (by decide) lkX4_begin_f25 rfl rfl dX4_begin_2 ?_
  refine lv_icmp_ne (tgt := 20) hx hb dX4_begin_5 (by decide) (fun hz => ?_) (fun hz => ?_)
  · refine lv_aload_n hx hb dX4_begin_20 rfl (lv_at hl 0 rfl) ?_
    refine pcall_v hc hw (prunV (n := 0) (As := []) (rest := []) hc hw (metS_over l G _ _ _ aS _ _ _ _ _ _ _ _ _ _ _ _ ⟨ad, oo, om, hO, hA⟩ hr20) gX4_begin_X4_over rfl (by decide +kernel) ⟨Nat.le_of_ble_eq_true rfl, Nat.le_of_ble_eq_true rfl⟩ hO rfl rfl rfl hl.1 (Nat.le_of_ble_eq_true rfl) dX4_begin_21 (by first | exact ⟨Nat.le_of_ble_eq_true rfl, Nat.le_of_ble_eq_true rfl⟩ | (refine ⟨?_, ?_⟩ <;> ((try dsimp only); omega)))) (fun L1 f H locs hp hw => ?_)
    obtain ⟨ad, oo, om, hO, hA⟩ := hp
    have hO : objS L1 f aS 4 [.ref (ad 0), .ref (ad 1), .ref (ad 2), .ref (ad 3), .int (v 4), .int (v 5), .int (-1), .ref (ad 4), .ref (ad 5), .int (v 9), .int (v 10), .int (v 11), .int (v 12), .int (v 13)] := hO
    refine lv_aload_n hx hb dX4_begin_24 rfl (lv_at hl 0 rfl) ?_
    refine lv_iload_n hx hb dX4_begin_25 rfl (lv_at hl 1 rfl) ?_
    refine pput (C := RX4) (T := TX4) (N := 14) (ci := 4) (ty := .int) hc hw inX4_begin_X4 tyX4 tyX4_ok nmX4 hO rfl 6 (by decide) lkX4_begin_f29 rfl rfl rfl rfl (Nat.le_of_ble_eq_true rfl) [.ref (ad 0), .ref (ad 1), .ref (ad 2), .ref (ad 3), .int (v 4), .int (v 5), .int (nI g), .ref (ad 4), .ref (ad 5), .int (v 9), .int (v 10), .int (v 11), .int (v 12), .int (v 13)] rfl dX4_begin_26 (fun f H locs k1 hO1 hw => ?_)
    have hA := hA.obj hO k1
    have hO := hO1
    refine lv_iconst (v := 1) hx hb dX4_begin_29 (by decide) ?_
    exact pret_z hc hw rfl (⟨fun h => absurd h hz, fun _ => ⟨rfl, _, _, _, hO, hA⟩⟩) (by first | exact ⟨Nat.le_of_ble_eq_true rfl, Nat.le_of_ble_eq_true rfl⟩ | (refine ⟨?_, ?_⟩ <;> ((try dsimp only); omega))) dX4_begin_30
  · refine lv_aload_n hx hb dX4_begin_8 rfl (lv_at hl 0 rfl) ?_
    refine lv_dup hx hb dX4_begin_9 rfl ?_
    refine pget (C := RX4) (T := TX4) (N := 14) (ci := 4) hc hw inX4_begin_X4 hO rfl 11 (by decide) lkX4_begin_f59 rfl rfl dX4_begin_10 ?_
    refine lv_iconst (v := 1) hx hb dX4_begin_13 (by decide) ?_
    refine lv_iadd hx hb dX4_begin_14 ?_
    refine pput (C := RX4) (T := TX4) (N := 14) (ci := 4) (ty := .int) hc hw inX4_begin_X4 tyX4 tyX4_ok nmX4 hO rfl 11 (by decide) lkX4_begin_f59 rfl rfl rfl rfl (Nat.le_of_ble_eq_true rfl) [.ref (ad 0), .ref (ad 1), .ref (ad 2), .ref (ad 3), .int (v 4), .int (v 5), .int (v 6), .ref (ad 4), .ref (ad 5), .int (v 9), .int (v 10), .int (v 11 + 1), .int (v 12), .int (v 13)] rfl dX4_begin_15 (fun f H locs k1 hO1 hw => ?_)
    have hA := hA.obj hO k1
    have hO := hO1
    refine lv_iconst (v := 0) hx hb dX4_begin_18 (by decide) ?_
    exact pret_z hc hw rfl (⟨fun _ => ⟨rfl, _, _, _, hO, hA⟩, fun h => absurd hz h⟩) (by first | exact ⟨Nat.le_of_ble_eq_true rfl, Nat.le_of_ble_eq_true rfl⟩ | (refine ⟨?_, ?_⟩ <;> ((try dsimp only); omega))) dX4_begin_19
def sMin (x y : Int32) : Int32 := if y < x then y else x
def sD0 (q : Int32) : Nat → Int32 := fun j => if nI j = q then 0 else 9999
/-- one road is looked at, both ways -/
def sRx (g : Nat → Int32) (d : Nat → Int32) : Nat → Int32 := if g 3 = 0 then d else
  upd (upd d (g 0).toNatClampNeg (sMin (d (g 0).toNatClampNeg) (d (g 1).toNatClampNeg + g 2))) (g 1).toNatClampNeg (sMin (upd d (g 0).toNatClampNeg (sMin (d (g 0).toNatClampNeg) (d (g 1).toNatClampNeg + g 2)) (g 1).toNatClampNeg) (upd d (g 0).toNatClampNeg (sMin (d (g 0).toNatClampNeg) (d (g 1).toNatClampNeg + g 2)) (g 0).toNatClampNeg + g 2))
def sPs (rw : Nat → Nat → Int32) : Nat → (Nat → Int32) → Nat → Int32
  | 0, d => d
  | k + 1, d => sRx (rw k) (sPs rw k d)
def sRs (rw : Nat → Nat → Int32) (nr : Nat) : Nat → (Nat → Int32) → Nat → Int32
  | 0, d => d
  | k + 1, d => sPs rw nr (sRs rw nr k d)
def sFar (rw : Nat → Nat → Int32) (nr n : Nat) (q x : Int32) : Int32 := sMin 9999 (sRs rw nr n (sD0 q) x.toNatClampNeg)
set_option maxHeartbeats 40000000 in
set_option maxRecDepth 100000 in
theorem lpS_farA {p : Program} {l : Launch} {e : Env} {R : Room} {s : State} {m : MethodId} {args : Array Value} {below : List Frame} {meth : Method} {c : Code} {cells slots : Nat} {Q : State → Prop} {ret : Option FieldType} {G : xG} {A : Nat → Prop} (hc : xC p s m args meth c cX4_far 9 RX4 wsX4_far ret G A) {L : List Nat} {aS : Nat} {ad : Nat → Nat} {oo om : Nat → Nat → Option Nat} {v : Nat → Int32} {n : Nat} {xn : Nat → Nat} {xr : Nat → Nat → Int32} {nr : Nat} {rw : Nat → Nat → Int32} {sh ak : Nat → Int32} {wl : Nat} {wy : Nat → Nat → Int32} {mp : Nat → Nat → Bool} {mm : Nat → Nat → Nat → Int32} {f0 : Nat → va_E} {q x : Int32} {r : Nat} (hn : n ≤ 10)
    (kx : ∀ (f : Nat → va_E) (H : Heap) (locs : List Loc) (ls : Array Slot), rowI G L f r n (fun j => if j < n then sD0 q j else 0) → pk (fun b => b = r) L f0 L f → lv_has ls 9 [(3, .ref r), (0, .ref aS), (1, .int q), (2, .int x)] → xW G A s.heap (([] : va_W) ++ va_pl L f) H locs → W p l e R s m args below meth c H locs cells slots Q (F0 m 41 ls [])) :
    ∀ (d i : Nat), i + d = n → ∀ (f : Nat → va_E) (H : Heap) (locs : List Loc) (ls : Array Slot), rowI G L f r n (fun j => if j < i then sD0 q j else 0) → pk (fun b => b = r) L f0 L f → lv_has ls 9 [(4, .int (nI i)), (3, .ref r), (0, .ref aS), (1, .int q), (2, .int x)] → xW G A s.heap (([] : va_W) ++ va_pl L f) H locs → W p l e R s m args below meth c H locs cells slots Q (F0 m 11 ls []) := by
  obtain ⟨hx, hb, -, hown, hts, -⟩ := id hc
  intro d
  induction d with
  | zero =>
    intro i hd f H locs ls hr k0 hl hw
    refine lv_iload hx hb dX4_far_11 (lv_at hl 0 rfl) ?_
    refine lv_aload_n hx hb dX4_far_13 rfl (lv_at hl 1 rfl) ?_
    refine plenI hc hw hr dX4_far_14 ?_
    refine lv_icmp_ge (tgt := 41) hx hb dX4_far_15 (by decide) (fun hz => ?_) (fun h => absurd (nI_le (by omega) (by omega)) h)
    have ei : i = n := by omega
    subst ei
    exact kx f H locs ls hr k0 (lv_sub hl [1, 2, 3, 4] rfl) hw
  | succ d ih =>
    intro i hd f H locs ls hr k0 hl hw
    refine lv_iload hx hb dX4_far_11 (lv_at hl 0 rfl) ?_
    refine lv_aload_n hx hb dX4_far_13 rfl (lv_at hl 1 rfl) ?_
    refine plenI hc hw hr dX4_far_14 ?_
    refine lv_icmp_ge (tgt := 41) hx hb dX4_far_15 (by decide) (fun h => absurd h (nI_ge (by omega) (by omega))) (fun hz => ?_)
    refine lv_aload_n hx hb dX4_far_18 rfl (lv_at hl 1 rfl) ?_
    refine lv_iload hx hb dX4_far_19 (lv_at hl 0 rfl) ?_
    refine lv_iload hx hb dX4_far_21 (lv_at hl 0 rfl) ?_
    refine lv_iload_n hx hb dX4_far_23 rfl (lv_at hl 3 rfl) ?_
    refine lv_icmp_ne (tgt := 31) hx hb dX4_far_24 (by decide) (fun hz => ?_) (fun hz => ?_)
    · refine lv_sipush (v := 9999) hx hb dX4_far_31 (by decide) ?_
      refine pist hc hw hr i rfl (by omega) (by omega) dX4_far_34 (fun f H locs k r9 hw => ?_)
      refine lv_iinc (v := nI (i + 1)) (lv' := [(4, .int (nI (i + 1))), (3, .ref r), (0, .ref aS), (1, .int q), (2, .int x)]) hx hb dX4_far_35 hl (k := 0) rfl (nI_1 _) (by decide) rfl (fun ls hl => ?_)
      refine lv_goto (tgt := 11) hx hb dX4_far_38 (by decide) ?_
      refine ih (i + 1) (by omega) f H locs ls (r9.cg (fun j hj => ?_)) (k0.tr k) hl hw
      show upd (fun j => if j < i then sD0 q j else 0) i 9999 j = if j < i + 1 then sD0 q j else 0
      by_cases ej : j = i
      · subst ej; rw [pk_us, if_pos (Nat.lt_succ_self _)]; unfold sD0; rw [if_neg hz]
      · rw [pk_un ej]
        by_cases d : j < i
        · rw [if_pos d, if_pos (by omega)]
        · rw [if_neg d, if_neg (by omega)]
    · refine lv_iconst (v := 0) hx hb dX4_far_27 (by decide) ?_
      refine lv_goto (tgt := 34) hx hb dX4_far_28 (by decide) ?_
      refine pist hc hw hr i rfl (by omega) (by omega) dX4_far_34 (fun f H locs k r9 hw => ?_)
      refine lv_iinc (v := nI (i + 1)) (lv' := [(4, .int (nI (i + 1))), (3, .ref r), (0, .ref aS), (1, .int q), (2, .int x)]) hx hb dX4_far_35 hl (k := 0) rfl (nI_1 _) (by decide) rfl (fun ls hl => ?_)
      refine lv_goto (tgt := 11) hx hb dX4_far_38 (by decide) ?_
      refine ih (i + 1) (by omega) f H locs ls (r9.cg (fun j hj => ?_)) (k0.tr k) hl hw
      show upd (fun j => if j < i then sD0 q j else 0) i 0 j = if j < i + 1 then sD0 q j else 0
      by_cases ej : j = i
      · subst ej; rw [pk_us, if_pos (Nat.lt_succ_self _)]; unfold sD0; rw [if_pos hz]
      · rw [pk_un ej]
        by_cases d : j < i
        · rw [if_pos d, if_pos (by omega)]
        · rw [if_neg d, if_neg (by omega)]
set_option maxHeartbeats 40000000 in
set_option maxRecDepth 100000 in
theorem lpS_farB {p : Program} {l : Launch} {e : Env} {R : Room} {s : State} {m : MethodId} {args : Array Value} {below : List Frame} {meth : Method} {c : Code} {cells slots : Nat} {Q : State → Prop} {ret : Option FieldType} {G : xG} {A : Nat → Prop} (hc : xC p s m args meth c cX4_far 9 RX4 wsX4_far ret G A) {L : List Nat} {aS : Nat} {ad : Nat → Nat} {oo om : Nat → Nat → Option Nat} {v : Nat → Int32} {n : Nat} {xn : Nat → Nat} {xr : Nat → Nat → Int32} {nr : Nat} {rw : Nat → Nat → Int32} {sh ak : Nat → Int32} {wl : Nat} {wy : Nat → Nat → Int32} {mp : Nat → Nat → Bool} {mm : Nat → Nat → Nat → Int32} {f0 : Nat → va_E} {d0 : Nat → Int32} {q x : Int32} {r t : Nat} (hX : sX n xn xr nr rw) (hR1 : rowA G L f0 (ad 0) nr (oo 0)) (hR2 : ∀ k, k < nr → ∃ a, oo 0 k = some a ∧ rowI G L f0 a 5 (rw k)) (hne : ¬ ad 0 = r) (hr0 : ∀ k a, k < nr → oo 0 k = some a → ¬ a = r) (hRf : 1 ≤ R.frames) (hRl : 20 ≤ R.locals) (hRc : cells ≤ R.cells ∧ slots ≤ R.slots)
    (kx : ∀ (f : Nat → va_E) (H : Heap) (locs : List Loc) (ls : Array Slot), rowI G L f r n (sPs rw nr d0) → pk (fun b => b = r) L f0 L f → lv_has ls 9 [(4, .int (nI t)), (3, .ref r), (0, .ref aS), (1, .int q), (2, .int x)] → xW G A s.heap (([] : va_W) ++ va_pl L f) H locs → W p l e R s m args below meth c H locs cells slots Q (F0 m 147 ls [])) :
    ∀ (d i : Nat), i + d = nr → ∀ (f : Nat → va_E) (H : Heap) (locs : List Loc) (ls : Array Slot), rowI G L f r n (sPs rw i d0) → pk (fun b => b = r) L f0 L f → lv_has ls 9 [(7, .int (nI i)), (6, .int (nI nr)), (5, .ref (ad 0)), (4, .int (nI t)), (3, .ref r), (0, .ref aS), (1, .int q), (2, .int x)] → xW G A s.heap (([] : va_W) ++ va_pl L f) H locs → W p l e R s m args below meth c H locs cells slots Q (F0 m 65 ls []) := by
  obtain ⟨hx, hb, -, hown, hts, -⟩ := id hc
  intro d
  induction d with
  | zero =>
    intro i hd f H locs ls hr k0 hl hw
    have hr20 : nr ≤ 20 := hX.2.1
    refine lv_iload hx hb dX4_far_65 (lv_at hl 0 rfl) ?_
    refine lv_iload hx hb dX4_far_67 (lv_at hl 1 rfl) ?_
    refine lv_icmp_ge (tgt := 147) hx hb dX4_far_69 (by decide) (fun hz => ?_) (fun h => absurd (nI_le (by omega) (by omega)) h)
    have ei : i = nr := by omega
    subst ei
    exact kx f H locs ls hr k0 (lv_sub hl [3, 4, 5, 6, 7] rfl) hw
  | succ d ih =>
    intro i hd f H locs ls hr k0 hl hw
    have hr20 : nr ≤ 20 := hX.2.1
    have hn10 : n ≤ 10 := hX.1
    obtain ⟨b, hb1, hb2⟩ := hR2 i (by omega)
    obtain ⟨y, z, hy1, hy2, hz1, hz2⟩ := hX.2.2.2 i (by omega)
    have hbr : ¬ b = r := fun z => hr0 i b (by omega) hb1 z
    have hR1' := hR1.kp k0 (fun z => hne z)
    have hb2 := hb2.kp k0 hbr
    have cy : (rw i 0).toNatClampNeg = y := by rw [hy1, nI_clamp (by omega)]
    have cz : (rw i 1).toNatClampNeg = z := by rw [hz1, nI_clamp (by omega)]
    refine lv_iload hx hb dX4_far_65 (lv_at hl 0 rfl) ?_
    refine lv_iload hx hb dX4_far_67 (lv_at hl 1 rfl) ?_
    refine lv_icmp_ge (tgt := 147) hx hb dX4_far_69 (by decide) (fun h => absurd h (nI_ge (by omega) (by omega))) (fun hz => ?_)
    refine lv_aload hx hb dX4_far_72 (lv_at hl 2 rfl) ?_
    refine lv_iload hx hb dX4_far_74 (lv_at hl 0 rfl) ?_
    refine pald hc hw hR1' i rfl (by omega) (by omega) (v := .ref b) (by rw [hb1]; rfl) dX4_far_76 ?_
    refine lv_astore (lv' := [(8, .ref b), (7, .int (nI i)), (6, .int (nI nr)), (5, .ref (ad 0)), (4, .int (nI t)), (3, .ref r), (0, .ref aS), (1, .int q), (2, .int x)]) hx hb dX4_far_77 hl (by decide) rfl (fun ls hl => ?_)
    refine lv_aload hx hb dX4_far_79 (lv_at hl 0 rfl) ?_
    refine lv_iconst (v := 3) hx hb dX4_far_81 (by decide) ?_
    refine pild hc hw hb2 3 rfl (by decide) (by omega) (v := (rw i 3)) rfl dX4_far_82 ?_
    refine lv_if_ne (tgt := 89) hx hb dX4_far_83 (by decide) (fun hz => ?_) (fun hz => ?_)
    · refine lv_aload_n hx hb dX4_far_89 rfl (lv_at hl 5 rfl) ?_
      refine lv_aload hx hb dX4_far_90 (lv_at hl 0 rfl) ?_
      refine lv_iconst (v := 0) hx hb dX4_far_92 (by decide) ?_
      refine pild hc hw hb2 0 rfl (by decide) (by omega) (v := (nI y)) hy1 dX4_far_93 ?_
      refine lv_aload_n hx hb dX4_far_94 rfl (lv_at hl 5 rfl) ?_
      refine lv_aload hx hb dX4_far_95 (lv_at hl 0 rfl) ?_
      refine lv_iconst (v := 0) hx hb dX4_far_97 (by decide) ?_
      refine pild hc hw hb2 0 rfl (by decide) (by omega) (v := (nI y)) hy1 dX4_far_98 ?_
      refine pild hc hw hr y rfl hy2 (by omega) (v := (sPs rw i d0 y)) rfl dX4_far_99 ?_
      refine lv_aload_n hx hb dX4_far_100 rfl (lv_at hl 5 rfl) ?_
      refine lv_aload hx hb dX4_far_101 (lv_at hl 0 rfl) ?_
      refine lv_iconst (v := 1) hx hb dX4_far_103 (by decide) ?_
      refine pild hc hw hb2 1 rfl (by decide) (by omega) (v := (nI z)) hz1 dX4_far_104 ?_
      refine pild hc hw hr z rfl hz2 (by omega) (v := (sPs rw i d0 z)) rfl dX4_far_105 ?_
      refine lv_aload hx hb dX4_far_106 (lv_at hl 0 rfl) ?_
      refine lv_iconst (v := 2) hx hb dX4_far_108 (by decide) ?_
      refine pild hc hw hb2 2 rfl (by decide) (by omega) (v := (rw i 2)) rfl dX4_far_109 ?_
      refine lv_iadd hx hb dX4_far_110 ?_
      refine pmin (rest := [.int (nI y), .ref r]) hc lkX4_far_m76 lkX4_far_msmin lkX4_far_mi lkX4_far_mcmin hl.1 hRf (Nat.le_trans (Nat.le_of_ble_eq_true rfl) hRl) hRc dX4_far_111 ?_
      refine pist hc hw hr y rfl hy2 (by omega) dX4_far_114 (fun f H locs k r9 hw => ?_)
      have hb2 := hb2.kp k hbr
      refine lv_aload_n hx hb dX4_far_115 rfl (lv_at hl 5 rfl) ?_
      refine lv_aload hx hb dX4_far_116 (lv_at hl 0 rfl) ?_
      refine lv_iconst (v := 1) hx hb dX4_far_118 (by decide) ?_
      refine pild hc hw hb2 1 rfl (by decide) (by omega) (v := (nI z)) hz1 dX4_far_119 ?_
      refine lv_aload_n hx hb dX4_far_120 rfl (lv_at hl 5 rfl) ?_
      refine lv_aload hx hb dX4_far_121 (lv_at hl 0 rfl) ?_
      refine lv_iconst (v := 1) hx hb dX4_far_123 (by decide) ?_
      refine pild hc hw hb2 1 rfl (by decide) (by omega) (v := (nI z)) hz1 dX4_far_124 ?_
      refine pild hc hw r9 z rfl hz2 (by omega) (v := ((upd (sPs rw i d0) y (sMin (sPs rw i d0 y) (sPs rw i d0 z + rw i 2))) z)) rfl dX4_far_125 ?_
      refine lv_aload_n hx hb dX4_far_126 rfl (lv_at hl 5 rfl) ?_
      refine lv_aload hx hb dX4_far_127 (lv_at hl 0 rfl) ?_
      refine lv_iconst (v := 0) hx hb dX4_far_129 (by decide) ?_
      refine pild hc hw hb2 0 rfl (by decide) (by omega) (v := (nI y)) hy1 dX4_far_130 ?_
      refine pild hc hw r9 y rfl hy2 (by omega) (v := ((upd (sPs rw i d0) y (sMin (sPs rw i d0 y) (sPs rw i d0 z + rw i 2))) y)) rfl dX4_far_131 ?_
      refine lv_aload hx hb dX4_far_132 (lv_at hl 0 rfl) ?_
      refine lv_iconst (v := 2) hx hb dX4_far_134 (by decide) ?_
      refine pild hc hw hb2 2 rfl (by decide) (by omega) (v := (rw i 2)) rfl dX4_far_135 ?_
      refine lv_iadd hx hb dX4_far_136 ?_
      refine pmin (rest := [.int (nI z), .ref r]) hc lkX4_far_m76 lkX4_far_msmin lkX4_far_mi lkX4_far_mcmin hl.1 hRf (Nat.le_trans (Nat.le_of_ble_eq_true rfl) hRl) hRc dX4_far_137 ?_
      refine pist hc hw r9 z rfl hz2 (by omega) dX4_far_140 (fun f H locs k2 r8 hw => ?_)
      refine lv_iinc (v := nI (i + 1)) (lv' := [(7, .int (nI (i + 1))), (8, .ref b), (6, .int (nI nr)), (5, .ref (ad 0)), (4, .int (nI t)), (3, .ref r), (0, .ref aS), (1, .int q), (2, .int x)]) hx hb dX4_far_141 hl (k := 1) rfl (nI_1 _) (by decide) rfl (fun ls hl => ?_)
      refine lv_goto (tgt := 65) hx hb dX4_far_144 (by decide) ?_
      refine ih (i + 1) (by omega) f H locs ls ?_ ((k0.tr k).tr k2) (lv_sub hl [0, 2, 3, 4, 5, 6, 7, 8] rfl) hw
      rw [show sPs rw (i + 1) d0 = sRx (rw i) (sPs rw i d0) from rfl]
      unfold sRx
      rw [if_neg hz, cy, cz]
      exact r8
    · refine lv_goto (tgt := 141) hx hb dX4_far_86 (by decide) ?_
      refine lv_iinc (v := nI (i + 1)) (lv' := [(7, .int (nI (i + 1))), (8, .ref b), (6, .int (nI nr)), (5, .ref (ad 0)), (4, .int (nI t)), (3, .ref r), (0, .ref aS), (1, .int q), (2, .int x)]) hx hb dX4_far_141 hl (k := 1) rfl (nI_1 _) (by decide) rfl (fun ls hl => ?_)
      refine lv_goto (tgt := 65) hx hb dX4_far_144 (by decide) ?_
      refine ih (i + 1) (by omega) f H locs ls ?_ k0 (lv_sub hl [0, 2, 3, 4, 5, 6, 7, 8] rfl) hw
      rw [show sPs rw (i + 1) d0 = sRx (rw i) (sPs rw i d0) from rfl]
      unfold sRx
      rw [if_pos hz]
      exact hr
set_option maxHeartbeats 40000000 in
set_option maxRecDepth 100000 in
theorem lpS_farC {p : Program} {l : Launch} {e : Env} {R : Room} {s : State} {m : MethodId} {args : Array Value} {below : List Frame} {meth : Method} {c : Code} {cells slots : Nat} {Q : State → Prop} {ret : Option FieldType} {G : xG} {A : Nat → Prop} (hc : xC p s m args meth c cX4_far 9 RX4 wsX4_far ret G A) {L : List Nat} {aS : Nat} {ad : Nat → Nat} {oo om : Nat → Nat → Option Nat} {v : Nat → Int32} {n : Nat} {xn : Nat → Nat} {xr : Nat → Nat → Int32} {nr : Nat} {rw : Nat → Nat → Int32} {sh ak : Nat → Int32} {wl : Nat} {wy : Nat → Nat → Int32} {mp : Nat → Nat → Bool} {mm : Nat → Nat → Nat → Int32} {f0 : Nat → va_E} {q x : Int32} {r : Nat} (hX : sX n xn xr nr rw) (hR1 : rowA G L f0 (ad 0) nr (oo 0)) (hR2 : ∀ k, k < nr → ∃ a, oo 0 k = some a ∧ rowI G L f0 a 5 (rw k)) (hne : ¬ ad 0 = r) (hr0 : ∀ k a, k < nr → oo 0 k = some a → ¬ a = r) (hRf : 1 ≤ R.frames) (hRl : 20 ≤ R.locals) (hRc : cells ≤ R.cells ∧ slots ≤ R.slots) (hO0 : objS L f0 aS 4 [.ref (ad 0), .ref (ad 1), .ref (ad 2), .ref (ad 3), .int (v 4), .int (v 5), .int (v 6), .ref (ad 4), .ref (ad 5), .int (v 9), .int (v 10), .int (v 11), .int (v 12), .int (v 13)]) (hOr : ¬ aS = r)
    (kx : ∀ (f : Nat → va_E) (H : Heap) (locs : List Loc) (ls : Array Slot), rowI G L f r n (sRs rw nr n (sD0 q)) → pk (fun b => b = r) L f0 L f → lv_has ls 9 [(3, .ref r), (0, .ref aS), (1, .int q), (2, .int x)] → xW G A s.heap (([] : va_W) ++ va_pl L f) H locs → W p l e R s m args below meth c H locs cells slots Q (F0 m 153 ls [])) :
    ∀ (d i : Nat), i + d = n → ∀ (f : Nat → va_E) (H : Heap) (locs : List Loc) (ls : Array Slot), rowI G L f r n (sRs rw nr i (sD0 q)) → pk (fun b => b = r) L f0 L f → lv_has ls 9 [(4, .int (nI i)), (3, .ref r), (0, .ref aS), (1, .int q), (2, .int x)] → xW G A s.heap (([] : va_W) ++ va_pl L f) H locs → W p l e R s m args below meth c H locs cells slots Q (F0 m 44 ls []) := by
  obtain ⟨hx, hb, -, hown, hts, -⟩ := id hc
  intro d
  induction d with
  | zero =>
    intro i hd f H locs ls hr k0 hl hw
    have hn10 : n ≤ 10 := hX.1
    refine lv_iload hx hb dX4_far_44 (lv_at hl 0 rfl) ?_
    refine lv_aload_n hx hb dX4_far_46 rfl (lv_at hl 1 rfl) ?_
    refine plenI hc hw hr dX4_far_47 ?_
    refine lv_icmp_ge (tgt := 153) hx hb dX4_far_48 (by decide) (fun hz => ?_) (fun h => absurd (nI_le (by omega) (by omega)) h)
    have ei : i = n := by omega
    subst ei
    exact kx f H locs ls hr k0 (lv_sub hl [1, 2, 3, 4] rfl) hw
  | succ d ih =>
    intro i hd f H locs ls hr k0 hl hw
    have hn10 : n ≤ 10 := hX.1
    have hO := hO0.kp k0 hOr
    have hR1' := hR1.kp k0 (fun z => hne z)
    refine lv_iload hx hb dX4_far_44 (lv_at hl 0 rfl) ?_
    refine lv_aload_n hx hb dX4_far_46 rfl (lv_at hl 1 rfl) ?_
    refine plenI hc hw hr dX4_far_47 ?_
    refine lv_icmp_ge (tgt := 153) hx hb dX4_far_48 (by decide) (fun h => absurd h (nI_ge (by omega) (by omega))) (fun hz => ?_)
    refine lv_aload_n hx hb dX4_far_51 rfl (lv_at hl 2 rfl) ?_
    refine pget (C := RX4) (T := TX4) (N := 14) (ci := 4) hc hw inX4_far_X4 hO rfl 0 (by decide) lkX4_far_f9 rfl rfl dX4_far_52 ?_
    refine lv_astore (lv' := [(5, .ref (ad 0)), (4, .int (nI i)), (3, .ref r), (0, .ref aS), (1, .int q), (2, .int x)]) hx hb dX4_far_55 hl (by decide) rfl (fun ls hl => ?_)
    refine lv_aload hx hb dX4_far_57 (lv_at hl 0 rfl) ?_
    refine plenA hc hw hR1' dX4_far_59 ?_
    refine lv_istore (lv' := [(6, .int (nI nr)), (5, .ref (ad 0)), (4, .int (nI i)), (3, .ref r), (0, .ref aS), (1, .int q), (2, .int x)]) hx hb dX4_far_60 hl (by decide) rfl (fun ls hl => ?_)
    refine lv_iconst (v := 0) hx hb dX4_far_62 (by decide) ?_
    refine lv_istore (lv' := [(7, .int 0), (6, .int (nI nr)), (5, .ref (ad 0)), (4, .int (nI i)), (3, .ref r), (0, .ref aS), (1, .int q), (2, .int x)]) hx hb dX4_far_63 hl (by decide) rfl (fun ls hl => ?_)
    refine lpS_farB (t := i) (d0 := sRs rw nr i (sD0 q)) (v := v) (sh := sh) (ak := ak) (wl := wl) (wy := wy) (mp := mp) (mm := mm) (aS := aS) (om := om) hc hX hR1' (fun k hk => ?_) hne hr0 hRf hRl hRc (fun f2 H locs ls hr2 k2 hl hw => ?_) nr 0 (by omega) f H locs ls hr pk.rf hl hw
    · obtain ⟨b, e1, e2⟩ := hR2 k hk
      exact ⟨b, e1, e2.kp k0 (hr0 k b hk e1)⟩
    refine lv_iinc (v := nI (i + 1)) (lv' := [(4, .int (nI (i + 1))), (3, .ref r), (0, .ref aS), (1, .int q), (2, .int x)]) hx hb dX4_far_147 hl (k := 0) rfl (nI_1 _) (by decide) rfl (fun ls hl => ?_)
    refine lv_goto (tgt := 44) hx hb dX4_far_150 (by decide) ?_
    exact ih (i + 1) (by omega) f2 H locs ls hr2 (k0.tr k2) hl hw
set_option maxHeartbeats 40000000 in
set_option maxRecDepth 100000 in
theorem metS_far (l : Launch) (G : xG) (sz : Nat) (L : List Nat) (f : Nat → va_E) (aS : Nat) (v : Nat → Int32) (n : Nat) (xn : Nat → Nat) (xr : Nat → Nat → Int32) (nr : Nat) (rw : Nat → Nat → Int32) (sh ak : Nat → Int32) (wl : Nat) (wy : Nat → Nat → Int32) (mp : Nat → Nat → Bool) (mm : Nat → Nat → Nat → Int32) (S : Sh G L f aS v n xn xr nr rw sh ak wl wy mp mm) (hX : sX n xn xr nr rw) (q x : Int32) (hxx : ∃ j, x = nI j ∧ j < n) : pMi l yX4_far wsX4_far ⟨1, 1, 10, 20⟩ G [.ref aS, .int q, .int x] L f sz (fun r u => r = sFar rw nr n q x ∧ pk (fun _ => False) L f u.1 u.2) := by
  obtain ⟨ad, oo, om, hO, hA⟩ := S
  have hO : objS L f aS 4 [.ref (ad 0), .ref (ad 1), .ref (ad 2), .ref (ad 3), .int (v 4), .int (v 5), .int (v 6), .ref (ad 4), .ref (ad 5), .int (v 9), .int (v 10), .int (v 11), .int (v 12), .int (v 13)] := hO
  refine xof (own := RX4) (cc := cX4_far) (maxL := 9) (ret := (some .int)) rfl (by decide) rfl (Nat.le_of_ble_eq_true rfl) ?_
  intro pg en s mi below meth cd hc hnm hw ls hl
  obtain ⟨hx, hb, -, hown, hts, -⟩ := id hc
  have hl : lv_has ls 9 [(0, .ref aS), (1, .int q), (2, .int x)] := hl
  have hw : xW G _ s.heap (([] : va_W) ++ va_pl L f) s.heap [] := hw
  obtain ⟨⟨hR1, hR2, hR3⟩, ⟨hE1, hE2⟩, -⟩ := id hA
  have hn10 : n ≤ 10 := hX.1
  obtain ⟨j, hxj, hj⟩ := hxx
  refine lv_aload_n hx hb dX4_far_0 rfl (lv_at hl 0 rfl) ?_
  refine pget (C := RX4) (T := TX4) (N := 14) (ci := 4) hc hw inX4_far_X4 hO rfl 1 (by decide) lkX4_far_f15 rfl rfl dX4_far_1 ?_
  refine plenA hc hw hE1 dX4_far_4 ?_
  refine pnewI hc hw n rfl (by omega) lkX4_far_aI (by first | exact Nat.le_of_ble_eq_true rfl | ((try dsimp only); omega)) (by first | exact Nat.le_of_ble_eq_true rfl | ((try dsimp only); omega)) dX4_far_5 (fun r L1 f1 H hr k1 r1 hw => ?_)
  have hO1 := hO.kp k1 (fun z => z)
  have hA1 := hA.fresh k1
  obtain ⟨⟨n0, -⟩, -⟩ := hA.nin hr
  obtain ⟨⟨hR1, hR2, hR3⟩, ⟨hE1, hE2⟩, -⟩ := id hA1
  refine lv_astore_n (lv' := [(3, .ref r), (0, .ref aS), (1, .int q), (2, .int x)]) hx hb dX4_far_7 rfl hl (by decide) rfl (fun ls hl => ?_)
  refine lv_iconst (v := 0) hx hb dX4_far_8 (by decide) ?_
  refine lv_istore (lv' := [(4, .int 0), (3, .ref r), (0, .ref aS), (1, .int q), (2, .int x)]) hx hb dX4_far_9 hl (by decide) rfl (fun ls hl => ?_)
  refine lpS_farA (v := v) (xn := xn) (xr := xr) (nr := nr) (rw := rw) (sh := sh) (ak := ak) (wl := wl) (wy := wy) (mp := mp) (mm := mm) (aS := aS) (ad := ad) (oo := oo) (om := om) hc hn10 (fun f2 H locs ls r2 k2 hl hw => ?_) n 0 (by omega) f1 _ _ ls (r1.cg (fun j hj => (if_neg (Nat.not_lt_zero _)).symm)) pk.rf hl hw
  refine lv_iconst (v := 0) hx hb dX4_far_41 (by decide) ?_
  refine lv_istore (lv' := [(4, .int 0), (3, .ref r), (0, .ref aS), (1, .int q), (2, .int x)]) hx hb dX4_far_42 hl (by decide) rfl (fun ls hl => ?_)
  refine lpS_farC (v := v) (sh := sh) (ak := ak) (wl := wl) (wy := wy) (mp := mp) (mm := mm) (om := om) hc hX (hR1.kp k2 n0.symm) (fun k hk => ?_) n0.symm (fun k a hk e1 z => ?_) (Nat.le_of_ble_eq_true rfl) (Nat.le_of_ble_eq_true rfl) (by refine ⟨Nat.le_of_ble_eq_true rfl, ?_⟩; (try dsimp only); omega) (hO1.kp k2 (fun z => hr (z ▸ hO.1))) (fun z => hr (z ▸ hO.1)) (fun f3 H locs ls r3 k3 hl hw => ?_) n 0 (by omega) f2 H locs ls (r2.cg (fun j hj => if_pos hj)) pk.rf hl hw
  · obtain ⟨b, e1, e2⟩ := hR2 k hk
    exact ⟨b, e1, e2.kp k2 (fun z => hr (z ▸ (by obtain ⟨b', e3, e4⟩ := hA.1.2.1 k hk; cases e1.symm.trans e3; exact e4.1)))⟩
  · obtain ⟨b', e3, e4⟩ := hA.1.2.1 k hk
    cases e1.symm.trans e3
    exact hr (z ▸ e4.1)
  refine lv_sipush (v := 9999) hx hb dX4_far_153 (by decide) ?_
  refine lv_aload_n hx hb dX4_far_156 rfl (lv_at hl 0 rfl) ?_
  refine lv_iload_n hx hb dX4_far_157 rfl (lv_at hl 3 rfl) ?_
  refine pild hc hw r3 j hxj hj (by omega) (v := (sRs rw nr n (sD0 q) j)) rfl dX4_far_158 ?_
  refine pmin hc lkX4_far_m76 lkX4_far_msmin lkX4_far_mi lkX4_far_mcmin hl.1 (Nat.le_of_ble_eq_true rfl) (Nat.le_of_ble_eq_true rfl) (by refine ⟨Nat.le_of_ble_eq_true rfl, ?_⟩; (try dsimp only); omega) dX4_far_159 ?_
  exact pret_i hc hw (⟨by unfold sFar; rw [hxj, nI_clamp (by omega)]; rfl, (k1.off hr k2).off hr k3⟩) (by first | exact ⟨Nat.le_of_ble_eq_true rfl, Nat.le_of_ble_eq_true rfl⟩ | (refine ⟨?_, ?_⟩ <;> ((try dsimp only); omega))) dX4_far_162
