theorem lkX4_init_m1 : Cond.methodLink RX4 1 objectInit ∈ wsX4_init := List.mem_of_getElem? (i := 1) (by decide +kernel)
theorem lkX4_init_oi : Cond.instanceMethod objectInit ∈ wsX4_init := List.mem_of_getElem? (i := 2) (by decide +kernel)
theorem lkX4_init_oc : Cond.code objectInit ⟨#[0xb1]⟩ 1 none ∈ wsX4_init := List.mem_of_getElem? (i := 3) (by decide +kernel)
theorem lkX4_init_c7 : Cond.classLink RX4 7 "[I" ∈ wsX4_init := List.mem_of_getElem? (i := 4) (by decide +kernel)
theorem inX4_init_X4 : ∀ w ∈ u_ws RX4 TX4 14, w ∈ wsX4_init := fun _ h => List.mem_cons_of_mem _ (List.mem_append_right _ h)
theorem lkX4_init_f9 : Cond.fieldLink RX4 9 "MapCarrierLaw$Sim" "roads" "[[I" ∈ wsX4_init := List.mem_of_getElem? (i := 5) (by decide +kernel)
theorem lkX4_init_f15 : Cond.fieldLink RX4 15 "MapCarrierLaw$Sim" "exits" "[[I" ∈ wsX4_init := List.mem_of_getElem? (i := 6) (by decide +kernel)
theorem lkX4_init_aZ : Cond.arrayClass .boolean ∈ wsX4_init := List.mem_of_getElem? (i := 7) (by decide +kernel)
theorem lkX4_init_f18 : Cond.fieldLink RX4 18 "MapCarrierLaw$Sim" "shepherd" "[Z" ∈ wsX4_init := List.mem_of_getElem? (i := 8) (by decide +kernel)
theorem lkX4_init_f22 : Cond.fieldLink RX4 22 "MapCarrierLaw$Sim" "isAsked" "[Z" ∈ wsX4_init := List.mem_of_getElem? (i := 9) (by decide +kernel)
theorem lkX4_init_f25 : Cond.fieldLink RX4 25 "MapCarrierLaw$Sim" "where" "I" ∈ wsX4_init := List.mem_of_getElem? (i := 10) (by decide +kernel)
theorem lkX4_init_f29 : Cond.fieldLink RX4 29 "MapCarrierLaw$Sim" "goal" "I" ∈ wsX4_init := List.mem_of_getElem? (i := 11) (by decide +kernel)
theorem lkX4_init_f32 : Cond.fieldLink RX4 32 "MapCarrierLaw$Sim" "way" "[[I" ∈ wsX4_init := List.mem_of_getElem? (i := 12) (by decide +kernel)
theorem lkX4_init_f37 : Cond.fieldLink RX4 37 "MapCarrierLaw$Sim" "memory" "[[[I" ∈ wsX4_init := List.mem_of_getElem? (i := 13) (by decide +kernel)
/-! the second carrier: its constructor -/
def sv0 : Nat → Int32 := fun k => if k = 4 ∨ k = 6 then -1 else 0
set_option maxHeartbeats 40000000 in
set_option maxRecDepth 100000 in
theorem metS_init (l : Launch) (G : xG) (sz : Nat) (L : List Nat) (f : Nat → va_E) (aS : Nat) (xn : Nat → Nat) (xr rw wy : Nat → Nat → Int32) (mm : Nat → Nat → Nat → Int32) (hO : objS L f aS 4 [.null, .null, .null, .null, .int 0, .int 0, .int 0, .null, .null, .int 0, .int 0, .int 0, .int 0, .int 0]) : pMv l yX4_init wsX4_init ⟨1, 16, 130, 20⟩ G [.ref aS] L f sz (fun u => Sh G u.1 u.2 aS sv0 0 xn xr 0 rw (fun _ => 0) (fun _ => 0) 0 wy (fun _ _ => false) mm) := by
  refine xof (own := RX4) (cc := cX4_init) (maxL := 1) (ret := none) rfl (by decide) rfl (Nat.le_of_ble_eq_true rfl) ?_
  intro pg en s mi below meth cd hc hnm hw ls hl
  obtain ⟨hx, hb, -, hown, hts, -⟩ := id hc
  have hl : lv_has ls 1 [(0, .ref aS)] := hl
  have hw : xW G _ s.heap (([] : va_W) ++ va_pl L f) s.heap [] := hw
  refine lv_aload_n hx hb dX4_init_0 rfl (lv_at hl 0 rfl) ?_
  refine xobj hc lkX4_init_m1 (hc.2.2.2.2.1 _ lkX4_init_oi) (hc.2.2.2.2.1 _ lkX4_init_oc) hl.1 dX4_init_1 (Nat.le_of_ble_eq_true rfl) (Nat.le_of_ble_eq_true rfl) ?_
  refine lv_aload_n hx hb dX4_init_4 rfl (lv_at hl 0 rfl) ?_
  refine lv_iconst (v := 0) hx hb dX4_init_5 (by decide) ?_
  refine pnewA hc hw 0 rfl (by omega) lkX4_init_c7 (by first | exact Nat.le_of_ble_eq_true rfl | ((try dsimp only); omega)) (by first | exact Nat.le_of_ble_eq_true rfl | ((try dsimp only); omega)) dX4_init_6 (fun q0 L0 f H h0 k0 r0 hw => ?_)
  have hO := hO.kp k0 (fun z => z)
  
  refine pput (C := RX4) (T := TX4) (N := 14) (ci := 4) (ty := .int) hc hw inX4_init_X4 tyX4 tyX4_ok nmX4 hO rfl 0 (by decide) lkX4_init_f9 rfl rfl rfl rfl (Nat.le_of_ble_eq_true rfl) [.ref q0, .null, .null, .null, .int 0, .int 0, .int 0, .null, .null, .int 0, .int 0, .int 0, .int 0, .int 0] rfl dX4_init_9 (fun f H locs kp0 hO0 hw => ?_)
  have r0 := r0.kp kp0 (hO.neA r0).symm
  have hO := hO0
  refine lv_aload_n hx hb dX4_init_12 rfl (lv_at hl 0 rfl) ?_
  refine lv_iconst (v := 0) hx hb dX4_init_13 (by decide) ?_
  refine pnewA hc hw 0 rfl (by omega) lkX4_init_c7 (by first | exact Nat.le_of_ble_eq_true rfl | ((try dsimp only); omega)) (by first | exact Nat.le_of_ble_eq_true rfl | ((try dsimp only); omega)) dX4_init_14 (fun q1 L1 f H h1 k1 r1 hw => ?_)
  have n1_r0 : q1 ≠ q0 := fun z => h1 (z ▸ r0.1)
  have hO := hO.kp k1 (fun z => z)
  have r0 := r0.kp k1 (fun z => z)
  refine pput (C := RX4) (T := TX4) (N := 14) (ci := 4) (ty := .int) hc hw inX4_init_X4 tyX4 tyX4_ok nmX4 hO rfl 1 (by decide) lkX4_init_f15 rfl rfl rfl rfl (Nat.le_of_ble_eq_true rfl) [.ref q0, .ref q1, .null, .null, .int 0, .int 0, .int 0, .null, .null, .int 0, .int 0, .int 0, .int 0, .int 0] rfl dX4_init_17 (fun f H locs kp1 hO1 hw => ?_)
  have r0 := r0.kp kp1 (hO.neA r0).symm
  have r1 := r1.kp kp1 (hO.neA r1).symm
  have hO := hO1
  refine lv_aload_n hx hb dX4_init_20 rfl (lv_at hl 0 rfl) ?_
  refine lv_bipush (v := 10) hx hb dX4_init_21 (by decide) ?_
  refine pnewZ hc hw 10 rfl (by omega) lkX4_init_aZ (by first | exact Nat.le_of_ble_eq_true rfl | ((try dsimp only); omega)) (by first | exact Nat.le_of_ble_eq_true rfl | ((try dsimp only); omega)) dX4_init_23 (fun q2 L2 f H h2 k2 r2 hw => ?_)
  have n2_r0 : q2 ≠ q0 := fun z => h2 (z ▸ r0.1)
  have n2_r1 : q2 ≠ q1 := fun z => h2 (z ▸ r1.1)
  have hO := hO.kp k2 (fun z => z)
  have r0 := r0.kp k2 (fun z => z)
  have r1 := r1.kp k2 (fun z => z)
  refine pput (C := RX4) (T := TX4) (N := 14) (ci := 4) (ty := .int) hc hw inX4_init_X4 tyX4 tyX4_ok nmX4 hO rfl 2 (by decide) lkX4_init_f18 rfl rfl rfl rfl (Nat.le_of_ble_eq_true rfl) [.ref q0, .ref q1, .ref q2, .null, .int 0, .int 0, .int 0, .null, .null, .int 0, .int 0, .int 0, .int 0, .int 0] rfl dX4_init_25 (fun f H locs kp2 hO2 hw => ?_)
  have r0 := r0.kp kp2 (hO.neA r0).symm
  have r1 := r1.kp kp2 (hO.neA r1).symm
  have r2 := r2.kp kp2 (hO.neZ r2).symm
  have hO := hO2
  refine lv_aload_n hx hb dX4_init_28 rfl (lv_at hl 0 rfl) ?_
  refine lv_bipush (v := 10) hx hb dX4_init_29 (by decide) ?_
  refine pnewZ hc hw 10 rfl (by omega) lkX4_init_aZ (by first | exact Nat.le_of_ble_eq_true rfl | ((try dsimp only); omega)) (by first | exact Nat.le_of_ble_eq_true rfl | ((try dsimp only); omega)) dX4_init_31 (fun q3 L3 f H h3 k3 r3 hw => ?_)
  have n3_r0 : q3 ≠ q0 := fun z => h3 (z ▸ r0.1)
  have n3_r1 : q3 ≠ q1 := fun z => h3 (z ▸ r1.1)
  have n3_r2 : q3 ≠ q2 := fun z => h3 (z ▸ r2.1)
  have hO := hO.kp k3 (fun z => z)
  have r0 := r0.kp k3 (fun z => z)
  have r1 := r1.kp k3 (fun z => z)
  have r2 := r2.kp k3 (fun z => z)
  refine pput (C := RX4) (T := TX4) (N := 14) (ci := 4) (ty := .int) hc hw inX4_init_X4 tyX4 tyX4_ok nmX4 hO rfl 3 (by decide) lkX4_init_f22 rfl rfl rfl rfl (Nat.le_of_ble_eq_true rfl) [.ref q0, .ref q1, .ref q2, .ref q3, .int 0, .int 0, .int 0, .null, .null, .int 0, .int 0, .int 0, .int 0, .int 0] rfl dX4_init_33 (fun f H locs kp3 hO3 hw => ?_)
  have r0 := r0.kp kp3 (hO.neA r0).symm
  have r1 := r1.kp kp3 (hO.neA r1).symm
  have r2 := r2.kp kp3 (hO.neZ r2).symm
  have r3 := r3.kp kp3 (hO.neZ r3).symm
  have hO := hO3
  refine lv_aload_n hx hb dX4_init_36 rfl (lv_at hl 0 rfl) ?_
  refine lv_iconst (v := (-1)) hx hb dX4_init_37 (by decide) ?_
  refine pput (C := RX4) (T := TX4) (N := 14) (ci := 4) (ty := .int) hc hw inX4_init_X4 tyX4 tyX4_ok nmX4 hO rfl 4 (by decide) lkX4_init_f25 rfl rfl rfl rfl (Nat.le_of_ble_eq_true rfl) [.ref q0, .ref q1, .ref q2, .ref q3, .int (-1), .int 0, .int 0, .null, .null, .int 0, .int 0, .int 0, .int 0, .int 0] rfl dX4_init_38 (fun f H locs kp38 hO38 hw => ?_)
  have r0 := r0.kp kp38 (hO.neA r0).symm
  have r1 := r1.kp kp38 (hO.neA r1).symm
  have r2 := r2.kp kp38 (hO.neZ r2).symm
  have r3 := r3.kp kp38 (hO.neZ r3).symm
  have hO := hO38
  refine lv_aload_n hx hb dX4_init_41 rfl (lv_at hl 0 rfl) ?_
  refine lv_iconst (v := (-1)) hx hb dX4_init_42 (by decide) ?_
  refine pput (C := RX4) (T := TX4) (N := 14) (ci := 4) (ty := .int) hc hw inX4_init_X4 tyX4 tyX4_ok nmX4 hO rfl 6 (by decide) lkX4_init_f29 rfl rfl rfl rfl (Nat.le_of_ble_eq_true rfl) [.ref q0, .ref q1, .ref q2, .ref q3, .int (-1), .int 0, .int (-1), .null, .null, .int 0, .int 0, .int 0, .int 0, .int 0] rfl dX4_init_43 (fun f H locs kp43 hO43 hw => ?_)
  have r0 := r0.kp kp43 (hO.neA r0).symm
  have r1 := r1.kp kp43 (hO.neA r1).symm
  have r2 := r2.kp kp43 (hO.neZ r2).symm
  have r3 := r3.kp kp43 (hO.neZ r3).symm
  have hO := hO43
  refine lv_aload_n hx hb dX4_init_46 rfl (lv_at hl 0 rfl) ?_
  refine lv_iconst (v := 0) hx hb dX4_init_47 (by decide) ?_
  refine pnewA hc hw 0 rfl (by omega) lkX4_init_c7 (by first | exact Nat.le_of_ble_eq_true rfl | ((try dsimp only); omega)) (by first | exact Nat.le_of_ble_eq_true rfl | ((try dsimp only); omega)) dX4_init_48 (fun q4 L4 f H h4 k4 r4 hw => ?_)
  have n4_r0 : q4 ≠ q0 := fun z => h4 (z ▸ r0.1)
  have n4_r1 : q4 ≠ q1 := fun z => h4 (z ▸ r1.1)
  have n4_r2 : q4 ≠ q2 := fun z => h4 (z ▸ r2.1)
  have n4_r3 : q4 ≠ q3 := fun z => h4 (z ▸ r3.1)
  have hO := hO.kp k4 (fun z => z)
  have r0 := r0.kp k4 (fun z => z)
  have r1 := r1.kp k4 (fun z => z)
  have r2 := r2.kp k4 (fun z => z)
  have r3 := r3.kp k4 (fun z => z)
  refine pput (C := RX4) (T := TX4) (N := 14) (ci := 4) (ty := .int) hc hw inX4_init_X4 tyX4 tyX4_ok nmX4 hO rfl 7 (by decide) lkX4_init_f32 rfl rfl rfl rfl (Nat.le_of_ble_eq_true rfl) [.ref q0, .ref q1, .ref q2, .ref q3, .int (-1), .int 0, .int (-1), .ref q4, .null, .int 0, .int 0, .int 0, .int 0, .int 0] rfl dX4_init_51 (fun f H locs kp4 hO4 hw => ?_)
  have r0 := r0.kp kp4 (hO.neA r0).symm
  have r1 := r1.kp kp4 (hO.neA r1).symm
  have r2 := r2.kp kp4 (hO.neZ r2).symm
  have r3 := r3.kp kp4 (hO.neZ r3).symm
  have r4 := r4.kp kp4 (hO.neA r4).symm
  have hO := hO4
  refine lv_aload_n hx hb dX4_init_54 rfl (lv_at hl 0 rfl) ?_
  refine lv_bipush (v := 10) hx hb dX4_init_55 (by decide) ?_
  refine lv_bipush (v := 10) hx hb dX4_init_57 (by decide) ?_
  refine pmulti hc hw (va_Nw.use rfl (hc.2.2.2.2.2.2.2.1.2.1 _ (by decide +kernel))) (Nat.le_of_ble_eq_true rfl) (Nat.le_of_ble_eq_true rfl) dX4_init_59 (fun q5 L5 f H locs h5 k5 r5 r6 hw => ?_)
  have n5_r0 : ∀ j, j ≤ 10 → q5 + j ≠ q0 := fun j hj z => h5 j hj (z ▸ r0.1)
  have n5_r1 : ∀ j, j ≤ 10 → q5 + j ≠ q1 := fun j hj z => h5 j hj (z ▸ r1.1)
  have n5_r2 : ∀ j, j ≤ 10 → q5 + j ≠ q2 := fun j hj z => h5 j hj (z ▸ r2.1)
  have n5_r3 : ∀ j, j ≤ 10 → q5 + j ≠ q3 := fun j hj z => h5 j hj (z ▸ r3.1)
  have n5_r4 : ∀ j, j ≤ 10 → q5 + j ≠ q4 := fun j hj z => h5 j hj (z ▸ r4.1)
  have hO := hO.kp k5 (fun z => z)
  have r0 := r0.kp k5 (fun z => z)
  have r1 := r1.kp k5 (fun z => z)
  have r2 := r2.kp k5 (fun z => z)
  have r3 := r3.kp k5 (fun z => z)
  have r4 := r4.kp k5 (fun z => z)
  refine pput (C := RX4) (T := TX4) (N := 14) (ci := 4) (ty := .int) hc hw inX4_init_X4 tyX4 tyX4_ok nmX4 hO rfl 8 (by decide) lkX4_init_f37 rfl rfl rfl rfl (Nat.le_of_ble_eq_true rfl) [.ref q0, .ref q1, .ref q2, .ref q3, .int (-1), .int 0, .int (-1), .ref q4, .ref q5, .int 0, .int 0, .int 0, .int 0, .int 0] rfl dX4_init_63 (fun f H locs kp5 hO5 hw => ?_)
  have r0 := r0.kp kp5 (hO.neA r0).symm
  have r1 := r1.kp kp5 (hO.neA r1).symm
  have r2 := r2.kp kp5 (hO.neZ r2).symm
  have r3 := r3.kp kp5 (hO.neZ r3).symm
  have r4 := r4.kp kp5 (hO.neA r4).symm
  have r5 := r5.kp kp5 (hO.neB r5).symm
  have r6 : ∀ j, j < 10 → rowA G L5 f (q5 + 1 + j) 10 (fun _ => none) := fun j hj => (r6 j hj).kp kp5 (hO.neA (r6 j hj)).symm
  have hO := hO5
  have hS : Sh G L5 f aS sv0 0 xn xr 0 rw (fun _ => 0) (fun _ => 0) 0 wy (fun _ _ => false) mm := (by
    refine ⟨(fun i => if i = 0 then q0 else if i = 1 then q1 else if i = 2 then q2 else if i = 3 then q3 else if i = 4 then q4 else q5), (fun i j => if i = 3 then some (q5 + 1 + j) else none), (fun _ _ => none), hO, ⟨r0, fun k hk => absurd hk (Nat.not_lt_zero _), fun j k hj => absurd hj (Nat.not_lt_zero _)⟩, ⟨r1, fun k hk => absurd hk (Nat.not_lt_zero _)⟩, ⟨r2, r3, n3_r2.symm⟩, ⟨r4, fun k hk => absurd hk (Nat.not_lt_zero _)⟩, ⟨r5, fun i j _ _ h => ?_, fun g hg => ⟨q5 + 1 + g, rfl, r6 g hg, fun p _ => Or.inl ⟨rfl, rfl⟩⟩⟩, ⟨n1_r0, n4_r1.symm, (n5_r1 0 (by omega)).symm⟩, fun g a hg h => ?_⟩
    · have := Option.some.inj h
      omega
    · obtain rfl : q5 + 1 + g = a := Option.some.inj h
      refine ⟨?_, ?_, ?_, ?_⟩
      · have := n5_r0 (g + 1) (by omega)
        rw [show q5 + 1 + g = q5 + (g + 1) by omega]; exact this
      · have := n5_r1 (g + 1) (by omega)
        rw [show q5 + 1 + g = q5 + (g + 1) by omega]; exact this
      · have := n5_r4 (g + 1) (by omega)
        rw [show q5 + 1 + g = q5 + (g + 1) by omega]; exact this
      · show q5 + 1 + g ≠ q5
        omega)
  exact pret_v hc hw hS (by first | exact ⟨Nat.le_of_ble_eq_true rfl, Nat.le_of_ble_eq_true rfl⟩ | (refine ⟨?_, ?_⟩ <;> ((try dsimp only); omega))) dX4_init_66
