theorem inX4_place_X4 : ∀ w ∈ u_ws RX4 TX4 14, w ∈ wsX4_place := fun _ h => List.mem_cons_of_mem _ (List.mem_append_right _ h)
theorem lkX4_place_f15 : Cond.fieldLink RX4 15 "MapCarrierLaw$Sim" "exits" "[[I" ∈ wsX4_place := List.mem_of_getElem? (i := 1) (by decide +kernel)
theorem lkX4_place_aI : Cond.arrayClass .int ∈ wsX4_place := List.mem_of_getElem? (i := 2) (by decide +kernel)
theorem lkX4_place_f25 : Cond.fieldLink RX4 25 "MapCarrierLaw$Sim" "where" "I" ∈ wsX4_place := List.mem_of_getElem? (i := 3) (by decide +kernel)
theorem inX4_road_X4 : ∀ w ∈ u_ws RX4 TX4 14, w ∈ wsX4_road := fun _ h => List.mem_cons_of_mem _ (List.mem_append_right _ h)
theorem lkX4_road_f9 : Cond.fieldLink RX4 9 "MapCarrierLaw$Sim" "roads" "[[I" ∈ wsX4_road := List.mem_of_getElem? (i := 1) (by decide +kernel)
theorem lkX4_road_aI : Cond.arrayClass .int ∈ wsX4_road := List.mem_of_getElem? (i := 2) (by decide +kernel)
theorem lkX4_road_f15 : Cond.fieldLink RX4 15 "MapCarrierLaw$Sim" "exits" "[[I" ∈ wsX4_road := List.mem_of_getElem? (i := 3) (by decide +kernel)
/-! the second carrier: places, roads, the end and the start of an errand -/
theorem ShA.nin {G : xG} {L : List Nat} {f : Nat → va_E} {ad : Nat → Nat} {oo om : Nat → Nat → Option Nat} {n : Nat} {xn : Nat → Nat} {xr : Nat → Nat → Int32} {nr : Nat} {rw : Nat → Nat → Int32} {sh ak : Nat → Int32} {wl : Nat} {wy : Nat → Nat → Int32} {mp : Nat → Nat → Bool} {mm : Nat → Nat → Nat → Int32} {r : Nat} (h : ShA G L f ad oo om n xn xr nr rw sh ak wl wy mp mm) (hr : r ∉ L) : (r ≠ ad 0 ∧ r ≠ ad 1 ∧ r ≠ ad 2 ∧ r ≠ ad 3 ∧ r ≠ ad 4 ∧ r ≠ ad 5) ∧ ∀ g a, g < 10 → oo 3 g = some a → a ≠ r := by
  obtain ⟨h1, h2, h3, h4, h5, h6⟩ := h
  refine ⟨⟨fun z => hr (z ▸ h1.1.1), fun z => hr (z ▸ h2.1.1), fun z => hr (z ▸ h3.1.1), fun z => hr (z ▸ h3.2.1.1), fun z => hr (z ▸ h4.1.1), fun z => hr (z ▸ h5.1.1)⟩, fun g a hg e z => ?_⟩
  obtain ⟨b, e2, q, -⟩ := h5.2.2 g hg
  cases e.symm.trans e2
  exact hr (z ▸ q.1)
def sOv (rw : Nat → Nat → Int32) (k : Nat) : Nat → Nat → Int32 := fun j => if j < k then upd (rw j) 4 0 else rw j
theorem sOv_0 (rw : Nat → Nat → Int32) : sOv rw 0 = rw := funext fun _ => if_neg (Nat.not_lt_zero _)
theorem sOv_s (rw : Nat → Nat → Int32) (k : Nat) : va_up (sOv rw k) k (upd (sOv rw k k) 4 0) = sOv rw (k + 1) := by
  funext j
  by_cases c : j = k
  · subst c
    rw [va_up_self]
    unfold sOv
    rw [if_neg (Nat.lt_irrefl _), if_pos (Nat.lt_succ_self _)]
  · rw [va_up_ne _ _ c]
    unfold sOv
    by_cases d : j < k
    · rw [if_pos d, if_pos (by omega)]
    · rw [if_neg d, if_neg (by omega)]
def sRow (a b : Nat) (mil : Int32) : Nat → Int32 := upd (upd (upd (upd (upd (fun _ => 0) 0 (nI a)) 1 (nI b)) 2 mil) 3 1) 4 0
set_option maxHeartbeats 40000000 in
set_option maxRecDepth 100000 in
theorem metS_place (l : Launch) (G : xG) (sz : Nat) (L : List Nat) (f : Nat → va_E) (aS : Nat) (v : Nat → Int32) (n : Nat) (xn : Nat → Nat) (xr : Nat → Nat → Int32) (nr : Nat) (rw : Nat → Nat → Int32) (sh ak : Nat → Int32) (wl : Nat) (wy : Nat → Nat → Int32) (mp : Nat → Nat → Bool) (mm : Nat → Nat → Nat → Int32) (S : Sh G L f aS v n xn xr nr rw sh ak wl wy mp mm) (hn : n ≤ 9) : pMv l yX4_place wsX4_place ⟨1, 2, 41, 23⟩ G [.ref aS] L f sz (fun u => Sh G u.1 u.2 aS (if v 4 < 0 then upd v 4 0 else v) (n + 1) (va_up xn n 0) xr nr rw sh ak wl wy mp mm) := by
  obtain ⟨ad, oo, om, hO, hA⟩ := S
  have hO : objS L f aS 4 [.ref (ad 0), .ref (ad 1), .ref (ad 2), .ref (ad 3), .int (v 4), .int (v 5), .int (v 6), .ref (ad 4), .ref (ad 5), .int (v 9), .int (v 10), .int (v 11), .int (v 12), .int (v 13)] := hO
  refine xof (own := RX4) (cc := cX4_place) (maxL := 1) (ret := none) rfl (by decide) rfl (Nat.le_of_ble_eq_true rfl) ?_
  intro pg en s mi below meth cd hc hnm hw ls hl
  obtain ⟨hx, hb, -, hown, hts, -⟩ := id hc
  have hl : lv_has ls 1 [(0, .ref aS)] := hl
  have hw : xW G _ s.heap (([] : va_W) ++ va_pl L f) s.heap [] := hw
  refine lv_aload_n hx hb dX4_place_0 rfl (lv_at hl 0 rfl) ?_
  refine lv_aload_n hx hb dX4_place_1 rfl (lv_at hl 0 rfl) ?_
  refine pget (C := RX4) (T := TX4) (N := 14) (ci := 4) hc hw inX4_place_X4 hO rfl 1 (by decide) lkX4_place_f15 rfl rfl dX4_place_2 ?_
  refine lv_iconst (v := 0) hx hb dX4_place_5 (by decide) ?_
  refine pnewI hc hw 0 rfl (by omega) lkX4_place_aI (by first | exact Nat.le_of_ble_eq_true rfl | ((try dsimp only); omega)) (by first | exact Nat.le_of_ble_eq_true rfl | ((try dsimp only); omega)) dX4_place_6 (fun q0 L1 f1 H hq0 k1 r1 hw => ?_)
  have hO := hO.kp k1 (fun z => z)
  have hA := hA.fresh k1
  obtain ⟨-, ⟨hE1, hE2⟩, -⟩ := id hA
  refine pcall_r hc hw (prunS (n := 2) (As := [.ref (ad 1), .ref q0]) (rest := [.ref aS]) hc hw (metS_more l G _ _ _ (ad 1) n q0 0 _ (oo 1) (by omega) hE1 (fun j hj => (by obtain ⟨-, b, e1, e2⟩ := hE2 j hj; exact ⟨b, _, _, e1, e2⟩)) r1) gX4_place_X4_more rfl (by decide +kernel) ⟨Nat.le_of_ble_eq_true rfl, Nat.le_of_ble_eq_true rfl⟩ rfl rfl hl.1 (Nat.le_of_ble_eq_true rfl) dX4_place_8 (by first | exact ⟨Nat.le_of_ble_eq_true rfl, Nat.le_of_ble_eq_true rfl⟩ | (refine ⟨?_, ?_⟩ <;> ((try dsimp only); omega)))) (fun r L2 f2 H locs hp hw => ?_)
  obtain ⟨hr, k2, o1, r2, r3, r4⟩ := hp
  obtain ⟨⟨n0, n1, n2, n3, n4, n5⟩, n6⟩ := hA.nin hr
  have hO := hO.kp k2 (fun z => z)
  have hA := hA.fresh k2
  have r1 := r1.kp k2 (fun z => z)
  refine pput (C := RX4) (T := TX4) (N := 14) (ci := 4) (ty := .int) hc hw inX4_place_X4 tyX4 tyX4_ok nmX4 hO rfl 1 (by decide) lkX4_place_f15 rfl rfl rfl rfl (Nat.le_of_ble_eq_true rfl) [.ref (ad 0), .ref r, .ref (ad 2), .ref (ad 3), .int (v 4), .int (v 5), .int (v 6), .ref (ad 4), .ref (ad 5), .int (v 9), .int (v 10), .int (v 11), .int (v 12), .int (v 13)] rfl dX4_place_11 (fun f H locs k3 hO3 hw => ?_)
  have r2 := r2.kp k3 (hO.neA r2).symm
  have r1 := r1.kp k3 (hO.neI r1).symm
  have hA := hA.obj hO k3
  have hO := hO3
  obtain ⟨-, ⟨hE1, hE2⟩, -⟩ := id hA
  refine lv_aload_n hx hb dX4_place_14 rfl (lv_at hl 0 rfl) ?_
  refine pget (C := RX4) (T := TX4) (N := 14) (ci := 4) hc hw inX4_place_X4 hO rfl 4 (by decide) lkX4_place_f25 rfl rfl dX4_place_15 ?_
  have hA := hA.newE (q := r) (n1 := n + 1) (o1 := o1) (xn1 := va_up xn n 0) (xr1 := xr) ⟨r2, fun j hj => ?_⟩ n0 n4 n5 n6
  rotate_left
  · by_cases ej : j = n
    · subst ej
      rw [va_up_self]
      exact ⟨by decide, q0, r4, r1.cg (fun i hi => absurd hi (by omega))⟩
    · obtain ⟨e0, b, e1, e2⟩ := hE2 j (by omega)
      rw [va_up_ne _ _ ej]
      exact ⟨e0, b, (r3 j (by omega)).trans e1, e2⟩
  refine lv_if_ge (tgt := 26) hx hb dX4_place_18 (by decide) (fun hz => ?_) (fun hz => ?_)
  · exact pret_v hc hw (⟨_, _, _, by rw [if_neg (by rw [xltI]; rw [xle] at hz; exact Int.not_lt.mpr hz)]; exact hO, hA⟩) (by first | exact ⟨Nat.le_of_ble_eq_true rfl, Nat.le_of_ble_eq_true rfl⟩ | (refine ⟨?_, ?_⟩ <;> ((try dsimp only); omega))) dX4_place_26
  · refine lv_aload_n hx hb dX4_place_21 rfl (lv_at hl 0 rfl) ?_
    refine lv_iconst (v := 0) hx hb dX4_place_22 (by decide) ?_
    refine pput (C := RX4) (T := TX4) (N := 14) (ci := 4) (ty := .int) hc hw inX4_place_X4 tyX4 tyX4_ok nmX4 hO rfl 4 (by decide) lkX4_place_f25 rfl rfl rfl rfl (Nat.le_of_ble_eq_true rfl) [.ref (ad 0), .ref r, .ref (ad 2), .ref (ad 3), .int 0, .int (v 5), .int (v 6), .ref (ad 4), .ref (ad 5), .int (v 9), .int (v 10), .int (v 11), .int (v 12), .int (v 13)] rfl dX4_place_23 (fun f H locs k4 hO4 hw => ?_)
    have hA := hA.obj hO k4
    have hO := hO4
    exact pret_v hc hw (⟨_, _, _, by rw [if_pos (by rw [xltI]; rw [xle] at hz; exact Int.not_le.mp hz)]; exact hO, hA⟩) (by first | exact ⟨Nat.le_of_ble_eq_true rfl, Nat.le_of_ble_eq_true rfl⟩ | (refine ⟨?_, ?_⟩ <;> ((try dsimp only); omega))) dX4_place_26
set_option maxHeartbeats 40000000 in
set_option maxRecDepth 100000 in
theorem metS_road (l : Launch) (G : xG) (sz : Nat) (L : List Nat) (f : Nat → va_E) (aS : Nat) (v : Nat → Int32) (n : Nat) (xn : Nat → Nat) (xr : Nat → Nat → Int32) (nr : Nat) (rw : Nat → Nat → Int32) (sh ak : Nat → Int32) (wl : Nat) (wy : Nat → Nat → Int32) (mp : Nat → Nat → Bool) (mm : Nat → Nat → Nat → Int32) (S : Sh G L f aS v n xn xr nr rw sh ak wl wy mp mm) (qa qb : Nat) (mil : Int32) (hqa : qa < n) (hqb : qb < n) (hne : qa ≠ qb) (hn10 : n ≤ 10) (hr20 : nr ≤ 19) (hxa : xn qa ≤ 3) (hxb : xn qb ≤ 3) : pMi l yX4_road wsX4_road ⟨1, 4, 56, 23⟩ G [.ref aS, .int (nI qa), .int (nI qb), .int mil] L f sz (fun r u => r = nI (xn qa) ∧ Sh G u.1 u.2 aS v n (va_up (va_up xn qa (xn qa + 1)) qb (xn qb + 1)) (va_up (va_up xr qa (upd (xr qa) (xn qa) (nI nr))) qb (upd (xr qb) (xn qb) (nI nr))) (nr + 1) (va_up rw nr (sRow qa qb mil)) sh ak wl wy mp mm) := by
  obtain ⟨ad, oo, om, hO, hA⟩ := S
  have hO : objS L f aS 4 [.ref (ad 0), .ref (ad 1), .ref (ad 2), .ref (ad 3), .int (v 4), .int (v 5), .int (v 6), .ref (ad 4), .ref (ad 5), .int (v 9), .int (v 10), .int (v 11), .int (v 12), .int (v 13)] := hO
  refine xof (own := RX4) (cc := cX4_road) (maxL := 4) (ret := (some .int)) rfl (by decide) rfl (Nat.le_of_ble_eq_true rfl) ?_
  intro pg en s mi below meth cd hc hnm hw ls hl
  obtain ⟨hx, hb, -, hown, hts, -⟩ := id hc
  have hl : lv_has ls 4 [(0, .ref aS), (1, .int (nI qa)), (2, .int (nI qb)), (3, .int mil)] := hl
  have hw : xW G _ s.heap (([] : va_W) ++ va_pl L f) s.heap [] := hw
  have hA0 := hA
  have hO0 := hO
  refine lv_aload_n hx hb dX4_road_0 rfl (lv_at hl 0 rfl) ?_
  refine lv_aload_n hx hb dX4_road_1 rfl (lv_at hl 0 rfl) ?_
  refine pget (C := RX4) (T := TX4) (N := 14) (ci := 4) hc hw inX4_road_X4 hO rfl 0 (by decide) lkX4_road_f9 rfl rfl dX4_road_2 ?_
  refine lv_iconst (v := 5) hx hb dX4_road_5 (by decide) ?_
  refine pnewI hc hw 5 rfl (by omega) lkX4_road_aI (by first | exact Nat.le_of_ble_eq_true rfl | ((try dsimp only); omega)) (by first | exact Nat.le_of_ble_eq_true rfl | ((try dsimp only); omega)) dX4_road_6 (fun q0 L1 f1 H hq0 k1 r1 hw => ?_)
  have hO := hO.kp k1 (fun z => z)
  obtain ⟨⟨m0, m1, m2, m3, m4, m5⟩, m6⟩ := hA.nin hq0
  have hA := hA.fresh k1
  have kq : pk (fun _ => False) L f L1 f1 := k1
  refine lv_dup hx hb dX4_road_8 rfl ?_
  refine lv_iconst (v := 0) hx hb dX4_road_9 (by decide) ?_
  refine lv_iload_n hx hb dX4_road_10 rfl (lv_at hl 1 rfl) ?_
  refine pist hc hw r1 0 rfl (by decide) (by omega) dX4_road_11 (fun f H locs k2 r2 hw => ?_)
  have kq := kq.off hq0 k2
  have r1 := r2
  refine lv_dup hx hb dX4_road_12 rfl ?_
  refine lv_iconst (v := 1) hx hb dX4_road_13 (by decide) ?_
  refine lv_iload_n hx hb dX4_road_14 rfl (lv_at hl 2 rfl) ?_
  refine pist hc hw r1 1 rfl (by decide) (by omega) dX4_road_15 (fun f H locs k2 r2 hw => ?_)
  have kq := kq.off hq0 k2
  have r1 := r2
  refine lv_dup hx hb dX4_road_16 rfl ?_
  refine lv_iconst (v := 2) hx hb dX4_road_17 (by decide) ?_
  refine lv_iload_n hx hb dX4_road_18 rfl (lv_at hl 3 rfl) ?_
  refine pist hc hw r1 2 rfl (by decide) (by omega) dX4_road_19 (fun f H locs k2 r2 hw => ?_)
  have kq := kq.off hq0 k2
  have r1 := r2
  refine lv_dup hx hb dX4_road_20 rfl ?_
  refine lv_iconst (v := 3) hx hb dX4_road_21 (by decide) ?_
  refine lv_iconst (v := 1) hx hb dX4_road_22 (by decide) ?_
  refine pist hc hw r1 3 rfl (by decide) (by omega) dX4_road_23 (fun f H locs k2 r2 hw => ?_)
  have kq := kq.off hq0 k2
  have r1 := r2
  refine lv_dup hx hb dX4_road_24 rfl ?_
  refine lv_iconst (v := 4) hx hb dX4_road_25 (by decide) ?_
  refine lv_iconst (v := 0) hx hb dX4_road_26 (by decide) ?_
  refine pist hc hw r1 4 rfl (by decide) (by omega) dX4_road_27 (fun f H locs k2 r2 hw => ?_)
  have kq := kq.off hq0 k2
  have r1 := r2
  have hA := hA0.fresh kq
  have hO := hO0.kp kq (fun z => z)
  obtain ⟨⟨hR1, hR2, hR3⟩, -⟩ := id hA
  refine pcall_r hc hw (prunS (n := 2) (As := [.ref (ad 0), .ref q0]) (rest := [.ref aS]) hc hw (metS_more l G _ _ _ (ad 0) nr q0 5 _ (oo 0) (by omega) hR1 (fun j hj => (by obtain ⟨b, e1, e2⟩ := hR2 j hj; exact ⟨b, _, _, e1, e2⟩)) r1) gX4_road_X4_more rfl (by decide +kernel) ⟨Nat.le_of_ble_eq_true rfl, Nat.le_of_ble_eq_true rfl⟩ rfl rfl hl.1 (Nat.le_of_ble_eq_true rfl) dX4_road_28 (by first | exact ⟨Nat.le_of_ble_eq_true rfl, Nat.le_of_ble_eq_true rfl⟩ | (refine ⟨?_, ?_⟩ <;> ((try dsimp only); omega)))) (fun r L2 f2 H locs hp hw => ?_)
  obtain ⟨hr, k2, o1, r2, r3, r4⟩ := hp
  obtain ⟨⟨n0, n1, n2, n3, n4, n5⟩, n6⟩ := hA.nin hr
  have hq1 : ∀ j b, j < nr → oo 0 j = some b → b ≠ q0 := fun j b hj e z => (by
    obtain ⟨b', e1, -⟩ := hA0.1.2.1 j hj
    obtain ⟨e2⟩ : b' = b := Option.some.inj (e1.symm.trans e)
    obtain ⟨b'', e3, e4⟩ := hA0.1.2.1 j hj
    cases e1.symm.trans e3
    exact hq0 (z ▸ e4.1))
  have hO := hO.kp k2 (fun z => z)
  have hA := hA.fresh k2
  have r1 := r1.kp k2 (fun z => z)
  refine pput (C := RX4) (T := TX4) (N := 14) (ci := 4) (ty := .int) hc hw inX4_road_X4 tyX4 tyX4_ok nmX4 hO rfl 0 (by decide) lkX4_road_f9 rfl rfl rfl rfl (Nat.le_of_ble_eq_true rfl) [.ref r, .ref (ad 1), .ref (ad 2), .ref (ad 3), .int (v 4), .int (v 5), .int (v 6), .ref (ad 4), .ref (ad 5), .int (v 9), .int (v 10), .int (v 11), .int (v 12), .int (v 13)] rfl dX4_road_31 (fun f H locs k3 hO3 hw => ?_)
  have r2 := r2.kp k3 (hO.neA r2).symm
  have r1 := r1.kp k3 (hO.neI r1).symm
  have hA := hA.obj hO k3
  have hO := hO3
  obtain ⟨⟨hR1, hR2, hR3⟩, -⟩ := id hA
  have hA := hA.newR (q := r) (nr1 := nr + 1) (o1 := o1) (rw1 := va_up rw nr (sRow qa qb mil)) ⟨r2, fun j hj => ?_, fun i j hi hj he => ?_⟩ n1.symm n6
  rotate_left
  · by_cases ej : j = nr
    · subst ej
      rw [va_up_self]
      exact ⟨q0, r4, r1⟩
    · obtain ⟨b, e1, e2⟩ := hR2 j (by omega)
      rw [va_up_ne _ _ ej]
      exact ⟨b, (r3 j (by omega)).trans e1, e2⟩
  · by_cases ei : i = nr <;> by_cases ej : j = nr
    · omega
    · obtain ⟨b, e1, e2⟩ := hR2 j (by omega)
      subst ei
      rw [r4, r3 j (by omega), e1] at he
      exact absurd (Option.some.inj he).symm (hq1 j b (by omega) e1)
    · obtain ⟨b, e1, e2⟩ := hR2 i (by omega)
      subst ej
      rw [r4, r3 i (by omega), e1] at he
      exact absurd (Option.some.inj he) (hq1 i b (by omega) e1)
    · rw [r3 i (by omega), r3 j (by omega)] at he
      exact hR3 i j (by omega) (by omega) he
  have hO : objS L2 f aS 4 [.ref ((va_up ad 0 r) 0), .ref (ad 1), .ref (ad 2), .ref (ad 3), .int (v 4), .int (v 5), .int (v 6), .ref (ad 4), .ref (ad 5), .int (v 9), .int (v 10), .int (v 11), .int (v 12), .int (v 13)] := hO
  obtain ⟨⟨hR1, hR2, hR3⟩, ⟨hE1, hE2⟩, -⟩ := id hA
  refine lv_aload_n hx hb dX4_road_34 rfl (lv_at hl 0 rfl) ?_
  refine pget (C := RX4) (T := TX4) (N := 14) (ci := 4) hc hw inX4_road_X4 hO rfl 1 (by decide) lkX4_road_f15 rfl rfl dX4_road_35 ?_
  refine lv_iload_n hx hb dX4_road_38 rfl (lv_at hl 1 rfl) ?_
  refine lv_aload_n hx hb dX4_road_39 rfl (lv_at hl 0 rfl) ?_
  refine pget (C := RX4) (T := TX4) (N := 14) (ci := 4) hc hw inX4_road_X4 hO rfl 1 (by decide) lkX4_road_f15 rfl rfl dX4_road_40 ?_
  refine lv_iload_n hx hb dX4_road_43 rfl (lv_at hl 1 rfl) ?_
  obtain ⟨xea, ea, ea1, ea2⟩ := hE2 qa hqa
  refine pald hc hw hE1 qa rfl hqa (by omega) (v := .ref ea) (by rw [ea1]; rfl) dX4_road_44 ?_
  refine lv_aload_n hx hb dX4_road_45 rfl (lv_at hl 0 rfl) ?_
  refine pget (C := RX4) (T := TX4) (N := 14) (ci := 4) hc hw inX4_road_X4 hO rfl 0 (by decide) lkX4_road_f9 rfl rfl dX4_road_46 ?_
  refine plenA hc hw hR1 dX4_road_49 ?_
  refine lv_iconst (v := 1) hx hb dX4_road_50 (by decide) ?_
  refine lv_isub hx hb dX4_road_51 ?_
  refine pcall_r hc hw (prunS (n := 2) (As := [.ref ea, .int ((nI (nr + 1)) - 1)]) (rest := [.int (nI qa), .ref (ad 1)]) hc hw (metS_more_ l G _ _ _ ea (xn qa) _ (xr qa) (by omega) ea2) gX4_road_X4_more_ rfl (by decide +kernel) ⟨Nat.le_of_ble_eq_true rfl, Nat.le_of_ble_eq_true rfl⟩ rfl rfl hl.1 (Nat.le_of_ble_eq_true rfl) dX4_road_52 (by first | exact ⟨Nat.le_of_ble_eq_true rfl, Nat.le_of_ble_eq_true rfl⟩ | (refine ⟨?_, ?_⟩ <;> ((try dsimp only); omega)))) (fun y L3 f3 H locs hp hw => ?_)
  obtain ⟨hy, k4, g1, y1, y2, y3⟩ := hp
  have hO := hO.kp k4 (fun z => z)
  have hA := hA.fresh k4
  obtain ⟨⟨hR1, hR2, hR3⟩, ⟨hE1, hE2⟩, -⟩ := id hA
  refine past hc hw hE1 qa rfl hqa (by omega) y1 dX4_road_55 (fun f H locs k5 r5 hw => ?_)
  have hA' := hA.setE (p := qa) (q := y) (m := xn qa + 1) (g1 := upd (xr qa) (xn qa) (nI nr)) k5 r5 (by omega) (y1.cg (fun j hj => ?_))
  rotate_left
  · by_cases ej : j = xn qa
    · subst ej; rw [pk_us, y3]; exact nI_pred nr
    · rw [pk_un ej]; exact y2 j (by omega)
  have hO := hO.kp k5 (hO.neA hE1)
  have hA := hA'
  obtain ⟨⟨hR1, hR2, hR3⟩, ⟨hE1, hE2⟩, -⟩ := id hA
  have xb : va_up xn qa (xn qa + 1) qb = xn qb := va_up_ne _ _ (Ne.symm hne)
  have xb2 : va_up xr qa (upd (xr qa) (xn qa) (nI nr)) qb = xr qb := va_up_ne _ _ (Ne.symm hne)
  refine lv_aload_n hx hb dX4_road_56 rfl (lv_at hl 0 rfl) ?_
  refine pget (C := RX4) (T := TX4) (N := 14) (ci := 4) hc hw inX4_road_X4 hO rfl 1 (by decide) lkX4_road_f15 rfl rfl dX4_road_57 ?_
  refine lv_iload_n hx hb dX4_road_60 rfl (lv_at hl 2 rfl) ?_
  refine lv_aload_n hx hb dX4_road_61 rfl (lv_at hl 0 rfl) ?_
  refine pget (C := RX4) (T := TX4) (N := 14) (ci := 4) hc hw inX4_road_X4 hO rfl 1 (by decide) lkX4_road_f15 rfl rfl dX4_road_62 ?_
  refine lv_iload_n hx hb dX4_road_65 rfl (lv_at hl 2 rfl) ?_
  obtain ⟨xeb, eb, eb1, eb2⟩ := hE2 qb hqb
  rw [xb, xb2] at eb2
  refine pald hc hw hE1 qb rfl hqb (by omega) (v := .ref eb) (by rw [eb1]; rfl) dX4_road_66 ?_
  refine lv_aload_n hx hb dX4_road_67 rfl (lv_at hl 0 rfl) ?_
  refine pget (C := RX4) (T := TX4) (N := 14) (ci := 4) hc hw inX4_road_X4 hO rfl 0 (by decide) lkX4_road_f9 rfl rfl dX4_road_68 ?_
  refine plenA hc hw hR1 dX4_road_71 ?_
  refine lv_iconst (v := 1) hx hb dX4_road_72 (by decide) ?_
  refine lv_isub hx hb dX4_road_73 ?_
  refine pcall_r hc hw (prunS (n := 2) (As := [.ref eb, .int ((nI (nr + 1)) - 1)]) (rest := [.int (nI qb), .ref (ad 1)]) hc hw (metS_more_ l G _ _ _ eb (xn qb) _ (xr qb) (by omega) eb2) gX4_road_X4_more_ rfl (by decide +kernel) ⟨Nat.le_of_ble_eq_true rfl, Nat.le_of_ble_eq_true rfl⟩ rfl rfl hl.1 (Nat.le_of_ble_eq_true rfl) dX4_road_74 (by first | exact ⟨Nat.le_of_ble_eq_true rfl, Nat.le_of_ble_eq_true rfl⟩ | (refine ⟨?_, ?_⟩ <;> ((try dsimp only); omega)))) (fun y L3 f3 H locs hp hw => ?_)
  obtain ⟨hy, k4, g1, y1, y2, y3⟩ := hp
  have hO := hO.kp k4 (fun z => z)
  have hA := hA.fresh k4
  obtain ⟨⟨hR1, hR2, hR3⟩, ⟨hE1, hE2⟩, -⟩ := id hA
  refine past hc hw hE1 qb rfl hqb (by omega) y1 dX4_road_77 (fun f H locs k5 r5 hw => ?_)
  have hA' := hA.setE (p := qb) (q := y) (m := xn qb + 1) (g1 := upd (xr qb) (xn qb) (nI nr)) k5 r5 (by omega) (y1.cg (fun j hj => ?_))
  rotate_left
  · by_cases ej : j = xn qb
    · subst ej; rw [pk_us, y3]; exact nI_pred nr
    · rw [pk_un ej]; exact y2 j (by omega)
  have hO := hO.kp k5 (hO.neA hE1)
  have hA := hA'
  obtain ⟨⟨hR1, hR2, hR3⟩, ⟨hE1, hE2⟩, -⟩ := id hA
  refine lv_aload_n hx hb dX4_road_78 rfl (lv_at hl 0 rfl) ?_
  refine pget (C := RX4) (T := TX4) (N := 14) (ci := 4) hc hw inX4_road_X4 hO rfl 1 (by decide) lkX4_road_f15 rfl rfl dX4_road_79 ?_
  refine lv_iload_n hx hb dX4_road_82 rfl (lv_at hl 1 rfl) ?_
  obtain ⟨xec, ec, ec1, ec2⟩ := hE2 qa hqa
  refine pald hc hw hE1 qa rfl hqa (by omega) (v := .ref ec) (by rw [ec1]; rfl) dX4_road_83 ?_
  refine plenI hc hw ec2 dX4_road_84 ?_
  refine lv_iconst (v := 1) hx hb dX4_road_85 (by decide) ?_
  refine lv_isub hx hb dX4_road_86 ?_
  have xa : va_up (va_up xn qa (xn qa + 1)) qb (xn qb + 1) qa = xn qa + 1 := by rw [va_up_ne _ _ hne, va_up_self]
  exact pret_i hc hw (⟨by rw [xa]; exact nI_pred _, _, _, _, hO, hA⟩) (by first | exact ⟨Nat.le_of_ble_eq_true rfl, Nat.le_of_ble_eq_true rfl⟩ | (refine ⟨?_, ?_⟩ <;> ((try dsimp only); omega))) dX4_road_87
