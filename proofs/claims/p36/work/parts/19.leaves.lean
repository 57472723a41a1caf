theorem inX4_to_X4 : ∀ w ∈ u_ws RX4 TX4 14, w ∈ wsX4_to := fun _ h => List.mem_cons_of_mem _ (List.mem_append_right _ h)
theorem lkX4_to_f9 : Cond.fieldLink RX4 9 "MapCarrierLaw$Sim" "roads" "[[I" ∈ wsX4_to := List.mem_of_getElem? (i := 1) (by decide +kernel)
theorem lkX4_to_f15 : Cond.fieldLink RX4 15 "MapCarrierLaw$Sim" "exits" "[[I" ∈ wsX4_to := List.mem_of_getElem? (i := 2) (by decide +kernel)
theorem inX4_isFree_X4 : ∀ w ∈ u_ws RX4 TX4 14, w ∈ wsX4_isFree := fun _ h => List.mem_cons_of_mem _ (List.mem_append_right _ h)
theorem lkX4_isFree_f9 : Cond.fieldLink RX4 9 "MapCarrierLaw$Sim" "roads" "[[I" ∈ wsX4_isFree := List.mem_of_getElem? (i := 1) (by decide +kernel)
theorem lkX4_isFree_f15 : Cond.fieldLink RX4 15 "MapCarrierLaw$Sim" "exits" "[[I" ∈ wsX4_isFree := List.mem_of_getElem? (i := 2) (by decide +kernel)
theorem lkX4_isFree_f25 : Cond.fieldLink RX4 25 "MapCarrierLaw$Sim" "where" "I" ∈ wsX4_isFree := List.mem_of_getElem? (i := 3) (by decide +kernel)
/-! the second carrier: what its methods answer, and their contracts: the leaves -/
/-- the land's rows are in range -/
def sX (n : Nat) (xn : Nat → Nat) (xr : Nat → Nat → Int32) (nr : Nat) (rw : Nat → Nat → Int32) : Prop := n ≤ 10 ∧ nr ≤ 20 ∧ (∀ q x, q < n → x < xn q → ∃ k, xr q x = nI k ∧ k < nr) ∧ ∀ k, k < nr → ∃ a b, rw k 0 = nI a ∧ a < n ∧ rw k 1 = nI b ∧ b < n
def sTo (rw xr : Nat → Nat → Int32) (q x : Nat) : Int32 := if rw (xr q x).toNatClampNeg 0 = nI q then rw (xr q x).toNatClampNeg 1 else rw (xr q x).toNatClampNeg 0
def sFr (rw xr : Nat → Nat → Int32) (q x : Nat) : Int32 := if rw (xr q x).toNatClampNeg 3 = 1 then (if rw (xr q x).toNatClampNeg 4 = 0 then 1 else 0) else 0
set_option maxHeartbeats 40000000 in
set_option maxRecDepth 100000 in
theorem metS_to (l : Launch) (G : xG) (sz : Nat) (L : List Nat) (f : Nat → va_E) (aS : Nat) (v : Nat → Int32) (n : Nat) (xn : Nat → Nat) (xr : Nat → Nat → Int32) (nr : Nat) (rw : Nat → Nat → Int32) (sh ak : Nat → Int32) (wl : Nat) (wy : Nat → Nat → Int32) (mp : Nat → Nat → Bool) (mm : Nat → Nat → Nat → Int32) (S : Sh G L f aS v n xn xr nr rw sh ak wl wy mp mm) (hX : sX n xn xr nr rw) (q x : Nat) (hq : q < n) (hx0 : x < xn q) : pMi l yX4_to wsX4_to ⟨0, 0, 0, 0⟩ G [.ref aS, .int (nI q), .int (nI x)] L f sz (fun r u => r = sTo rw xr q x ∧ u = (L, f)) := by
  obtain ⟨ad, oo, om, hO, hA⟩ := S
  obtain ⟨⟨hR1, hR2, hR3⟩, ⟨hE1, hE2⟩, hZ, ⟨hW1, hW2⟩, ⟨hM1, hM2, hM3⟩, hN⟩ := id hA
  have hO : objS L f aS 4 [.ref (ad 0), .ref (ad 1), .ref (ad 2), .ref (ad 3), .int (v 4), .int (v 5), .int (v 6), .ref (ad 4), .ref (ad 5), .int (v 9), .int (v 10), .int (v 11), .int (v 12), .int (v 13)] := hO
  obtain ⟨k, hk1, hk2⟩ := hX.2.2.1 q x hq hx0
  obtain ⟨hx4, ea, he1, he2⟩ := hE2 q hq
  obtain ⟨ra, hr1, hr2⟩ := hR2 k hk2
  have hn10 : n ≤ 10 := hX.1
  have hr20 : nr ≤ 20 := hX.2.1
  have hkc : (xr q x).toNatClampNeg = k := by rw [hk1, nI_clamp (by omega)]
  refine xof (own := RX4) (cc := cX4_to) (maxL := 4) (ret := (some .int)) rfl (by decide) rfl (Nat.le_of_ble_eq_true rfl) ?_
  intro pg en s mi below meth cd hc hnm hw ls hl
  obtain ⟨hx, hb, -, hown, hts, -⟩ := id hc
  have hl : lv_has ls 4 [(0, .ref aS), (1, .int (nI q)), (2, .int (nI x))] := hl
  have hw : xW G _ s.heap (([] : va_W) ++ va_pl L f) s.heap [] := hw
  refine lv_aload_n hx hb dX4_to_0 rfl (lv_at hl 0 rfl) ?_
  refine pget (C := RX4) (T := TX4) (N := 14) (ci := 4) hc hw inX4_to_X4 hO rfl 0 (by decide) lkX4_to_f9 rfl rfl dX4_to_1 ?_
  refine lv_aload_n hx hb dX4_to_4 rfl (lv_at hl 0 rfl) ?_
  refine pget (C := RX4) (T := TX4) (N := 14) (ci := 4) hc hw inX4_to_X4 hO rfl 1 (by decide) lkX4_to_f15 rfl rfl dX4_to_5 ?_
  refine lv_iload_n hx hb dX4_to_8 rfl (lv_at hl 1 rfl) ?_
  refine pald hc hw hE1 q rfl hq (by omega) (v := .ref ea) (by rw [he1]; rfl) dX4_to_9 ?_
  refine lv_iload_n hx hb dX4_to_10 rfl (lv_at hl 2 rfl) ?_
  refine pild hc hw he2 x rfl hx0 (by omega) (v := (nI k)) hk1 dX4_to_11 ?_
  refine pald hc hw hR1 k rfl hk2 (by omega) (v := .ref ra) (by rw [hr1]; rfl) dX4_to_12 ?_
  refine lv_astore_n (lv' := [(3, .ref ra), (0, .ref aS), (1, .int (nI q)), (2, .int (nI x))]) hx hb dX4_to_13 rfl hl (by decide) rfl (fun ls hl => ?_)
  refine lv_aload_n hx hb dX4_to_14 rfl (lv_at hl 0 rfl) ?_
  refine lv_iconst (v := 0) hx hb dX4_to_15 (by decide) ?_
  refine pild hc hw hr2 0 rfl (by decide) (by omega) (v := (rw k 0)) rfl dX4_to_16 ?_
  refine lv_iload_n hx hb dX4_to_17 rfl (lv_at hl 2 rfl) ?_
  refine lv_icmp_ne (tgt := 27) hx hb dX4_to_18 (by decide) (fun hz => ?_) (fun hz => ?_)
  · refine lv_aload_n hx hb dX4_to_27 rfl (lv_at hl 0 rfl) ?_
    refine lv_iconst (v := 0) hx hb dX4_to_28 (by decide) ?_
    refine pild hc hw hr2 0 rfl (by decide) (by omega) (v := (rw k 0)) rfl dX4_to_29 ?_
    exact pret_i hc hw (⟨by unfold sTo; rw [hkc, if_neg hz], rfl⟩) (by first | exact ⟨Nat.le_of_ble_eq_true rfl, Nat.le_of_ble_eq_true rfl⟩ | (refine ⟨?_, ?_⟩ <;> (dsimp only; omega))) dX4_to_30
  · refine lv_aload_n hx hb dX4_to_21 rfl (lv_at hl 0 rfl) ?_
    refine lv_iconst (v := 1) hx hb dX4_to_22 (by decide) ?_
    refine pild hc hw hr2 1 rfl (by decide) (by omega) (v := (rw k 1)) rfl dX4_to_23 ?_
    refine lv_goto (tgt := 30) hx hb dX4_to_24 (by decide) ?_
    exact pret_i hc hw (⟨by unfold sTo; rw [hkc, if_pos hz], rfl⟩) (by first | exact ⟨Nat.le_of_ble_eq_true rfl, Nat.le_of_ble_eq_true rfl⟩ | (refine ⟨?_, ?_⟩ <;> (dsimp only; omega))) dX4_to_30
set_option maxHeartbeats 40000000 in
set_option maxRecDepth 100000 in
theorem metS_isFree (l : Launch) (G : xG) (sz : Nat) (L : List Nat) (f : Nat → va_E) (aS : Nat) (v : Nat → Int32) (n : Nat) (xn : Nat → Nat) (xr : Nat → Nat → Int32) (nr : Nat) (rw : Nat → Nat → Int32) (sh ak : Nat → Int32) (wl : Nat) (wy : Nat → Nat → Int32) (mp : Nat → Nat → Bool) (mm : Nat → Nat → Nat → Int32) (S : Sh G L f aS v n xn xr nr rw sh ak wl wy mp mm) (hX : sX n xn xr nr rw) (q x : Nat) (hp : v 4 = nI q ∧ q < n) (hx0 : x < xn q) : pMi l yX4_isFree wsX4_isFree ⟨0, 0, 0, 0⟩ G [.ref aS, .int (nI x)] L f sz (fun r u => r = sFr rw xr q x ∧ u = (L, f)) := by
  obtain ⟨ad, oo, om, hO, hA⟩ := S
  obtain ⟨⟨hR1, hR2, hR3⟩, ⟨hE1, hE2⟩, hZ, ⟨hW1, hW2⟩, ⟨hM1, hM2, hM3⟩, hN⟩ := id hA
  have hO : objS L f aS 4 [.ref (ad 0), .ref (ad 1), .ref (ad 2), .ref (ad 3), .int (v 4), .int (v 5), .int (v 6), .ref (ad 4), .ref (ad 5), .int (v 9), .int (v 10), .int (v 11), .int (v 12), .int (v 13)] := hO
  obtain ⟨hqw, hq⟩ := hp
  obtain ⟨k, hk1, hk2⟩ := hX.2.2.1 q x hq hx0
  obtain ⟨hx4, ea, he1, he2⟩ := hE2 q hq
  obtain ⟨ra, hr1, hr2⟩ := hR2 k hk2
  have hn10 : n ≤ 10 := hX.1
  have hr20 : nr ≤ 20 := hX.2.1
  have hkc : (xr q x).toNatClampNeg = k := by rw [hk1, nI_clamp (by omega)]
  refine xof (own := RX4) (cc := cX4_isFree) (maxL := 2) (ret := (some .boolean)) rfl (by decide) rfl (Nat.le_of_ble_eq_true rfl) ?_
  intro pg en s mi below meth cd hc hnm hw ls hl
  obtain ⟨hx, hb, -, hown, hts, -⟩ := id hc
  have hl : lv_has ls 2 [(0, .ref aS), (1, .int (nI x))] := hl
  have hw : xW G _ s.heap (([] : va_W) ++ va_pl L f) s.heap [] := hw
  refine lv_aload_n hx hb dX4_isFree_0 rfl (lv_at hl 0 rfl) ?_
  refine pget (C := RX4) (T := TX4) (N := 14) (ci := 4) hc hw inX4_isFree_X4 hO rfl 0 (by decide) lkX4_isFree_f9 rfl rfl dX4_isFree_1 ?_
  refine lv_aload_n hx hb dX4_isFree_4 rfl (lv_at hl 0 rfl) ?_
  refine pget (C := RX4) (T := TX4) (N := 14) (ci := 4) hc hw inX4_isFree_X4 hO rfl 1 (by decide) lkX4_isFree_f15 rfl rfl dX4_isFree_5 ?_
  refine lv_aload_n hx hb dX4_isFree_8 rfl (lv_at hl 0 rfl) ?_
  refine pget (C := RX4) (T := TX4) (N := 14) (ci := 4) hc hw inX4_isFree_X4 hO rfl 4 (by decide) lkX4_isFree_f25 rfl rfl dX4_isFree_9 ?_
  refine pald hc hw hE1 q hqw hq (by omega) (v := .ref ea) (by rw [he1]; rfl) dX4_isFree_12 ?_
  refine lv_iload_n hx hb dX4_isFree_13 rfl (lv_at hl 1 rfl) ?_
  refine pild hc hw he2 x rfl hx0 (by omega) (v := (nI k)) hk1 dX4_isFree_14 ?_
  refine pald hc hw hR1 k rfl hk2 (by omega) (v := .ref ra) (by rw [hr1]; rfl) dX4_isFree_15 ?_
  refine lv_iconst (v := 3) hx hb dX4_isFree_16 (by decide) ?_
  refine pild hc hw hr2 3 rfl (by decide) (by omega) (v := (rw k 3)) rfl dX4_isFree_17 ?_
  refine lv_iconst (v := 1) hx hb dX4_isFree_18 (by decide) ?_
  refine lv_icmp_ne (tgt := 47) hx hb dX4_isFree_19 (by decide) (fun h3 => ?_) (fun h3 => ?_)
  · refine lv_iconst (v := 0) hx hb dX4_isFree_47 (by decide) ?_
    exact pret_z hc hw rfl (⟨by unfold sFr; rw [hkc]; rw [if_neg h3], rfl⟩) (by first | exact ⟨Nat.le_of_ble_eq_true rfl, Nat.le_of_ble_eq_true rfl⟩ | (refine ⟨?_, ?_⟩ <;> (dsimp only; omega))) dX4_isFree_48
  · refine lv_aload_n hx hb dX4_isFree_22 rfl (lv_at hl 0 rfl) ?_
    refine pget (C := RX4) (T := TX4) (N := 14) (ci := 4) hc hw inX4_isFree_X4 hO rfl 0 (by decide) lkX4_isFree_f9 rfl rfl dX4_isFree_23 ?_
    refine lv_aload_n hx hb dX4_isFree_26 rfl (lv_at hl 0 rfl) ?_
    refine pget (C := RX4) (T := TX4) (N := 14) (ci := 4) hc hw inX4_isFree_X4 hO rfl 1 (by decide) lkX4_isFree_f15 rfl rfl dX4_isFree_27 ?_
    refine lv_aload_n hx hb dX4_isFree_30 rfl (lv_at hl 0 rfl) ?_
    refine pget (C := RX4) (T := TX4) (N := 14) (ci := 4) hc hw inX4_isFree_X4 hO rfl 4 (by decide) lkX4_isFree_f25 rfl rfl dX4_isFree_31 ?_
    refine pald hc hw hE1 q hqw hq (by omega) (v := .ref ea) (by rw [he1]; rfl) dX4_isFree_34 ?_
    refine lv_iload_n hx hb dX4_isFree_35 rfl (lv_at hl 1 rfl) ?_
    refine pild hc hw he2 x rfl hx0 (by omega) (v := (nI k)) hk1 dX4_isFree_36 ?_
    refine pald hc hw hR1 k rfl hk2 (by omega) (v := .ref ra) (by rw [hr1]; rfl) dX4_isFree_37 ?_
    refine lv_iconst (v := 4) hx hb dX4_isFree_38 (by decide) ?_
    refine pild hc hw hr2 4 rfl (by decide) (by omega) (v := (rw k 4)) rfl dX4_isFree_39 ?_
    refine lv_if_ne (tgt := 47) hx hb dX4_isFree_40 (by decide) (fun h4 => ?_) (fun h4 => ?_)
    · refine lv_iconst (v := 0) hx hb dX4_isFree_47 (by decide) ?_
      exact pret_z hc hw rfl (⟨by unfold sFr; rw [hkc]; rw [if_pos h3, if_neg h4], rfl⟩) (by first | exact ⟨Nat.le_of_ble_eq_true rfl, Nat.le_of_ble_eq_true rfl⟩ | (refine ⟨?_, ?_⟩ <;> (dsimp only; omega))) dX4_isFree_48
    · refine lv_iconst (v := 1) hx hb dX4_isFree_43 (by decide) ?_
      refine lv_goto (tgt := 48) hx hb dX4_isFree_44 (by decide) ?_
      exact pret_z hc hw rfl (⟨by unfold sFr; rw [hkc]; rw [if_pos h3, if_pos h4], rfl⟩) (by first | exact ⟨Nat.le_of_ble_eq_true rfl, Nat.le_of_ble_eq_true rfl⟩ | (refine ⟨?_, ?_⟩ <;> (dsimp only; omega))) dX4_isFree_48
