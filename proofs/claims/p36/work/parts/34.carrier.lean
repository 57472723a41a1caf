theorem xinc {x : Int32} (h : 0 ≤ x.toInt) (h2 : x.toInt < 2147483647) : (x + 1).toInt = x.toInt + 1 := by
  obtain ⟨j, h1, h3, h4⟩ := xofI h
  rw [h3, nI_1, nI_toInt (by omega), nI_toInt h1]
  omega
theorem xdecI {x : Int32} (h : 0 < x.toInt) : (x - 1).toInt = x.toInt - 1 := by
  obtain ⟨j, h1, h3, h4⟩ := xofI (Int.le_of_lt h)
  obtain ⟨k, rfl⟩ : ∃ k, j = k + 1 := ⟨j - 1, by omega⟩
  rw [h3, nI_pred, nI_toInt (by omega), nI_toInt h1]
  omega
theorem xwp {x : Int32} (h : 0 ≤ x.toInt ∧ x.toInt ≤ 20) (c : ¬ x ≤ 0) : 0 < x.toInt ∧ x.toInt ≤ 20 := by
  rw [xle] at c
  have e : (0 : Int32).toInt = 0 := rfl
  omega
theorem xdecr {x : Int32} (h : 0 < x.toInt ∧ x.toInt ≤ 20) : 0 ≤ (x - 1).toInt ∧ (x - 1).toInt < 20 := by
  have := xdecI h.1
  omega
def FX0_isUnderway (go : Int32) : Int32 :=
  if go = (-1) then (0) else (1)
set_option maxHeartbeats 40000000 in
set_option maxRecDepth 100000 in
theorem metX0_isUnderway (l : Launch) (G : xG) (sz : Nat) (aC : Nat) (aL : Nat) (aM : Nat) (aWy : Nat) (aTr : Nat) (aAk : Nat) (po : Int32) (co : Int32) (go : Int32) (wl : Int32) (gu : Int32) (wk : Int32) (db : Int32) (dn : Int32) (iv : Int32) (qs : Int32) : xM l yX0_isUnderway wsX0_isUnderway ⟨0, 0, 0, 0⟩ G [.ref aC] [xO aC 0 [.ref aL, .ref aM, .int po, .int co, .int go, .ref aWy, .int wl, .ref aTr, .ref aAk, .int gu, .int wk, .int db, .int dn, .int iv, .int qs]] sz (xQi G [xO aC 0 [.ref aL, .ref aM, .int po, .int co, .int go, .ref aWy, .int wl, .ref aTr, .ref aAk, .int gu, .int wk, .int db, .int dn, .int iv, .int qs]] sz (fun (r : Int32) (_ : Unit) => r = FX0_isUnderway go) (fun u : Unit => [xO aC 0 [.ref aL, .ref aM, .int po, .int co, .int go, .ref aWy, .int wl, .ref aTr, .ref aAk, .int gu, .int wk, .int db, .int dn, .int iv, .int qs]])) := by
  refine xof (own := RX0) (cc := cX0_isUnderway) (maxL := 1) (ret := (some .boolean)) rfl (by decide) rfl (Nat.le_of_ble_eq_true rfl) ?_
  intro pg en s mi below meth cd hc hnm hw ls hl
  obtain ⟨hx, hb, -, hown, hts, -⟩ := id hc
  have hl : lv_has ls 1 [(0, .ref aC)] := hl
  refine lv_aload_n hx hb dX0_isUnderway_0 rfl (lv_at hl 0 rfl) ?_
  refine xget (C := RX0) (T := TX0) (N := 15) hc hw inX0_isUnderway_X0 0 rfl rfl 4 (by decide) lkX0_isUnderway_f18 rfl rfl dX0_isUnderway_1 ?_
  refine lv_iconst (v := (-1)) hx hb dX0_isUnderway_4 (by decide) ?_
  refine lv_icmp_eq (tgt := 12) hx hb dX0_isUnderway_5 (by decide) (fun c_1 => ?_) (fun c_1 => ?_)
  · refine lv_iconst (v := 0) hx hb dX0_isUnderway_12 (by decide) ?_
    exact xret_z () hc hw rfl (Eq.symm (if_pos c_1)) ⟨Nat.le_of_ble_eq_true rfl, Nat.le_of_ble_eq_true rfl⟩ dX0_isUnderway_13
  · refine lv_iconst (v := 1) hx hb dX0_isUnderway_8 (by decide) ?_
    refine lv_goto (tgt := 13) hx hb dX0_isUnderway_9 (by decide) ?_
    exact xret_z () hc hw rfl (Eq.symm (if_neg c_1)) ⟨Nat.le_of_ble_eq_true rfl, Nat.le_of_ble_eq_true rfl⟩ dX0_isUnderway_13
def FX0_hasTried (tr : Nat → Int32) (e : Int32) : Int32 :=
  xbind (FX3_isEnd e) (fun r2 => if r2 = 0 then (0) else (if (tr e.toNatClampNeg) = 0 then (0) else (1)))
set_option maxHeartbeats 40000000 in
set_option maxRecDepth 100000 in
theorem metX0_hasTried (l : Launch) (G : xG) (sz : Nat) (aC : Nat) (aL : Nat) (aM : Nat) (aWy : Nat) (aTr : Nat) (aAk : Nat) (po : Int32) (co : Int32) (go : Int32) (wl : Int32) (gu : Int32) (wk : Int32) (db : Int32) (dn : Int32) (iv : Int32) (qs : Int32) (tr : Nat → Int32) (e : Int32) : xM l yX0_hasTried wsX0_hasTried ⟨1, 0, 0, 20⟩ G [.ref aC, .int e] [xO aC 0 [.ref aL, .ref aM, .int po, .int co, .int go, .ref aWy, .int wl, .ref aTr, .ref aAk, .int gu, .int wk, .int db, .int dn, .int iv, .int qs], xAZ G aTr 40 tr] sz (xQi G [xO aC 0 [.ref aL, .ref aM, .int po, .int co, .int go, .ref aWy, .int wl, .ref aTr, .ref aAk, .int gu, .int wk, .int db, .int dn, .int iv, .int qs], xAZ G aTr 40 tr] sz (fun (r : Int32) (_ : Unit) => r = FX0_hasTried tr e) (fun u : Unit => [xO aC 0 [.ref aL, .ref aM, .int po, .int co, .int go, .ref aWy, .int wl, .ref aTr, .ref aAk, .int gu, .int wk, .int db, .int dn, .int iv, .int qs], xAZ G aTr 40 tr])) := by
  refine xof (own := RX0) (cc := cX0_hasTried) (maxL := 2) (ret := (some .boolean)) rfl (by decide) rfl (Nat.le_of_ble_eq_true rfl) ?_
  intro pg en s mi below meth cd hc hnm hw ls hl
  obtain ⟨hx, hb, -, hown, hts, -⟩ := id hc
  have hl : lv_has ls 2 [(0, .ref aC), (1, .int e)] := hl
  refine lv_iload_n hx hb dX0_hasTried_0 rfl (lv_at hl 1 rfl) ?_
  refine xcall_i (isC := []) hc hw (xrunSN (n := 1) (As := [.int e]) (rest := []) hc hw [] (metX3_isEnd l G _ e) gX0_hasTried_X3_isEnd_n56 nkX0_56 lkX0_hasTried_iiX3 lkX0_hasTried_isX3_isEnd rfl (by decide +kernel) ⟨Nat.le_of_ble_eq_true rfl, Nat.le_of_ble_eq_true rfl⟩ rfl rfl rfl rfl hl.1 (Nat.le_of_ble_eq_true rfl) dX0_hasTried_1 ⟨Nat.le_of_ble_eq_true rfl, Nat.le_of_ble_eq_true rfl⟩) rfl [0, 1] [0, 1] (fun u1 => [xO aC 0 [.ref aL, .ref aM, .int po, .int co, .int go, .ref aWy, .int wl, .ref aTr, .ref aAk, .int gu, .int wk, .int db, .int dn, .int iv, .int qs], xAZ G aTr 40 tr]) (fun _ => rfl) rfl rfl rfl rfl (fun r2 u1 H locs hp3 hw => ?_)
  refine lv_if_eq (tgt := 20) hx hb dX0_hasTried_4 (by decide) (fun c_5 => ?_) (fun c_5 => ?_)
  · refine lv_iconst (v := 0) hx hb dX0_hasTried_20 (by decide) ?_
    exact xret_z () hc hw rfl (Eq.symm (xb hp3 (if_pos c_5))) ⟨Nat.le_of_ble_eq_true rfl, Nat.le_of_ble_eq_true rfl⟩ dX0_hasTried_21
  · refine lv_aload_n hx hb dX0_hasTried_7 rfl (lv_at hl 0 rfl) ?_
    refine xget (C := RX0) (T := TX0) (N := 15) hc hw inX0_hasTried_X0 0 rfl rfl 7 (by decide) lkX0_hasTried_f26 rfl rfl dX0_hasTried_8 ?_
    refine lv_iload_n hx hb dX0_hasTried_11 rfl (lv_at hl 1 rfl) ?_
    refine xzald hc hw 1 rfl (xin (pX3_isEnd hp3 c_5)) dX0_hasTried_12 ?_
    refine lv_if_eq (tgt := 20) hx hb dX0_hasTried_13 (by decide) (fun c_6 => ?_) (fun c_6 => ?_)
    · refine lv_iconst (v := 0) hx hb dX0_hasTried_20 (by decide) ?_
      exact xret_z () hc hw rfl (Eq.symm (xb hp3 (Eq.trans (if_neg c_5) (if_pos c_6)))) ⟨Nat.le_of_ble_eq_true rfl, Nat.le_of_ble_eq_true rfl⟩ dX0_hasTried_21
    · refine lv_iconst (v := 1) hx hb dX0_hasTried_16 (by decide) ?_
      refine lv_goto (tgt := 21) hx hb dX0_hasTried_17 (by decide) ?_
      exact xret_z () hc hw rfl (Eq.symm (xb hp3 (Eq.trans (if_neg c_5) (if_neg c_6)))) ⟨Nat.le_of_ble_eq_true rfl, Nat.le_of_ble_eq_true rfl⟩ dX0_hasTried_21
def LX0_forget_a40 : Nat → Nat → (Nat → Int32) → (Nat → Int32)
  | 0, i, f => f
  | n + 1, i, f =>
    if 40 ≤ (nI i) then (f) else (LX0_forget_a40 n (i + 1) (upd f (nI i).toNatClampNeg 0))
set_option maxHeartbeats 40000000 in
set_option maxRecDepth 100000 in
theorem lpX0_forget_a40 {pg : Program} {l : Launch} {en : Env} {s : State} {mi : MethodId} {args : Array Value} {below : List Frame} {meth : Method} {cd : Code} {A : Nat → Prop} {Q : State → Prop} (G : xG) (hc : xC pg s mi args meth cd cX0_forget 2 RX0 wsX0_forget none G A) (aR : Nat) :
    ∀ (n i : Nat) (f : Nat → Int32), ((i : Nat) : Int) ≤ (40 : Int32).toInt → (40 : Int32).toInt < ((i + n : Nat) : Int) → ∀ (H : Heap) (locs : List Loc) (ls : Array Slot), xW G A s.heap [xAZ G aR 40 f] H locs → lv_has ls 2 [(0, .ref aR), (1, .int (nI i))] → (∀ (z : (Nat → Int32)), z = LX0_forget_a40 n i f → ∀ (H1 : Heap) (locs1 : List Loc) (ls1 : Array Slot), xW G A s.heap [xAZ G aR 40 z] H1 locs1 → lv_has ls1 2 [(0, .ref aR)] → W pg l en ⟨0, 0, 0, 0⟩ s mi args below meth cd H1 locs1 0 0 Q (F0 mi 18 ls1 [])) → W pg l en ⟨0, 0, 0, 0⟩ s mi args below meth cd H locs 0 0 Q (F0 mi 2 ls []) := by
  obtain ⟨hx, hb, -, hown, hts, -⟩ := id hc
  intro n
  induction n with
  | zero =>
    intro i f hlo hfu
    intros; exact absurd hfu (by omega)
  | succ n ih =>
    intro i f hlo hfu  H locs ls hw hl K
    refine lv_iload_n hx hb dX0_forget_2 rfl (lv_at hl 1 rfl) ?_
    refine lv_aload_n hx hb dX0_forget_3 rfl (lv_at hl 0 rfl) ?_
    refine xalenZ hc hw 0 rfl (v := 40) rfl dX0_forget_4 ?_
    refine lv_icmp_ge (tgt := 18) hx hb dX0_forget_5 (by decide) (fun c_1 => ?_) (fun c_1 => ?_)
    · exact K f (Eq.symm (if_pos c_1)) H locs ls hw (lv_sub hl [0] rfl)
    · refine lv_aload_n hx hb dX0_forget_8 rfl (lv_at hl 0 rfl) ?_
      refine lv_iload_n hx hb dX0_forget_9 rfl (lv_at hl 1 rfl) ?_
      refine lv_iconst (v := 0) hx hb dX0_forget_10 (by decide) ?_
      refine xzast hc hw 0 [xAZ G aR 40 (upd f (nI i).toNatClampNeg 0)] rfl (xinB hlo c_1 (by decide)) rfl rfl dX0_forget_11 (fun H locs hw => ?_)
      refine lv_iinc (v := nI (i + 1)) (lv' := [(1, .int (nI (i + 1))), (0, .ref aR)]) hx hb dX0_forget_12 hl (k := 1) rfl (nI_1 _) (by decide) rfl (fun ls hl => ?_)
      refine lv_goto (tgt := 2) hx hb dX0_forget_15 (by decide) ?_
      exact ih (i + 1) (upd f (nI i).toNatClampNeg 0) (xlt hlo c_1) (by omega) H locs ls hw (lv_sub hl [1, 0] rfl) (fun z e => K z (xtr1 (if_neg c_1) e))
def FX0_forget40 (f : Nat → Int32) : (Nat → Int32) :=
  xbind (LX0_forget_a40 41 0 f) (fun z2 => z2)
set_option maxHeartbeats 40000000 in
set_option maxRecDepth 100000 in
theorem metX0_forget40 (l : Launch) (G : xG) (sz : Nat) (aR : Nat) (f : Nat → Int32) : xM l yX0_forget wsX0_forget ⟨0, 0, 0, 0⟩ G [.ref aR] [xAZ G aR 40 f] sz (xQv G [xAZ G aR 40 f] sz (fun (u : (Nat → Int32)) => u = FX0_forget40 f) (fun u : (Nat → Int32) => [xAZ G aR 40 u])) := by
  refine xof (own := RX0) (cc := cX0_forget) (maxL := 2) (ret := none) rfl (by decide) rfl (Nat.le_of_ble_eq_true rfl) ?_
  intro pg en s mi below meth cd hc hnm hw ls hl
  obtain ⟨hx, hb, -, hown, hts, -⟩ := id hc
  have hl : lv_has ls 2 [(0, .ref aR)] := hl
  refine lv_iconst (v := 0) hx hb dX0_forget_0 (by decide) ?_
  refine lv_istore_n (lv' := [(1, .int 0), (0, .ref aR)]) hx hb dX0_forget_1 rfl hl (by decide) rfl (fun ls hl => ?_)
  refine lpX0_forget_a40 G hc aR 41 0 f (by decide) (by decide) _ _ _ hw (lv_sub hl [1, 0] rfl) (fun z2 ek3 H locs ls hw hl => ?_)
  exact xret_v z2 hc hw (Eq.symm (xb ek3 rfl)) ⟨Nat.le_of_ble_eq_true rfl, Nat.le_of_ble_eq_true rfl⟩ dX0_forget_18
def LX0_forget_a10 : Nat → Nat → (Nat → Int32) → (Nat → Int32)
  | 0, i, f => f
  | n + 1, i, f =>
    if 10 ≤ (nI i) then (f) else (LX0_forget_a10 n (i + 1) (upd f (nI i).toNatClampNeg 0))
set_option maxHeartbeats 40000000 in
set_option maxRecDepth 100000 in
theorem lpX0_forget_a10 {pg : Program} {l : Launch} {en : Env} {s : State} {mi : MethodId} {args : Array Value} {below : List Frame} {meth : Method} {cd : Code} {A : Nat → Prop} {Q : State → Prop} (G : xG) (hc : xC pg s mi args meth cd cX0_forget 2 RX0 wsX0_forget none G A) (aR : Nat) :
    ∀ (n i : Nat) (f : Nat → Int32), ((i : Nat) : Int) ≤ (10 : Int32).toInt → (10 : Int32).toInt < ((i + n : Nat) : Int) → ∀ (H : Heap) (locs : List Loc) (ls : Array Slot), xW G A s.heap [xAZ G aR 10 f] H locs → lv_has ls 2 [(0, .ref aR), (1, .int (nI i))] → (∀ (z : (Nat → Int32)), z = LX0_forget_a10 n i f → ∀ (H1 : Heap) (locs1 : List Loc) (ls1 : Array Slot), xW G A s.heap [xAZ G aR 10 z] H1 locs1 → lv_has ls1 2 [(0, .ref aR)] → W pg l en ⟨0, 0, 0, 0⟩ s mi args below meth cd H1 locs1 0 0 Q (F0 mi 18 ls1 [])) → W pg l en ⟨0, 0, 0, 0⟩ s mi args below meth cd H locs 0 0 Q (F0 mi 2 ls []) := by
  obtain ⟨hx, hb, -, hown, hts, -⟩ := id hc
  intro n
  induction n with
  | zero =>
    intro i f hlo hfu
    intros; exact absurd hfu (by omega)
  | succ n ih =>
    intro i f hlo hfu  H locs ls hw hl K
    refine lv_iload_n hx hb dX0_forget_2 rfl (lv_at hl 1 rfl) ?_
    refine lv_aload_n hx hb dX0_forget_3 rfl (lv_at hl 0 rfl) ?_
    refine xalenZ hc hw 0 rfl (v := 10) rfl dX0_forget_4 ?_
    refine lv_icmp_ge (tgt := 18) hx hb dX0_forget_5 (by decide) (fun c_1 => ?_) (fun c_1 => ?_)
    · exact K f (Eq.symm (if_pos c_1)) H locs ls hw (lv_sub hl [0] rfl)
    · refine lv_aload_n hx hb dX0_forget_8 rfl (lv_at hl 0 rfl) ?_
      refine lv_iload_n hx hb dX0_forget_9 rfl (lv_at hl 1 rfl) ?_
      refine lv_iconst (v := 0) hx hb dX0_forget_10 (by decide) ?_
      refine xzast hc hw 0 [xAZ G aR 10 (upd f (nI i).toNatClampNeg 0)] rfl (xinB hlo c_1 (by decide)) rfl rfl dX0_forget_11 (fun H locs hw => ?_)
      refine lv_iinc (v := nI (i + 1)) (lv' := [(1, .int (nI (i + 1))), (0, .ref aR)]) hx hb dX0_forget_12 hl (k := 1) rfl (nI_1 _) (by decide) rfl (fun ls hl => ?_)
      refine lv_goto (tgt := 2) hx hb dX0_forget_15 (by decide) ?_
      exact ih (i + 1) (upd f (nI i).toNatClampNeg 0) (xlt hlo c_1) (by omega) H locs ls hw (lv_sub hl [1, 0] rfl) (fun z e => K z (xtr1 (if_neg c_1) e))
def FX0_forget10 (f : Nat → Int32) : (Nat → Int32) :=
  xbind (LX0_forget_a10 11 0 f) (fun z2 => z2)
set_option maxHeartbeats 40000000 in
set_option maxRecDepth 100000 in
theorem metX0_forget10 (l : Launch) (G : xG) (sz : Nat) (aR : Nat) (f : Nat → Int32) : xM l yX0_forget wsX0_forget ⟨0, 0, 0, 0⟩ G [.ref aR] [xAZ G aR 10 f] sz (xQv G [xAZ G aR 10 f] sz (fun (u : (Nat → Int32)) => u = FX0_forget10 f) (fun u : (Nat → Int32) => [xAZ G aR 10 u])) := by
  refine xof (own := RX0) (cc := cX0_forget) (maxL := 2) (ret := none) rfl (by decide) rfl (Nat.le_of_ble_eq_true rfl) ?_
  intro pg en s mi below meth cd hc hnm hw ls hl
  obtain ⟨hx, hb, -, hown, hts, -⟩ := id hc
  have hl : lv_has ls 2 [(0, .ref aR)] := hl
  refine lv_iconst (v := 0) hx hb dX0_forget_0 (by decide) ?_
  refine lv_istore_n (lv' := [(1, .int 0), (0, .ref aR)]) hx hb dX0_forget_1 rfl hl (by decide) rfl (fun ls hl => ?_)
  refine lpX0_forget_a10 G hc aR 11 0 f (by decide) (by decide) _ _ _ hw (lv_sub hl [1, 0] rfl) (fun z2 ek3 H locs ls hw hl => ?_)
  exact xret_v z2 hc hw (Eq.symm (xb ek3 rfl)) ⟨Nat.le_of_ble_eq_true rfl, Nat.le_of_ble_eq_true rfl⟩ dX0_forget_18
def FX0_endErrand : (Int32) × (Int32) :=
  ((-1), 0)
set_option maxHeartbeats 40000000 in
set_option maxRecDepth 100000 in
theorem metX0_endErrand (l : Launch) (G : xG) (sz : Nat) (aC : Nat) (aL : Nat) (aM : Nat) (aWy : Nat) (aTr : Nat) (aAk : Nat) (po : Int32) (co : Int32) (go : Int32) (wl : Int32) (gu : Int32) (wk : Int32) (db : Int32) (dn : Int32) (iv : Int32) (qs : Int32) : xM l yX0_endErrand wsX0_endErrand ⟨0, 0, 0, 0⟩ G [.ref aC] [xO aC 0 [.ref aL, .ref aM, .int po, .int co, .int go, .ref aWy, .int wl, .ref aTr, .ref aAk, .int gu, .int wk, .int db, .int dn, .int iv, .int qs]] sz (xQv G [xO aC 0 [.ref aL, .ref aM, .int po, .int co, .int go, .ref aWy, .int wl, .ref aTr, .ref aAk, .int gu, .int wk, .int db, .int dn, .int iv, .int qs]] sz (fun (u : (Int32) × (Int32)) => u = FX0_endErrand) (fun u : (Int32) × (Int32) => [xO aC 0 [.ref aL, .ref aM, .int po, .int co, .int u.1, .ref aWy, .int u.2, .ref aTr, .ref aAk, .int gu, .int wk, .int db, .int dn, .int iv, .int qs]])) := by
  refine xof (own := RX0) (cc := cX0_endErrand) (maxL := 1) (ret := none) rfl (by decide) rfl (Nat.le_of_ble_eq_true rfl) ?_
  intro pg en s mi below meth cd hc hnm hw ls hl
  obtain ⟨hx, hb, -, hown, hts, -⟩ := id hc
  have hl : lv_has ls 1 [(0, .ref aC)] := hl
  refine lv_aload_n hx hb dX0_endErrand_0 rfl (lv_at hl 0 rfl) ?_
  refine lv_iconst (v := (-1)) hx hb dX0_endErrand_1 (by decide) ?_
  refine xput (C := RX0) (T := TX0) (N := 15) (ty := .int) hc hw inX0_endErrand_X0 tyX0 tyX0_ok nmX0 0 [xO aC 0 [.ref aL, .ref aM, .int po, .int co, .int (-1), .ref aWy, .int wl, .ref aTr, .ref aAk, .int gu, .int wk, .int db, .int dn, .int iv, .int qs]] rfl rfl 4 (by decide) lkX0_endErrand_f18 rfl rfl rfl rfl (Nat.le_of_ble_eq_true rfl) rfl dX0_endErrand_2 (fun H locs hw => ?_)
  refine lv_aload_n hx hb dX0_endErrand_5 rfl (lv_at hl 0 rfl) ?_
  refine lv_iconst (v := 0) hx hb dX0_endErrand_6 (by decide) ?_
  refine xput (C := RX0) (T := TX0) (N := 15) (ty := .int) hc hw inX0_endErrand_X0 tyX0 tyX0_ok nmX0 0 [xO aC 0 [.ref aL, .ref aM, .int po, .int co, .int (-1), .ref aWy, .int 0, .ref aTr, .ref aAk, .int gu, .int wk, .int db, .int dn, .int iv, .int qs]] rfl rfl 6 (by decide) lkX0_endErrand_f64 rfl rfl rfl rfl (Nat.le_of_ble_eq_true rfl) rfl dX0_endErrand_7 (fun H locs hw => ?_)
  obtain ⟨u0, hu0⟩ : ∃ z : (Int32) × (Int32), z = ((-1), 0) := ⟨_, rfl⟩
  refine xret_v u0 hc ?_ ?_ ⟨Nat.le_of_ble_eq_true rfl, Nat.le_of_ble_eq_true rfl⟩ dX0_endErrand_10
  · subst hu0; dsimp only; exact hw
  · subst hu0; exact Eq.symm rfl
def FX0_begin (po : Int32) (dn : Int32) (tr : Nat → Int32) (ak : Nat → Int32) (g : Int32) : (Int32) × (Int32) × (Int32) × (Nat → Int32) × (Nat → Int32) :=
  xbind (FX0_forget40 tr) (fun u1 => xbind (FX0_forget10 ak) (fun u5 => if po = g then (xbind (FX0_endErrand) (fun u10 => (u10.1, u10.2, dn + 1, u1, u5))) else ((g, 0, dn, u1, u5))))
set_option maxHeartbeats 40000000 in
set_option maxRecDepth 100000 in
theorem metX0_begin (l : Launch) (G : xG) (sz : Nat) (aC : Nat) (aL : Nat) (aM : Nat) (aWy : Nat) (aTr : Nat) (aAk : Nat) (po : Int32) (co : Int32) (go : Int32) (wl : Int32) (gu : Int32) (wk : Int32) (db : Int32) (dn : Int32) (iv : Int32) (qs : Int32) (tr : Nat → Int32) (ak : Nat → Int32) (g : Int32) : xM l yX0_begin wsX0_begin ⟨1, 0, 0, 21⟩ G [.ref aC, .int g] [xO aC 0 [.ref aL, .ref aM, .int po, .int co, .int go, .ref aWy, .int wl, .ref aTr, .ref aAk, .int gu, .int wk, .int db, .int dn, .int iv, .int qs], xAZ G aTr 40 tr, xAZ G aAk 10 ak] sz (xQv G [xO aC 0 [.ref aL, .ref aM, .int po, .int co, .int go, .ref aWy, .int wl, .ref aTr, .ref aAk, .int gu, .int wk, .int db, .int dn, .int iv, .int qs], xAZ G aTr 40 tr, xAZ G aAk 10 ak] sz (fun (u : (Int32) × (Int32) × (Int32) × (Nat → Int32) × (Nat → Int32)) => u = FX0_begin po dn tr ak g) (fun u : (Int32) × (Int32) × (Int32) × (Nat → Int32) × (Nat → Int32) => [xO aC 0 [.ref aL, .ref aM, .int po, .int co, .int u.1, .ref aWy, .int u.2.1, .ref aTr, .ref aAk, .int gu, .int wk, .int db, .int u.2.2.1, .int iv, .int qs], xAZ G aTr 40 u.2.2.2.1, xAZ G aAk 10 u.2.2.2.2])) := by
  refine xof (own := RX0) (cc := cX0_begin) (maxL := 2) (ret := none) rfl (by decide) rfl (Nat.le_of_ble_eq_true rfl) ?_
  intro pg en s mi below meth cd hc hnm hw ls hl
  obtain ⟨hx, hb, -, hown, hts, -⟩ := id hc
  have hl : lv_has ls 2 [(0, .ref aC), (1, .int g)] := hl
  refine lv_aload_n hx hb dX0_begin_0 rfl (lv_at hl 0 rfl) ?_
  refine xget (C := RX0) (T := TX0) (N := 15) hc hw inX0_begin_X0 0 rfl rfl 7 (by decide) lkX0_begin_f26 rfl rfl dX0_begin_1 ?_
  refine xcall_v (isC := [1]) hc hw (xrunS (n := 1) (As := [.ref aTr]) (rest := []) hc hw [1] (metX0_forget40 l G _ aTr tr) gX0_begin_X0_forget rfl (by decide +kernel) ⟨Nat.le_of_ble_eq_true rfl, Nat.le_of_ble_eq_true rfl⟩ rfl rfl rfl rfl hl.1 (Nat.le_of_ble_eq_true rfl) dX0_begin_4 ⟨Nat.le_of_ble_eq_true rfl, Nat.le_of_ble_eq_true rfl⟩) rfl [0, 2] [0, 2, 1] (fun u1 => [xO aC 0 [.ref aL, .ref aM, .int po, .int co, .int go, .ref aWy, .int wl, .ref aTr, .ref aAk, .int gu, .int wk, .int db, .int dn, .int iv, .int qs], xAZ G aTr 40 u1, xAZ G aAk 10 ak]) (fun _ => rfl) rfl rfl rfl rfl (fun u1 H locs hp3 hw => ?_)
  refine lv_aload_n hx hb dX0_begin_7 rfl (lv_at hl 0 rfl) ?_
  refine xget (C := RX0) (T := TX0) (N := 15) hc hw inX0_begin_X0 0 rfl rfl 8 (by decide) lkX0_begin_f30 rfl rfl dX0_begin_8 ?_
  refine xcall_v (isC := [2]) hc hw (xrunS (n := 1) (As := [.ref aAk]) (rest := []) hc hw [2] (metX0_forget10 l G _ aAk ak) gX0_begin_X0_forget rfl (by decide +kernel) ⟨Nat.le_of_ble_eq_true rfl, Nat.le_of_ble_eq_true rfl⟩ rfl rfl rfl rfl hl.1 (Nat.le_of_ble_eq_true rfl) dX0_begin_11 ⟨Nat.le_of_ble_eq_true rfl, Nat.le_of_ble_eq_true rfl⟩) rfl [0, 1] [0, 1, 2] (fun u5 => [xO aC 0 [.ref aL, .ref aM, .int po, .int co, .int go, .ref aWy, .int wl, .ref aTr, .ref aAk, .int gu, .int wk, .int db, .int dn, .int iv, .int qs], xAZ G aTr 40 u1, xAZ G aAk 10 u5]) (fun _ => rfl) rfl rfl rfl rfl (fun u5 H locs hp7 hw => ?_)
  refine lv_aload_n hx hb dX0_begin_14 rfl (lv_at hl 0 rfl) ?_
  refine lv_iconst (v := 0) hx hb dX0_begin_15 (by decide) ?_
  refine xput (C := RX0) (T := TX0) (N := 15) (ty := .int) hc hw inX0_begin_X0 tyX0 tyX0_ok nmX0 0 [xO aC 0 [.ref aL, .ref aM, .int po, .int co, .int go, .ref aWy, .int 0, .ref aTr, .ref aAk, .int gu, .int wk, .int db, .int dn, .int iv, .int qs], xAZ G aTr 40 u1, xAZ G aAk 10 u5] rfl rfl 6 (by decide) lkX0_begin_f64 rfl rfl rfl rfl (Nat.le_of_ble_eq_true rfl) rfl dX0_begin_16 (fun H locs hw => ?_)
  refine lv_aload_n hx hb dX0_begin_19 rfl (lv_at hl 0 rfl) ?_
  refine lv_iload_n hx hb dX0_begin_20 rfl (lv_at hl 1 rfl) ?_
  refine xput (C := RX0) (T := TX0) (N := 15) (ty := .int) hc hw inX0_begin_X0 tyX0 tyX0_ok nmX0 0 [xO aC 0 [.ref aL, .ref aM, .int po, .int co, .int g, .ref aWy, .int 0, .ref aTr, .ref aAk, .int gu, .int wk, .int db, .int dn, .int iv, .int qs], xAZ G aTr 40 u1, xAZ G aAk 10 u5] rfl rfl 4 (by decide) lkX0_begin_f18 rfl rfl rfl rfl (Nat.le_of_ble_eq_true rfl) rfl dX0_begin_21 (fun H locs hw => ?_)
  refine lv_aload_n hx hb dX0_begin_24 rfl (lv_at hl 0 rfl) ?_
  refine xget (C := RX0) (T := TX0) (N := 15) hc hw inX0_begin_X0 0 rfl rfl 2 (by decide) lkX0_begin_f40 rfl rfl dX0_begin_25 ?_
  refine lv_aload_n hx hb dX0_begin_28 rfl (lv_at hl 0 rfl) ?_
  refine xget (C := RX0) (T := TX0) (N := 15) hc hw inX0_begin_X0 0 rfl rfl 4 (by decide) lkX0_begin_f18 rfl rfl dX0_begin_29 ?_
  refine lv_icmp_ne (tgt := 49) hx hb dX0_begin_32 (by decide) (fun c_9 => ?_) (fun c_9 => ?_)
  · obtain ⟨u0, hu0⟩ : ∃ z : (Int32) × (Int32) × (Int32) × (Nat → Int32) × (Nat → Int32), z = (g, 0, dn, u1, u5) := ⟨_, rfl⟩
    refine xret_v u0 hc ?_ ?_ ⟨Nat.le_of_ble_eq_true rfl, Nat.le_of_ble_eq_true rfl⟩ dX0_begin_49
    · subst hu0; dsimp only; exact hw
    · subst hu0; exact Eq.symm (xb hp3 (xb hp7 (if_neg c_9)))
  · refine lv_aload_n hx hb dX0_begin_35 rfl (lv_at hl 0 rfl) ?_
    refine lv_dup hx hb dX0_begin_36 rfl ?_
    refine xget (C := RX0) (T := TX0) (N := 15) hc hw inX0_begin_X0 0 rfl rfl 12 (by decide) lkX0_begin_f67 rfl rfl dX0_begin_37 ?_
    refine lv_iconst (v := 1) hx hb dX0_begin_40 (by decide) ?_
    refine lv_iadd hx hb dX0_begin_41 ?_
    refine xput (C := RX0) (T := TX0) (N := 15) (ty := .int) hc hw inX0_begin_X0 tyX0 tyX0_ok nmX0 0 [xO aC 0 [.ref aL, .ref aM, .int po, .int co, .int g, .ref aWy, .int 0, .ref aTr, .ref aAk, .int gu, .int wk, .int db, .int (dn + 1), .int iv, .int qs], xAZ G aTr 40 u1, xAZ G aAk 10 u5] rfl rfl 12 (by decide) lkX0_begin_f67 rfl rfl rfl rfl (Nat.le_of_ble_eq_true rfl) rfl dX0_begin_42 (fun H locs hw => ?_)
    refine lv_aload_n hx hb dX0_begin_45 rfl (lv_at hl 0 rfl) ?_
    refine xcall_v (isC := [0]) hc hw (xrunV (n := 0) (As := []) (rest := []) hc hw [0] (metX0_endErrand l G _ aC aL aM aWy aTr aAk po co g 0 gu wk db (dn + 1) iv qs) gX0_begin_X0_endErrand rfl (by decide +kernel) ⟨Nat.le_of_ble_eq_true rfl, Nat.le_of_ble_eq_true rfl⟩ 0 rfl rfl rfl rfl rfl rfl hl.1 (Nat.le_of_ble_eq_true rfl) dX0_begin_46 ⟨Nat.le_of_ble_eq_true rfl, Nat.le_of_ble_eq_true rfl⟩) rfl [1, 2] [2, 0, 1] (fun u10 => [xO aC 0 [.ref aL, .ref aM, .int po, .int co, .int u10.1, .ref aWy, .int u10.2, .ref aTr, .ref aAk, .int gu, .int wk, .int db, .int (dn + 1), .int iv, .int qs], xAZ G aTr 40 u1, xAZ G aAk 10 u5]) (fun _ => rfl) rfl rfl rfl rfl (fun u10 H locs hp12 hw => ?_)
    obtain ⟨u0, hu0⟩ : ∃ z : (Int32) × (Int32) × (Int32) × (Nat → Int32) × (Nat → Int32), z = (u10.1, u10.2, dn + 1, u1, u5) := ⟨_, rfl⟩
    refine xret_v u0 hc ?_ ?_ ⟨Nat.le_of_ble_eq_true rfl, Nat.le_of_ble_eq_true rfl⟩ dX0_begin_49
    · subst hu0; dsimp only; exact hw
    · subst hu0; exact Eq.symm (xb hp3 (xb hp7 (Eq.trans (if_pos c_9) (xb hp12 rfl))))
def FX0_startLike (tmx : Nat → Int32) (tms : Nat → Int32) (po : Int32) (co : Int32) (mx : Nat → Int32) (ms : Nat → Int32) (g : Int32) : (Int32) × (Int32) × (Int32) × (Int32) × (Int32) × (Nat → Int32) × (Nat → Int32) :=
  xbind (FX2_copyFrom tmx tms mx ms) (fun u1 => (po, co, g, 0, 0, u1.1, u1.2))
set_option maxHeartbeats 40000000 in
set_option maxRecDepth 100000 in
theorem metX0_startLike (l : Launch) (G : xG) (sz : Nat) (aT : Nat) (aL : Nat) (aN : Nat) (bWy : Nat) (bTr : Nat) (bAk : Nat) (aNx : Nat) (aNs : Nat) (aC : Nat) (aM : Nat) (aWy : Nat) (aTr : Nat) (aAk : Nat) (aMx : Nat) (aMs : Nat) (tpo : Int32) (tco : Int32) (tgo : Int32) (twl : Int32) (tgu : Int32) (twk : Int32) (tdb : Int32) (tdn : Int32) (tiv : Int32) (tqs : Int32) (tmx : Nat → Int32) (tms : Nat → Int32) (po : Int32) (co : Int32) (go : Int32) (wl : Int32) (gu : Int32) (wk : Int32) (db : Int32) (dn : Int32) (iv : Int32) (qs : Int32) (mx : Nat → Int32) (ms : Nat → Int32) (g : Int32) : xM l yX0_startLike wsX0_startLike ⟨2, 0, 0, 81⟩ G [.ref aT, .ref aC, .int g] [xO aT 0 [.ref aL, .ref aN, .int tpo, .int tco, .int tgo, .ref bWy, .int twl, .ref bTr, .ref bAk, .int tgu, .int twk, .int tdb, .int tdn, .int tiv, .int tqs], xO aN 2 [.ref aNx, .ref aNs], xAI G aNx 100 tmx, xAI G aNs 100 tms, xO aC 0 [.ref aL, .ref aM, .int po, .int co, .int go, .ref aWy, .int wl, .ref aTr, .ref aAk, .int gu, .int wk, .int db, .int dn, .int iv, .int qs], xO aM 2 [.ref aMx, .ref aMs], xAI G aMx 100 mx, xAI G aMs 100 ms] sz (xQv G [xO aT 0 [.ref aL, .ref aN, .int tpo, .int tco, .int tgo, .ref bWy, .int twl, .ref bTr, .ref bAk, .int tgu, .int twk, .int tdb, .int tdn, .int tiv, .int tqs], xO aN 2 [.ref aNx, .ref aNs], xAI G aNx 100 tmx, xAI G aNs 100 tms, xO aC 0 [.ref aL, .ref aM, .int po, .int co, .int go, .ref aWy, .int wl, .ref aTr, .ref aAk, .int gu, .int wk, .int db, .int dn, .int iv, .int qs], xO aM 2 [.ref aMx, .ref aMs], xAI G aMx 100 mx, xAI G aMs 100 ms] sz (fun (u : (Int32) × (Int32) × (Int32) × (Int32) × (Int32) × (Nat → Int32) × (Nat → Int32)) => u = FX0_startLike tmx tms po co mx ms g) (fun u : (Int32) × (Int32) × (Int32) × (Int32) × (Int32) × (Nat → Int32) × (Nat → Int32) => [xO aT 0 [.ref aL, .ref aN, .int u.1, .int u.2.1, .int tgo, .ref bWy, .int twl, .ref bTr, .ref bAk, .int u.2.2.1, .int u.2.2.2.1, .int tdb, .int tdn, .int u.2.2.2.2.1, .int tqs], xO aN 2 [.ref aNx, .ref aNs], xAI G aNx 100 u.2.2.2.2.2.1, xAI G aNs 100 u.2.2.2.2.2.2, xO aC 0 [.ref aL, .ref aM, .int po, .int co, .int go, .ref aWy, .int wl, .ref aTr, .ref aAk, .int gu, .int wk, .int db, .int dn, .int iv, .int qs], xO aM 2 [.ref aMx, .ref aMs], xAI G aMx 100 mx, xAI G aMs 100 ms])) := by
  refine xof (own := RX0) (cc := cX0_startLike) (maxL := 3) (ret := none) rfl (by decide) rfl (Nat.le_of_ble_eq_true rfl) ?_
  intro pg en s mi below meth cd hc hnm hw ls hl
  obtain ⟨hx, hb, -, hown, hts, -⟩ := id hc
  have hl : lv_has ls 3 [(0, .ref aT), (1, .ref aC), (2, .int g)] := hl
  refine lv_aload_n hx hb dX0_startLike_0 rfl (lv_at hl 0 rfl) ?_
  refine lv_aload_n hx hb dX0_startLike_1 rfl (lv_at hl 1 rfl) ?_
  refine xget (C := RX0) (T := TX0) (N := 15) hc hw inX0_startLike_X0 4 rfl rfl 2 (by decide) lkX0_startLike_f40 rfl rfl dX0_startLike_2 ?_
  refine xput (C := RX0) (T := TX0) (N := 15) (ty := .int) hc hw inX0_startLike_X0 tyX0 tyX0_ok nmX0 0 [xO aT 0 [.ref aL, .ref aN, .int po, .int tco, .int tgo, .ref bWy, .int twl, .ref bTr, .ref bAk, .int tgu, .int twk, .int tdb, .int tdn, .int tiv, .int tqs], xO aN 2 [.ref aNx, .ref aNs], xAI G aNx 100 tmx, xAI G aNs 100 tms, xO aC 0 [.ref aL, .ref aM, .int po, .int co, .int go, .ref aWy, .int wl, .ref aTr, .ref aAk, .int gu, .int wk, .int db, .int dn, .int iv, .int qs], xO aM 2 [.ref aMx, .ref aMs], xAI G aMx 100 mx, xAI G aMs 100 ms] rfl rfl 2 (by decide) lkX0_startLike_f40 rfl rfl rfl rfl (Nat.le_of_ble_eq_true rfl) rfl dX0_startLike_5 (fun H locs hw => ?_)
  refine lv_aload_n hx hb dX0_startLike_8 rfl (lv_at hl 0 rfl) ?_
  refine lv_aload_n hx hb dX0_startLike_9 rfl (lv_at hl 1 rfl) ?_
  refine xget (C := RX0) (T := TX0) (N := 15) hc hw inX0_startLike_X0 4 rfl rfl 3 (by decide) lkX0_startLike_f43 rfl rfl dX0_startLike_10 ?_
  refine xput (C := RX0) (T := TX0) (N := 15) (ty := .int) hc hw inX0_startLike_X0 tyX0 tyX0_ok nmX0 0 [xO aT 0 [.ref aL, .ref aN, .int po, .int co, .int tgo, .ref bWy, .int twl, .ref bTr, .ref bAk, .int tgu, .int twk, .int tdb, .int tdn, .int tiv, .int tqs], xO aN 2 [.ref aNx, .ref aNs], xAI G aNx 100 tmx, xAI G aNs 100 tms, xO aC 0 [.ref aL, .ref aM, .int po, .int co, .int go, .ref aWy, .int wl, .ref aTr, .ref aAk, .int gu, .int wk, .int db, .int dn, .int iv, .int qs], xO aM 2 [.ref aMx, .ref aMs], xAI G aMx 100 mx, xAI G aMs 100 ms] rfl rfl 3 (by decide) lkX0_startLike_f43 rfl rfl rfl rfl (Nat.le_of_ble_eq_true rfl) rfl dX0_startLike_13 (fun H locs hw => ?_)
  refine lv_aload_n hx hb dX0_startLike_16 rfl (lv_at hl 0 rfl) ?_
  refine xget (C := RX0) (T := TX0) (N := 15) hc hw inX0_startLike_X0 0 rfl rfl 1 (by decide) lkX0_startLike_f12 rfl rfl dX0_startLike_17 ?_
  refine lv_aload_n hx hb dX0_startLike_20 rfl (lv_at hl 1 rfl) ?_
  refine xget (C := RX0) (T := TX0) (N := 15) hc hw inX0_startLike_X0 4 rfl rfl 1 (by decide) lkX0_startLike_f12 rfl rfl dX0_startLike_21 ?_
  refine xcall_v (isC := [1, 2, 3, 5, 6, 7]) hc hw (xrunV (n := 1) (As := [.ref aM]) (rest := []) hc hw [1, 2, 3, 5, 6, 7] (metX2_copyFrom l G _ aN aNx aNs aM aMx aMs tmx tms mx ms) gX0_startLike_X2_copyFrom rfl (by decide +kernel) ⟨Nat.le_of_ble_eq_true rfl, Nat.le_of_ble_eq_true rfl⟩ 1 rfl rfl rfl rfl rfl rfl hl.1 (Nat.le_of_ble_eq_true rfl) dX0_startLike_24 ⟨Nat.le_of_ble_eq_true rfl, Nat.le_of_ble_eq_true rfl⟩) rfl [0, 4] [0, 2, 3, 4, 1, 5, 6, 7] (fun u1 => [xO aT 0 [.ref aL, .ref aN, .int po, .int co, .int tgo, .ref bWy, .int twl, .ref bTr, .ref bAk, .int tgu, .int twk, .int tdb, .int tdn, .int tiv, .int tqs], xO aN 2 [.ref aNx, .ref aNs], xAI G aNx 100 u1.1, xAI G aNs 100 u1.2, xO aC 0 [.ref aL, .ref aM, .int po, .int co, .int go, .ref aWy, .int wl, .ref aTr, .ref aAk, .int gu, .int wk, .int db, .int dn, .int iv, .int qs], xO aM 2 [.ref aMx, .ref aMs], xAI G aMx 100 mx, xAI G aMs 100 ms]) (fun _ => rfl) rfl rfl rfl rfl (fun u1 H locs hp3 hw => ?_)
  refine lv_aload_n hx hb dX0_startLike_27 rfl (lv_at hl 0 rfl) ?_
  refine lv_iload_n hx hb dX0_startLike_28 rfl (lv_at hl 2 rfl) ?_
  refine xput (C := RX0) (T := TX0) (N := 15) (ty := .int) hc hw inX0_startLike_X0 tyX0 tyX0_ok nmX0 0 [xO aT 0 [.ref aL, .ref aN, .int po, .int co, .int tgo, .ref bWy, .int twl, .ref bTr, .ref bAk, .int g, .int twk, .int tdb, .int tdn, .int tiv, .int tqs], xO aN 2 [.ref aNx, .ref aNs], xAI G aNx 100 u1.1, xAI G aNs 100 u1.2, xO aC 0 [.ref aL, .ref aM, .int po, .int co, .int go, .ref aWy, .int wl, .ref aTr, .ref aAk, .int gu, .int wk, .int db, .int dn, .int iv, .int qs], xO aM 2 [.ref aMx, .ref aMs], xAI G aMx 100 mx, xAI G aMs 100 ms] rfl rfl 9 (by decide) lkX0_startLike_f33 rfl rfl rfl rfl (Nat.le_of_ble_eq_true rfl) rfl dX0_startLike_29 (fun H locs hw => ?_)
  refine lv_aload_n hx hb dX0_startLike_32 rfl (lv_at hl 0 rfl) ?_
  refine lv_iconst (v := 0) hx hb dX0_startLike_33 (by decide) ?_
  refine xput (C := RX0) (T := TX0) (N := 15) (ty := .int) hc hw inX0_startLike_X0 tyX0 tyX0_ok nmX0 0 [xO aT 0 [.ref aL, .ref aN, .int po, .int co, .int tgo, .ref bWy, .int twl, .ref bTr, .ref bAk, .int g, .int 0, .int tdb, .int tdn, .int tiv, .int tqs], xO aN 2 [.ref aNx, .ref aNs], xAI G aNx 100 u1.1, xAI G aNs 100 u1.2, xO aC 0 [.ref aL, .ref aM, .int po, .int co, .int go, .ref aWy, .int wl, .ref aTr, .ref aAk, .int gu, .int wk, .int db, .int dn, .int iv, .int qs], xO aM 2 [.ref aMx, .ref aMs], xAI G aMx 100 mx, xAI G aMs 100 ms] rfl rfl 10 (by decide) lkX0_startLike_f50 rfl rfl rfl rfl (Nat.le_of_ble_eq_true rfl) rfl dX0_startLike_34 (fun H locs hw => ?_)
  refine lv_aload_n hx hb dX0_startLike_37 rfl (lv_at hl 0 rfl) ?_
  refine lv_iconst (v := 0) hx hb dX0_startLike_38 (by decide) ?_
  refine xput (C := RX0) (T := TX0) (N := 15) (ty := .int) hc hw inX0_startLike_X0 tyX0 tyX0_ok nmX0 0 [xO aT 0 [.ref aL, .ref aN, .int po, .int co, .int tgo, .ref bWy, .int twl, .ref bTr, .ref bAk, .int g, .int 0, .int tdb, .int tdn, .int 0, .int tqs], xO aN 2 [.ref aNx, .ref aNs], xAI G aNx 100 u1.1, xAI G aNs 100 u1.2, xO aC 0 [.ref aL, .ref aM, .int po, .int co, .int go, .ref aWy, .int wl, .ref aTr, .ref aAk, .int gu, .int wk, .int db, .int dn, .int iv, .int qs], xO aM 2 [.ref aMx, .ref aMs], xAI G aMx 100 mx, xAI G aMs 100 ms] rfl rfl 13 (by decide) lkX0_startLike_f53 rfl rfl rfl rfl (Nat.le_of_ble_eq_true rfl) rfl dX0_startLike_39 (fun H locs hw => ?_)
  obtain ⟨u0, hu0⟩ : ∃ z : (Int32) × (Int32) × (Int32) × (Int32) × (Int32) × (Nat → Int32) × (Nat → Int32), z = (po, co, g, 0, 0, u1.1, u1.2) := ⟨_, rfl⟩
  refine xret_v u0 hc ?_ ?_ ⟨Nat.le_of_ble_eq_true rfl, Nat.le_of_ble_eq_true rfl⟩ dX0_startLike_42
  · subst hu0; dsimp only; exact hw
  · subst hu0; exact Eq.symm (xb hp3 rfl)
def FX0_canTake (tr : Nat → Int32) (op : Nat → Int32) (e : Int32) : Int32 :=
  xbind (FX3_isEnd e) (fun r2 => if r2 = 0 then (0) else (if (op e.toNatClampNeg) = 0 then (0) else (if (tr e.toNatClampNeg) = 0 then (1) else (0))))
set_option maxHeartbeats 40000000 in
set_option maxRecDepth 100000 in
theorem metX0_canTake (l : Launch) (G : xG) (sz : Nat) (aC : Nat) (aL : Nat) (aM : Nat) (aWy : Nat) (aTr : Nat) (aAk : Nat) (aEx : Nat) (aSh : Nat) (aLd : Nat) (aTw : Nat) (aLe : Nat) (aOp : Nat) (aFa : Nat) (po : Int32) (co : Int32) (go : Int32) (wl : Int32) (gu : Int32) (wk : Int32) (db : Int32) (dn : Int32) (iv : Int32) (qs : Int32) (tr : Nat → Int32) (pl : Int32) (op : Nat → Int32) (e : Int32) : xM l yX0_canTake wsX0_canTake ⟨1, 0, 0, 20⟩ G [.ref aC, .int e] [xO aC 0 [.ref aL, .ref aM, .int po, .int co, .int go, .ref aWy, .int wl, .ref aTr, .ref aAk, .int gu, .int wk, .int db, .int dn, .int iv, .int qs], xAZ G aTr 40 tr, xO aL 1 [.int pl, .ref aEx, .ref aSh, .ref aLd, .ref aTw, .ref aLe, .ref aOp, .ref aFa], xAZ G aOp 40 op] sz (xQi G [xO aC 0 [.ref aL, .ref aM, .int po, .int co, .int go, .ref aWy, .int wl, .ref aTr, .ref aAk, .int gu, .int wk, .int db, .int dn, .int iv, .int qs], xAZ G aTr 40 tr, xO aL 1 [.int pl, .ref aEx, .ref aSh, .ref aLd, .ref aTw, .ref aLe, .ref aOp, .ref aFa], xAZ G aOp 40 op] sz (fun (r : Int32) (_ : Unit) => r = FX0_canTake tr op e) (fun u : Unit => [xO aC 0 [.ref aL, .ref aM, .int po, .int co, .int go, .ref aWy, .int wl, .ref aTr, .ref aAk, .int gu, .int wk, .int db, .int dn, .int iv, .int qs], xAZ G aTr 40 tr, xO aL 1 [.int pl, .ref aEx, .ref aSh, .ref aLd, .ref aTw, .ref aLe, .ref aOp, .ref aFa], xAZ G aOp 40 op])) := by
  refine xof (own := RX0) (cc := cX0_canTake) (maxL := 2) (ret := (some .boolean)) rfl (by decide) rfl (Nat.le_of_ble_eq_true rfl) ?_
  intro pg en s mi below meth cd hc hnm hw ls hl
  obtain ⟨hx, hb, -, hown, hts, -⟩ := id hc
  have hl : lv_has ls 2 [(0, .ref aC), (1, .int e)] := hl
  refine lv_iload_n hx hb dX0_canTake_0 rfl (lv_at hl 1 rfl) ?_
  refine xcall_i (isC := []) hc hw (xrunSN (n := 1) (As := [.int e]) (rest := []) hc hw [] (metX3_isEnd l G _ e) gX0_canTake_X3_isEnd_n56 nkX0_56 lkX0_canTake_iiX3 lkX0_canTake_isX3_isEnd rfl (by decide +kernel) ⟨Nat.le_of_ble_eq_true rfl, Nat.le_of_ble_eq_true rfl⟩ rfl rfl rfl rfl hl.1 (Nat.le_of_ble_eq_true rfl) dX0_canTake_1 ⟨Nat.le_of_ble_eq_true rfl, Nat.le_of_ble_eq_true rfl⟩) rfl [0, 1, 2, 3] [0, 1, 2, 3] (fun u1 => [xO aC 0 [.ref aL, .ref aM, .int po, .int co, .int go, .ref aWy, .int wl, .ref aTr, .ref aAk, .int gu, .int wk, .int db, .int dn, .int iv, .int qs], xAZ G aTr 40 tr, xO aL 1 [.int pl, .ref aEx, .ref aSh, .ref aLd, .ref aTw, .ref aLe, .ref aOp, .ref aFa], xAZ G aOp 40 op]) (fun _ => rfl) rfl rfl rfl rfl (fun r2 u1 H locs hp3 hw => ?_)
  refine lv_if_eq (tgt := 32) hx hb dX0_canTake_4 (by decide) (fun c_5 => ?_) (fun c_5 => ?_)
  · refine lv_iconst (v := 0) hx hb dX0_canTake_32 (by decide) ?_
    exact xret_z () hc hw rfl (Eq.symm (xb hp3 (if_pos c_5))) ⟨Nat.le_of_ble_eq_true rfl, Nat.le_of_ble_eq_true rfl⟩ dX0_canTake_33
  · refine lv_aload_n hx hb dX0_canTake_7 rfl (lv_at hl 0 rfl) ?_
    refine xget (C := RX0) (T := TX0) (N := 15) hc hw inX0_canTake_X0 0 rfl rfl 0 (by decide) lkX0_canTake_f36 rfl rfl dX0_canTake_8 ?_
    refine xgetN (C := RX1) (T := TX1) (N := 8) hc hw inX0_canTake_X1 2 rfl rfl 6 (by decide) nkX0_93 rfl rfl dX0_canTake_11 ?_
    refine lv_iload_n hx hb dX0_canTake_14 rfl (lv_at hl 1 rfl) ?_
    refine xzald hc hw 3 rfl (xin (pX3_isEnd hp3 c_5)) dX0_canTake_15 ?_
    refine lv_if_eq (tgt := 32) hx hb dX0_canTake_16 (by decide) (fun c_6 => ?_) (fun c_6 => ?_)
    · refine lv_iconst (v := 0) hx hb dX0_canTake_32 (by decide) ?_
      exact xret_z () hc hw rfl (Eq.symm (xb hp3 (Eq.trans (if_neg c_5) (if_pos c_6)))) ⟨Nat.le_of_ble_eq_true rfl, Nat.le_of_ble_eq_true rfl⟩ dX0_canTake_33
    · refine lv_aload_n hx hb dX0_canTake_19 rfl (lv_at hl 0 rfl) ?_
      refine xget (C := RX0) (T := TX0) (N := 15) hc hw inX0_canTake_X0 0 rfl rfl 7 (by decide) lkX0_canTake_f26 rfl rfl dX0_canTake_20 ?_
      refine lv_iload_n hx hb dX0_canTake_23 rfl (lv_at hl 1 rfl) ?_
      refine xzald hc hw 1 rfl (xin (pX3_isEnd hp3 c_5)) dX0_canTake_24 ?_
      refine lv_if_ne (tgt := 32) hx hb dX0_canTake_25 (by decide) (fun c_7 => ?_) (fun c_7 => ?_)
      · refine lv_iconst (v := 0) hx hb dX0_canTake_32 (by decide) ?_
        exact xret_z () hc hw rfl (Eq.symm (xb hp3 (Eq.trans (if_neg c_5) (Eq.trans (if_neg c_6) (if_neg c_7))))) ⟨Nat.le_of_ble_eq_true rfl, Nat.le_of_ble_eq_true rfl⟩ dX0_canTake_33
      · refine lv_iconst (v := 1) hx hb dX0_canTake_28 (by decide) ?_
        refine lv_goto (tgt := 33) hx hb dX0_canTake_29 (by decide) ?_
        exact xret_z () hc hw rfl (Eq.symm (xb hp3 (Eq.trans (if_neg c_5) (Eq.trans (if_neg c_6) (if_pos c_7))))) ⟨Nat.le_of_ble_eq_true rfl, Nat.le_of_ble_eq_true rfl⟩ dX0_canTake_33
def FX0_rememberedEnd (po : Int32) (go : Int32) (tr : Nat → Int32) (mx : Nat → Int32) (ms : Nat → Int32) (pl : Int32) (ex : Nat → Int32) (op : Nat → Int32) : Int32 :=
  xbind (FX2_exitFor mx ms go po) (fun r2 => xbind (FX1_endAt pl ex po r2) (fun r6 => xbind (FX0_canTake tr op r6) (fun r10 => if r10 = 0 then ((-1)) else (r6))))
set_option maxHeartbeats 40000000 in
set_option maxRecDepth 100000 in
theorem metX0_rememberedEnd (l : Launch) (G : xG) (sz : Nat) (aC : Nat) (aL : Nat) (aM : Nat) (aWy : Nat) (aTr : Nat) (aAk : Nat) (aMx : Nat) (aMs : Nat) (aEx : Nat) (aSh : Nat) (aLd : Nat) (aTw : Nat) (aLe : Nat) (aOp : Nat) (aFa : Nat) (po : Int32) (co : Int32) (go : Int32) (wl : Int32) (gu : Int32) (wk : Int32) (db : Int32) (dn : Int32) (iv : Int32) (qs : Int32) (tr : Nat → Int32) (mx : Nat → Int32) (ms : Nat → Int32) (pl : Int32) (ex : Nat → Int32) (op : Nat → Int32) (hpl : 0 ≤ pl.toInt ∧ pl.toInt ≤ 10) : xM l yX0_rememberedEnd wsX0_rememberedEnd ⟨2, 0, 0, 45⟩ G [.ref aC] [xO aC 0 [.ref aL, .ref aM, .int po, .int co, .int go, .ref aWy, .int wl, .ref aTr, .ref aAk, .int gu, .int wk, .int db, .int dn, .int iv, .int qs], xAZ G aTr 40 tr, xO aM 2 [.ref aMx, .ref aMs], xAI G aMx 100 mx, xAI G aMs 100 ms, xO aL 1 [.int pl, .ref aEx, .ref aSh, .ref aLd, .ref aTw, .ref aLe, .ref aOp, .ref aFa], xAI G aEx 10 ex, xAZ G aOp 40 op] sz (xQi G [xO aC 0 [.ref aL, .ref aM, .int po, .int co, .int go, .ref aWy, .int wl, .ref aTr, .ref aAk, .int gu, .int wk, .int db, .int dn, .int iv, .int qs], xAZ G aTr 40 tr, xO aM 2 [.ref aMx, .ref aMs], xAI G aMx 100 mx, xAI G aMs 100 ms, xO aL 1 [.int pl, .ref aEx, .ref aSh, .ref aLd, .ref aTw, .ref aLe, .ref aOp, .ref aFa], xAI G aEx 10 ex, xAZ G aOp 40 op] sz (fun (r : Int32) (_ : Unit) => r = FX0_rememberedEnd po go tr mx ms pl ex op) (fun u : Unit => [xO aC 0 [.ref aL, .ref aM, .int po, .int co, .int go, .ref aWy, .int wl, .ref aTr, .ref aAk, .int gu, .int wk, .int db, .int dn, .int iv, .int qs], xAZ G aTr 40 tr, xO aM 2 [.ref aMx, .ref aMs], xAI G aMx 100 mx, xAI G aMs 100 ms, xO aL 1 [.int pl, .ref aEx, .ref aSh, .ref aLd, .ref aTw, .ref aLe, .ref aOp, .ref aFa], xAI G aEx 10 ex, xAZ G aOp 40 op])) := by
  refine xof (own := RX0) (cc := cX0_rememberedEnd) (maxL := 2) (ret := (some .int)) rfl (by decide) rfl (Nat.le_of_ble_eq_true rfl) ?_
  intro pg en s mi below meth cd hc hnm hw ls hl
  obtain ⟨hx, hb, -, hown, hts, -⟩ := id hc
  have hl : lv_has ls 2 [(0, .ref aC)] := hl
  refine lv_aload_n hx hb dX0_rememberedEnd_0 rfl (lv_at hl 0 rfl) ?_
  refine xget (C := RX0) (T := TX0) (N := 15) hc hw inX0_rememberedEnd_X0 0 rfl rfl 0 (by decide) lkX0_rememberedEnd_f36 rfl rfl dX0_rememberedEnd_1 ?_
  refine lv_aload_n hx hb dX0_rememberedEnd_4 rfl (lv_at hl 0 rfl) ?_
  refine xget (C := RX0) (T := TX0) (N := 15) hc hw inX0_rememberedEnd_X0 0 rfl rfl 2 (by decide) lkX0_rememberedEnd_f40 rfl rfl dX0_rememberedEnd_5 ?_
  refine lv_aload_n hx hb dX0_rememberedEnd_8 rfl (lv_at hl 0 rfl) ?_
  refine xget (C := RX0) (T := TX0) (N := 15) hc hw inX0_rememberedEnd_X0 0 rfl rfl 1 (by decide) lkX0_rememberedEnd_f12 rfl rfl dX0_rememberedEnd_9 ?_
  refine lv_aload_n hx hb dX0_rememberedEnd_12 rfl (lv_at hl 0 rfl) ?_
  refine xget (C := RX0) (T := TX0) (N := 15) hc hw inX0_rememberedEnd_X0 0 rfl rfl 4 (by decide) lkX0_rememberedEnd_f18 rfl rfl dX0_rememberedEnd_13 ?_
  refine lv_aload_n hx hb dX0_rememberedEnd_16 rfl (lv_at hl 0 rfl) ?_
  refine xget (C := RX0) (T := TX0) (N := 15) hc hw inX0_rememberedEnd_X0 0 rfl rfl 2 (by decide) lkX0_rememberedEnd_f40 rfl rfl dX0_rememberedEnd_17 ?_
  refine xcall_i (isC := [2, 3, 4]) hc hw (xrunV (n := 2) (As := [.int go, .int po]) (rest := [.int po, .ref aL]) hc hw [2, 3, 4] (metX2_exitFor l G _ aM aMx aMs mx ms go po) gX0_rememberedEnd_X2_exitFor rfl (by decide +kernel) ⟨Nat.le_of_ble_eq_true rfl, Nat.le_of_ble_eq_true rfl⟩ 2 rfl rfl rfl rfl rfl rfl hl.1 (Nat.le_of_ble_eq_true rfl) dX0_rememberedEnd_20 ⟨Nat.le_of_ble_eq_true rfl, Nat.le_of_ble_eq_true rfl⟩) rfl [0, 1, 5, 6, 7] [0, 1, 5, 6, 7, 2, 3, 4] (fun u1 => [xO aC 0 [.ref aL, .ref aM, .int po, .int co, .int go, .ref aWy, .int wl, .ref aTr, .ref aAk, .int gu, .int wk, .int db, .int dn, .int iv, .int qs], xAZ G aTr 40 tr, xO aM 2 [.ref aMx, .ref aMs], xAI G aMx 100 mx, xAI G aMs 100 ms, xO aL 1 [.int pl, .ref aEx, .ref aSh, .ref aLd, .ref aTw, .ref aLe, .ref aOp, .ref aFa], xAI G aEx 10 ex, xAZ G aOp 40 op]) (fun _ => rfl) rfl rfl rfl rfl (fun r2 u1 H locs hp3 hw => ?_)
  refine xcall_i (isC := [5, 6]) hc hw (xrunV (n := 2) (As := [.int po, .int r2]) (rest := []) hc hw [5, 6] (metX1_endAt l G _ aL aEx aSh aLd aTw aLe aOp aFa pl ex po r2 hpl) gX0_rememberedEnd_X1_endAt rfl (by decide +kernel) ⟨Nat.le_of_ble_eq_true rfl, Nat.le_of_ble_eq_true rfl⟩ 5 rfl rfl rfl rfl rfl rfl hl.1 (Nat.le_of_ble_eq_true rfl) dX0_rememberedEnd_23 ⟨Nat.le_of_ble_eq_true rfl, Nat.le_of_ble_eq_true rfl⟩) rfl [0, 1, 2, 3, 4, 7] [0, 1, 2, 3, 4, 6, 7, 5] (fun u5 => [xO aC 0 [.ref aL, .ref aM, .int po, .int co, .int go, .ref aWy, .int wl, .ref aTr, .ref aAk, .int gu, .int wk, .int db, .int dn, .int iv, .int qs], xAZ G aTr 40 tr, xO aM 2 [.ref aMx, .ref aMs], xAI G aMx 100 mx, xAI G aMs 100 ms, xO aL 1 [.int pl, .ref aEx, .ref aSh, .ref aLd, .ref aTw, .ref aLe, .ref aOp, .ref aFa], xAI G aEx 10 ex, xAZ G aOp 40 op]) (fun _ => rfl) rfl rfl rfl rfl (fun r6 u5 H locs hp7 hw => ?_)
  refine lv_istore_n (lv' := [(1, .int r6), (0, .ref aC)]) hx hb dX0_rememberedEnd_26 rfl hl (by decide) rfl (fun ls hl => ?_)
  refine lv_aload_n hx hb dX0_rememberedEnd_27 rfl (lv_at hl 1 rfl) ?_
  refine lv_iload_n hx hb dX0_rememberedEnd_28 rfl (lv_at hl 0 rfl) ?_
  refine xcall_i (isC := [0, 1, 5, 7]) hc hw (xrunV (n := 1) (As := [.int r6]) (rest := []) hc hw [0, 1, 5, 7] (metX0_canTake l G _ aC aL aM aWy aTr aAk aEx aSh aLd aTw aLe aOp aFa po co go wl gu wk db dn iv qs tr pl op r6) gX0_rememberedEnd_X0_canTake rfl (by decide +kernel) ⟨Nat.le_of_ble_eq_true rfl, Nat.le_of_ble_eq_true rfl⟩ 0 rfl rfl rfl rfl rfl rfl hl.1 (Nat.le_of_ble_eq_true rfl) dX0_rememberedEnd_29 ⟨Nat.le_of_ble_eq_true rfl, Nat.le_of_ble_eq_true rfl⟩) rfl [2, 3, 4, 6] [4, 5, 0, 1, 2, 6, 3, 7] (fun u9 => [xO aC 0 [.ref aL, .ref aM, .int po, .int co, .int go, .ref aWy, .int wl, .ref aTr, .ref aAk, .int gu, .int wk, .int db, .int dn, .int iv, .int qs], xAZ G aTr 40 tr, xO aM 2 [.ref aMx, .ref aMs], xAI G aMx 100 mx, xAI G aMs 100 ms, xO aL 1 [.int pl, .ref aEx, .ref aSh, .ref aLd, .ref aTw, .ref aLe, .ref aOp, .ref aFa], xAI G aEx 10 ex, xAZ G aOp 40 op]) (fun _ => rfl) rfl rfl rfl rfl (fun r10 u9 H locs hp11 hw => ?_)
  refine lv_if_eq (tgt := 39) hx hb dX0_rememberedEnd_32 (by decide) (fun c_13 => ?_) (fun c_13 => ?_)
  · refine lv_iconst (v := (-1)) hx hb dX0_rememberedEnd_39 (by decide) ?_
    exact xret_i () hc hw (Eq.symm (xb hp3 (xb hp7 (xb hp11 (if_pos c_13))))) ⟨Nat.le_of_ble_eq_true rfl, Nat.le_of_ble_eq_true rfl⟩ dX0_rememberedEnd_40
  · refine lv_iload_n hx hb dX0_rememberedEnd_35 rfl (lv_at hl 0 rfl) ?_
    refine lv_goto (tgt := 40) hx hb dX0_rememberedEnd_36 (by decide) ?_
    exact xret_i () hc hw (Eq.symm (xb hp3 (xb hp7 (xb hp11 (if_neg c_13))))) ⟨Nat.le_of_ble_eq_true rfl, Nat.le_of_ble_eq_true rfl⟩ dX0_rememberedEnd_40
def FX0_askedEnd (po : Int32) (co : Int32) (go : Int32) (gu : Int32) (qs : Int32) (tr : Nat → Int32) (ak : Nat → Int32) (mx : Nat → Int32) (ms : Nat → Int32) (pl : Int32) (ex : Nat → Int32) (sh : Nat → Int32) (ld : Nat → Int32) (le : Nat → Int32) (op : Nat → Int32) (fa : Nat → Int32) : Int32 × (Int32) × (Int32) × (Nat → Int32) × (Nat → Int32) × (Nat → Int32) × (Nat → Int32) :=
  xbind (FX1_isPlace pl po) (fun r2 => if r2 = 0 then (((-1), co, qs, ak, mx, ms, fa)) else (if (sh po.toNatClampNeg) = 0 then (if po = gu then (if (ak po.toNatClampNeg) = 0 then (if co = 0 then (((-1), co, qs, ak, mx, ms, fa)) else (xbind2 (FX1_endTowards pl ex ld le op fa po go) (fun r36 u35 => if r36 = (-1) then (xbind (FX0_canTake tr op r36) (fun r41 => if r41 = 0 then (((-1), co - 1, qs + 1, upd ak po.toNatClampNeg 1, mx, ms, u35)) else ((r36, co - 1, qs + 1, upd ak po.toNatClampNeg 1, mx, ms, u35)))) else (xbind (FX3_exitOfEnd r36) (fun r46 => xbind (FX2_learn mx ms go po r46) (fun u49 => xbind (FX0_canTake tr op r36) (fun r54 => if r54 = 0 then (((-1), co - 1, qs + 1, upd ak po.toNatClampNeg 1, u49.1, u49.2, u35)) else ((r36, co - 1, qs + 1, upd ak po.toNatClampNeg 1, u49.1, u49.2, u35))))))))) else (((-1), co, qs, ak, mx, ms, fa))) else (((-1), co, qs, ak, mx, ms, fa))) else (if (ak po.toNatClampNeg) = 0 then (if co = 0 then (((-1), co, qs, ak, mx, ms, fa)) else (xbind2 (FX1_endTowards pl ex ld le op fa po go) (fun r10 u9 => if r10 = (-1) then (xbind (FX0_canTake tr op r10) (fun r15 => if r15 = 0 then (((-1), co - 1, qs + 1, upd ak po.toNatClampNeg 1, mx, ms, u9)) else ((r10, co - 1, qs + 1, upd ak po.toNatClampNeg 1, mx, ms, u9)))) else (xbind (FX3_exitOfEnd r10) (fun r20 => xbind (FX2_learn mx ms go po r20) (fun u23 => xbind (FX0_canTake tr op r10) (fun r28 => if r28 = 0 then (((-1), co - 1, qs + 1, upd ak po.toNatClampNeg 1, u23.1, u23.2, u9)) else ((r10, co - 1, qs + 1, upd ak po.toNatClampNeg 1, u23.1, u23.2, u9))))))))) else (((-1), co, qs, ak, mx, ms, fa)))))
set_option maxHeartbeats 40000000 in
set_option maxRecDepth 100000 in
theorem metX0_askedEnd (l : Launch) (G : xG) (sz : Nat) (aC : Nat) (aL : Nat) (aM : Nat) (aWy : Nat) (aTr : Nat) (aAk : Nat) (aMx : Nat) (aMs : Nat) (aEx : Nat) (aSh : Nat) (aLd : Nat) (aTw : Nat) (aLe : Nat) (aOp : Nat) (aFa : Nat) (po : Int32) (co : Int32) (go : Int32) (wl : Int32) (gu : Int32) (wk : Int32) (db : Int32) (dn : Int32) (iv : Int32) (qs : Int32) (tr : Nat → Int32) (ak : Nat → Int32) (mx : Nat → Int32) (ms : Nat → Int32) (pl : Int32) (ex : Nat → Int32) (sh : Nat → Int32) (ld : Nat → Int32) (le : Nat → Int32) (op : Nat → Int32) (fa : Nat → Int32) (hpl : 0 ≤ pl.toInt ∧ pl.toInt ≤ 10) (hex4 : ∀ k, k < 10 → 0 ≤ (ex k).toInt ∧ (ex k).toInt ≤ 4) (hld : ∀ k, k < 40 → 0 ≤ (ld k).toInt ∧ (ld k).toInt < 10) : xM l yX0_askedEnd wsX0_askedEnd ⟨3, 0, 0, 72⟩ G [.ref aC] [xO aC 0 [.ref aL, .ref aM, .int po, .int co, .int go, .ref aWy, .int wl, .ref aTr, .ref aAk, .int gu, .int wk, .int db, .int dn, .int iv, .int qs], xAZ G aTr 40 tr, xAZ G aAk 10 ak, xO aM 2 [.ref aMx, .ref aMs], xAI G aMx 100 mx, xAI G aMs 100 ms, xO aL 1 [.int pl, .ref aEx, .ref aSh, .ref aLd, .ref aTw, .ref aLe, .ref aOp, .ref aFa], xAI G aEx 10 ex, xAZ G aSh 10 sh, xAI G aLd 40 ld, xAI G aLe 40 le, xAZ G aOp 40 op, xAI G aFa 10 fa] sz (xQi G [xO aC 0 [.ref aL, .ref aM, .int po, .int co, .int go, .ref aWy, .int wl, .ref aTr, .ref aAk, .int gu, .int wk, .int db, .int dn, .int iv, .int qs], xAZ G aTr 40 tr, xAZ G aAk 10 ak, xO aM 2 [.ref aMx, .ref aMs], xAI G aMx 100 mx, xAI G aMs 100 ms, xO aL 1 [.int pl, .ref aEx, .ref aSh, .ref aLd, .ref aTw, .ref aLe, .ref aOp, .ref aFa], xAI G aEx 10 ex, xAZ G aSh 10 sh, xAI G aLd 40 ld, xAI G aLe 40 le, xAZ G aOp 40 op, xAI G aFa 10 fa] sz (fun (r : Int32) (u : (Int32) × (Int32) × (Nat → Int32) × (Nat → Int32) × (Nat → Int32) × (Nat → Int32)) => r = (FX0_askedEnd po co go gu qs tr ak mx ms pl ex sh ld le op fa).1 ∧ u = (FX0_askedEnd po co go gu qs tr ak mx ms pl ex sh ld le op fa).2) (fun u : (Int32) × (Int32) × (Nat → Int32) × (Nat → Int32) × (Nat → Int32) × (Nat → Int32) => [xO aC 0 [.ref aL, .ref aM, .int po, .int u.1, .int go, .ref aWy, .int wl, .ref aTr, .ref aAk, .int gu, .int wk, .int db, .int dn, .int iv, .int u.2.1], xAZ G aTr 40 tr, xAZ G aAk 10 u.2.2.1, xO aM 2 [.ref aMx, .ref aMs], xAI G aMx 100 u.2.2.2.1, xAI G aMs 100 u.2.2.2.2.1, xO aL 1 [.int pl, .ref aEx, .ref aSh, .ref aLd, .ref aTw, .ref aLe, .ref aOp, .ref aFa], xAI G aEx 10 ex, xAZ G aSh 10 sh, xAI G aLd 40 ld, xAI G aLe 40 le, xAZ G aOp 40 op, xAI G aFa 10 u.2.2.2.2.2])) := by
  refine xof (own := RX0) (cc := cX0_askedEnd) (maxL := 3) (ret := (some .int)) rfl (by decide) rfl (Nat.le_of_ble_eq_true rfl) ?_
  intro pg en s mi below meth cd hc hnm hw ls hl
  obtain ⟨hx, hb, -, hown, hts, -⟩ := id hc
  have hl : lv_has ls 3 [(0, .ref aC)] := hl
  refine lv_aload_n hx hb dX0_askedEnd_0 rfl (lv_at hl 0 rfl) ?_
  refine xget (C := RX0) (T := TX0) (N := 15) hc hw inX0_askedEnd_X0 0 rfl rfl 0 (by decide) lkX0_askedEnd_f36 rfl rfl dX0_askedEnd_1 ?_
  refine lv_aload_n hx hb dX0_askedEnd_4 rfl (lv_at hl 0 rfl) ?_
  refine xget (C := RX0) (T := TX0) (N := 15) hc hw inX0_askedEnd_X0 0 rfl rfl 2 (by decide) lkX0_askedEnd_f40 rfl rfl dX0_askedEnd_5 ?_
  refine xcall_i (isC := [6]) hc hw (xrunV (n := 1) (As := [.int po]) (rest := []) hc hw [6] (metX1_isPlace l G _ aL aEx aSh aLd aTw aLe aOp aFa pl po) gX0_askedEnd_X1_isPlace rfl (by decide +kernel) ⟨Nat.le_of_ble_eq_true rfl, Nat.le_of_ble_eq_true rfl⟩ 6 rfl rfl rfl rfl rfl rfl hl.1 (Nat.le_of_ble_eq_true rfl) dX0_askedEnd_8 ⟨Nat.le_of_ble_eq_true rfl, Nat.le_of_ble_eq_true rfl⟩) rfl [0, 1, 2, 3, 4, 5, 7, 8, 9, 10, 11, 12] [0, 1, 2, 3, 4, 5, 12, 6, 7, 8, 9, 10, 11] (fun u1 => [xO aC 0 [.ref aL, .ref aM, .int po, .int co, .int go, .ref aWy, .int wl, .ref aTr, .ref aAk, .int gu, .int wk, .int db, .int dn, .int iv, .int qs], xAZ G aTr 40 tr, xAZ G aAk 10 ak, xO aM 2 [.ref aMx, .ref aMs], xAI G aMx 100 mx, xAI G aMs 100 ms, xO aL 1 [.int pl, .ref aEx, .ref aSh, .ref aLd, .ref aTw, .ref aLe, .ref aOp, .ref aFa], xAI G aEx 10 ex, xAZ G aSh 10 sh, xAI G aLd 40 ld, xAI G aLe 40 le, xAZ G aOp 40 op, xAI G aFa 10 fa]) (fun _ => rfl) rfl rfl rfl rfl (fun r2 u1 H locs hp3 hw => ?_)
  refine lv_if_eq (tgt := 44) hx hb dX0_askedEnd_11 (by decide) (fun c_5 => ?_) (fun c_5 => ?_)
  · refine lv_iconst (v := 0) hx hb dX0_askedEnd_44 (by decide) ?_
    refine lv_istore_n (lv' := [(1, .int 0), (0, .ref aC)]) hx hb dX0_askedEnd_45 rfl hl (by decide) rfl (fun ls hl => ?_)
    refine lv_iload_n hx hb dX0_askedEnd_46 rfl (lv_at hl 0 rfl) ?_
    refine lv_if_eq (tgt := 69) hx hb dX0_askedEnd_47 (by decide) (fun _ => ?_) (fun h => absurd h (by decide))
    refine lv_iconst (v := (-1)) hx hb dX0_askedEnd_69 (by decide) ?_
    obtain ⟨u0, hu0⟩ : ∃ z : (Int32) × (Int32) × (Nat → Int32) × (Nat → Int32) × (Nat → Int32) × (Nat → Int32), z = (co, qs, ak, mx, ms, fa) := ⟨_, rfl⟩
    refine xret_i u0 hc ?_ ?_ ⟨Nat.le_of_ble_eq_true rfl, Nat.le_of_ble_eq_true rfl⟩ dX0_askedEnd_70
    · subst hu0; dsimp only; exact hw
    · subst hu0; exact xe2 (xb hp3 (if_pos c_5))
  · refine lv_aload_n hx hb dX0_askedEnd_14 rfl (lv_at hl 0 rfl) ?_
    refine xget (C := RX0) (T := TX0) (N := 15) hc hw inX0_askedEnd_X0 0 rfl rfl 0 (by decide) lkX0_askedEnd_f36 rfl rfl dX0_askedEnd_15 ?_
    refine xgetN (C := RX1) (T := TX1) (N := 8) hc hw inX0_askedEnd_X1 6 rfl rfl 2 (by decide) nkX0_111 rfl rfl dX0_askedEnd_18 ?_
    refine lv_aload_n hx hb dX0_askedEnd_21 rfl (lv_at hl 0 rfl) ?_
    refine xget (C := RX0) (T := TX0) (N := 15) hc hw inX0_askedEnd_X0 0 rfl rfl 2 (by decide) lkX0_askedEnd_f40 rfl rfl dX0_askedEnd_22 ?_
    refine xzald hc hw 8 rfl (xin (pX1_isPlace10 hpl hp3 c_5)) dX0_askedEnd_25 ?_
    refine lv_if_ne (tgt := 40) hx hb dX0_askedEnd_26 (by decide) (fun c_6 => ?_) (fun c_6 => ?_)
    · refine lv_iconst (v := 1) hx hb dX0_askedEnd_40 (by decide) ?_
      refine lv_goto (tgt := 45) hx hb dX0_askedEnd_41 (by decide) ?_
      refine lv_istore_n (lv' := [(1, .int 1), (0, .ref aC)]) hx hb dX0_askedEnd_45 rfl hl (by decide) rfl (fun ls hl => ?_)
      refine lv_iload_n hx hb dX0_askedEnd_46 rfl (lv_at hl 0 rfl) ?_
      refine lv_if_eq (tgt := 69) hx hb dX0_askedEnd_47 (by decide) (fun h => absurd h (by decide)) (fun _ => ?_)
      refine lv_aload_n hx hb dX0_askedEnd_50 rfl (lv_at hl 1 rfl) ?_
      refine xget (C := RX0) (T := TX0) (N := 15) hc hw inX0_askedEnd_X0 0 rfl rfl 8 (by decide) lkX0_askedEnd_f30 rfl rfl dX0_askedEnd_51 ?_
      refine lv_aload_n hx hb dX0_askedEnd_54 rfl (lv_at hl 1 rfl) ?_
      refine xget (C := RX0) (T := TX0) (N := 15) hc hw inX0_askedEnd_X0 0 rfl rfl 2 (by decide) lkX0_askedEnd_f40 rfl rfl dX0_askedEnd_55 ?_
      refine xzald hc hw 2 rfl (xin (pX1_isPlace10 hpl hp3 c_5)) dX0_askedEnd_58 ?_
      refine lv_if_ne (tgt := 69) hx hb dX0_askedEnd_59 (by decide) (fun c_7 => ?_) (fun c_7 => ?_)
      · refine lv_iconst (v := (-1)) hx hb dX0_askedEnd_69 (by decide) ?_
        obtain ⟨u0, hu0⟩ : ∃ z : (Int32) × (Int32) × (Nat → Int32) × (Nat → Int32) × (Nat → Int32) × (Nat → Int32), z = (co, qs, ak, mx, ms, fa) := ⟨_, rfl⟩
        refine xret_i u0 hc ?_ ?_ ⟨Nat.le_of_ble_eq_true rfl, Nat.le_of_ble_eq_true rfl⟩ dX0_askedEnd_70
        · subst hu0; dsimp only; exact hw
        · subst hu0; exact xe2 (xb hp3 (Eq.trans (if_neg c_5) (Eq.trans (if_neg c_6) (if_neg c_7))))
      · refine lv_aload_n hx hb dX0_askedEnd_62 rfl (lv_at hl 1 rfl) ?_
        refine xget (C := RX0) (T := TX0) (N := 15) hc hw inX0_askedEnd_X0 0 rfl rfl 3 (by decide) lkX0_askedEnd_f43 rfl rfl dX0_askedEnd_63 ?_
        refine lv_if_ne (tgt := 71) hx hb dX0_askedEnd_66 (by decide) (fun c_8 => ?_) (fun c_8 => ?_)
        · refine lv_aload_n hx hb dX0_askedEnd_71 rfl (lv_at hl 1 rfl) ?_
          refine lv_dup hx hb dX0_askedEnd_72 rfl ?_
          refine xget (C := RX0) (T := TX0) (N := 15) hc hw inX0_askedEnd_X0 0 rfl rfl 3 (by decide) lkX0_askedEnd_f43 rfl rfl dX0_askedEnd_73 ?_
          refine lv_iconst (v := 1) hx hb dX0_askedEnd_76 (by decide) ?_
          refine lv_isub hx hb dX0_askedEnd_77 ?_
          refine xput (C := RX0) (T := TX0) (N := 15) (ty := .int) hc hw inX0_askedEnd_X0 tyX0 tyX0_ok nmX0 0 [xO aC 0 [.ref aL, .ref aM, .int po, .int (co - 1), .int go, .ref aWy, .int wl, .ref aTr, .ref aAk, .int gu, .int wk, .int db, .int dn, .int iv, .int qs], xAZ G aTr 40 tr, xAZ G aAk 10 ak, xO aM 2 [.ref aMx, .ref aMs], xAI G aMx 100 mx, xAI G aMs 100 ms, xO aL 1 [.int pl, .ref aEx, .ref aSh, .ref aLd, .ref aTw, .ref aLe, .ref aOp, .ref aFa], xAI G aEx 10 ex, xAZ G aSh 10 sh, xAI G aLd 40 ld, xAI G aLe 40 le, xAZ G aOp 40 op, xAI G aFa 10 fa] rfl rfl 3 (by decide) lkX0_askedEnd_f43 rfl rfl rfl rfl (Nat.le_of_ble_eq_true rfl) rfl dX0_askedEnd_78 (fun H locs hw => ?_)
          refine lv_aload_n hx hb dX0_askedEnd_81 rfl (lv_at hl 1 rfl) ?_
          refine lv_dup hx hb dX0_askedEnd_82 rfl ?_
          refine xget (C := RX0) (T := TX0) (N := 15) hc hw inX0_askedEnd_X0 0 rfl rfl 14 (by decide) lkX0_askedEnd_f114 rfl rfl dX0_askedEnd_83 ?_
          refine lv_iconst (v := 1) hx hb dX0_askedEnd_86 (by decide) ?_
          refine lv_iadd hx hb dX0_askedEnd_87 ?_
          refine xput (C := RX0) (T := TX0) (N := 15) (ty := .int) hc hw inX0_askedEnd_X0 tyX0 tyX0_ok nmX0 0 [xO aC 0 [.ref aL, .ref aM, .int po, .int (co - 1), .int go, .ref aWy, .int wl, .ref aTr, .ref aAk, .int gu, .int wk, .int db, .int dn, .int iv, .int (qs + 1)], xAZ G aTr 40 tr, xAZ G aAk 10 ak, xO aM 2 [.ref aMx, .ref aMs], xAI G aMx 100 mx, xAI G aMs 100 ms, xO aL 1 [.int pl, .ref aEx, .ref aSh, .ref aLd, .ref aTw, .ref aLe, .ref aOp, .ref aFa], xAI G aEx 10 ex, xAZ G aSh 10 sh, xAI G aLd 40 ld, xAI G aLe 40 le, xAZ G aOp 40 op, xAI G aFa 10 fa] rfl rfl 14 (by decide) lkX0_askedEnd_f114 rfl rfl rfl rfl (Nat.le_of_ble_eq_true rfl) rfl dX0_askedEnd_88 (fun H locs hw => ?_)
          refine lv_aload_n hx hb dX0_askedEnd_91 rfl (lv_at hl 1 rfl) ?_
          refine xget (C := RX0) (T := TX0) (N := 15) hc hw inX0_askedEnd_X0 0 rfl rfl 8 (by decide) lkX0_askedEnd_f30 rfl rfl dX0_askedEnd_92 ?_
          refine lv_aload_n hx hb dX0_askedEnd_95 rfl (lv_at hl 1 rfl) ?_
          refine xget (C := RX0) (T := TX0) (N := 15) hc hw inX0_askedEnd_X0 0 rfl rfl 2 (by decide) lkX0_askedEnd_f40 rfl rfl dX0_askedEnd_96 ?_
          refine lv_iconst (v := 1) hx hb dX0_askedEnd_99 (by decide) ?_
          refine xzast hc hw 2 [xO aC 0 [.ref aL, .ref aM, .int po, .int (co - 1), .int go, .ref aWy, .int wl, .ref aTr, .ref aAk, .int gu, .int wk, .int db, .int dn, .int iv, .int (qs + 1)], xAZ G aTr 40 tr, xAZ G aAk 10 (upd ak po.toNatClampNeg 1), xO aM 2 [.ref aMx, .ref aMs], xAI G aMx 100 mx, xAI G aMs 100 ms, xO aL 1 [.int pl, .ref aEx, .ref aSh, .ref aLd, .ref aTw, .ref aLe, .ref aOp, .ref aFa], xAI G aEx 10 ex, xAZ G aSh 10 sh, xAI G aLd 40 ld, xAI G aLe 40 le, xAZ G aOp 40 op, xAI G aFa 10 fa] rfl (xin (pX1_isPlace10 hpl hp3 c_5)) rfl rfl dX0_askedEnd_100 (fun H locs hw => ?_)
          refine lv_aload_n hx hb dX0_askedEnd_101 rfl (lv_at hl 1 rfl) ?_
          refine xget (C := RX0) (T := TX0) (N := 15) hc hw inX0_askedEnd_X0 0 rfl rfl 0 (by decide) lkX0_askedEnd_f36 rfl rfl dX0_askedEnd_102 ?_
          refine lv_aload_n hx hb dX0_askedEnd_105 rfl (lv_at hl 1 rfl) ?_
          refine xget (C := RX0) (T := TX0) (N := 15) hc hw inX0_askedEnd_X0 0 rfl rfl 2 (by decide) lkX0_askedEnd_f40 rfl rfl dX0_askedEnd_106 ?_
          refine lv_aload_n hx hb dX0_askedEnd_109 rfl (lv_at hl 1 rfl) ?_
          refine xget (C := RX0) (T := TX0) (N := 15) hc hw inX0_askedEnd_X0 0 rfl rfl 4 (by decide) lkX0_askedEnd_f18 rfl rfl dX0_askedEnd_110 ?_
          refine xcall_i (isC := [6, 7, 9, 10, 11, 12]) hc hw (xrunV (n := 2) (As := [.int po, .int go]) (rest := []) hc hw [6, 7, 9, 10, 11, 12] (metX1_endTowards l G _ aL aEx aSh aLd aTw aLe aOp aFa pl ex ld le op fa po go hpl hex4 hld) gX0_askedEnd_X1_endTowards rfl (by decide +kernel) ⟨Nat.le_of_ble_eq_true rfl, Nat.le_of_ble_eq_true rfl⟩ 6 rfl rfl rfl rfl rfl rfl hl.1 (Nat.le_of_ble_eq_true rfl) dX0_askedEnd_113 ⟨Nat.le_of_ble_eq_true rfl, Nat.le_of_ble_eq_true rfl⟩) rfl [0, 1, 2, 3, 4, 5, 8] [0, 1, 2, 3, 4, 5, 7, 8, 6, 9, 10, 11, 12] (fun u9 => [xO aC 0 [.ref aL, .ref aM, .int po, .int (co - 1), .int go, .ref aWy, .int wl, .ref aTr, .ref aAk, .int gu, .int wk, .int db, .int dn, .int iv, .int (qs + 1)], xAZ G aTr 40 tr, xAZ G aAk 10 (upd ak po.toNatClampNeg 1), xO aM 2 [.ref aMx, .ref aMs], xAI G aMx 100 mx, xAI G aMs 100 ms, xO aL 1 [.int pl, .ref aEx, .ref aSh, .ref aLd, .ref aTw, .ref aLe, .ref aOp, .ref aFa], xAI G aEx 10 ex, xAZ G aSh 10 sh, xAI G aLd 40 ld, xAI G aLe 40 le, xAZ G aOp 40 op, xAI G aFa 10 u9]) (fun _ => rfl) rfl rfl rfl rfl (fun r10 u9 H locs hp11 hw => ?_)
          refine lv_istore_n (lv' := [(2, .int r10), (1, .int 1), (0, .ref aC)]) hx hb dX0_askedEnd_116 rfl hl (by decide) rfl (fun ls hl => ?_)
          refine lv_iload_n hx hb dX0_askedEnd_117 rfl (lv_at hl 0 rfl) ?_
          refine lv_iconst (v := (-1)) hx hb dX0_askedEnd_118 (by decide) ?_
          refine lv_icmp_eq (tgt := 141) hx hb dX0_askedEnd_119 (by decide) (fun c_13 => ?_) (fun c_13 => ?_)
          · refine lv_aload_n hx hb dX0_askedEnd_141 rfl (lv_at hl 2 rfl) ?_
            refine lv_iload_n hx hb dX0_askedEnd_142 rfl (lv_at hl 0 rfl) ?_
            refine xcall_i (isC := [0, 1, 6, 11]) hc hw (xrunV (n := 1) (As := [.int r10]) (rest := []) hc hw [0, 1, 6, 11] (metX0_canTake l G _ aC aL aM aWy aTr aAk aEx aSh aLd aTw aLe aOp aFa po (co - 1) go wl gu wk db dn iv (qs + 1) tr pl op r10) gX0_askedEnd_X0_canTake rfl (by decide +kernel) ⟨Nat.le_of_ble_eq_true rfl, Nat.le_of_ble_eq_true rfl⟩ 0 rfl rfl rfl rfl rfl rfl hl.1 (Nat.le_of_ble_eq_true rfl) dX0_askedEnd_143 ⟨Nat.le_of_ble_eq_true rfl, Nat.le_of_ble_eq_true rfl⟩) rfl [2, 3, 4, 5, 7, 8, 9, 10, 12] [9, 10, 0, 1, 2, 3, 11, 4, 5, 6, 7, 12, 8] (fun u14 => [xO aC 0 [.ref aL, .ref aM, .int po, .int (co - 1), .int go, .ref aWy, .int wl, .ref aTr, .ref aAk, .int gu, .int wk, .int db, .int dn, .int iv, .int (qs + 1)], xAZ G aTr 40 tr, xAZ G aAk 10 (upd ak po.toNatClampNeg 1), xO aM 2 [.ref aMx, .ref aMs], xAI G aMx 100 mx, xAI G aMs 100 ms, xO aL 1 [.int pl, .ref aEx, .ref aSh, .ref aLd, .ref aTw, .ref aLe, .ref aOp, .ref aFa], xAI G aEx 10 ex, xAZ G aSh 10 sh, xAI G aLd 40 ld, xAI G aLe 40 le, xAZ G aOp 40 op, xAI G aFa 10 u9]) (fun _ => rfl) rfl rfl rfl rfl (fun r15 u14 H locs hp16 hw => ?_)
            refine lv_if_eq (tgt := 153) hx hb dX0_askedEnd_146 (by decide) (fun c_18 => ?_) (fun c_18 => ?_)
            · refine lv_iconst (v := (-1)) hx hb dX0_askedEnd_153 (by decide) ?_
              obtain ⟨u0, hu0⟩ : ∃ z : (Int32) × (Int32) × (Nat → Int32) × (Nat → Int32) × (Nat → Int32) × (Nat → Int32), z = (co - 1, qs + 1, upd ak po.toNatClampNeg 1, mx, ms, u9) := ⟨_, rfl⟩
              refine xret_i u0 hc ?_ ?_ ⟨Nat.le_of_ble_eq_true rfl, Nat.le_of_ble_eq_true rfl⟩ dX0_askedEnd_154
              · subst hu0; dsimp only; exact hw
              · subst hu0; exact xe2 (xb hp3 (Eq.trans (if_neg c_5) (Eq.trans (if_neg c_6) (Eq.trans (if_pos c_7) (Eq.trans (if_neg c_8) (xb2 hp11 (Eq.trans (if_pos c_13) (xb hp16 (if_pos c_18)))))))))
            · refine lv_iload_n hx hb dX0_askedEnd_149 rfl (lv_at hl 0 rfl) ?_
              refine lv_goto (tgt := 154) hx hb dX0_askedEnd_150 (by decide) ?_
              obtain ⟨u0, hu0⟩ : ∃ z : (Int32) × (Int32) × (Nat → Int32) × (Nat → Int32) × (Nat → Int32) × (Nat → Int32), z = (co - 1, qs + 1, upd ak po.toNatClampNeg 1, mx, ms, u9) := ⟨_, rfl⟩
              refine xret_i u0 hc ?_ ?_ ⟨Nat.le_of_ble_eq_true rfl, Nat.le_of_ble_eq_true rfl⟩ dX0_askedEnd_154
              · subst hu0; dsimp only; exact hw
              · subst hu0; exact xe2 (xb hp3 (Eq.trans (if_neg c_5) (Eq.trans (if_neg c_6) (Eq.trans (if_pos c_7) (Eq.trans (if_neg c_8) (xb2 hp11 (Eq.trans (if_pos c_13) (xb hp16 (if_neg c_18)))))))))
          · refine lv_aload_n hx hb dX0_askedEnd_122 rfl (lv_at hl 2 rfl) ?_
            refine xget (C := RX0) (T := TX0) (N := 15) hc hw inX0_askedEnd_X0 0 rfl rfl 1 (by decide) lkX0_askedEnd_f12 rfl rfl dX0_askedEnd_123 ?_
            refine lv_aload_n hx hb dX0_askedEnd_126 rfl (lv_at hl 2 rfl) ?_
            refine xget (C := RX0) (T := TX0) (N := 15) hc hw inX0_askedEnd_X0 0 rfl rfl 4 (by decide) lkX0_askedEnd_f18 rfl rfl dX0_askedEnd_127 ?_
            refine lv_aload_n hx hb dX0_askedEnd_130 rfl (lv_at hl 2 rfl) ?_
            refine xget (C := RX0) (T := TX0) (N := 15) hc hw inX0_askedEnd_X0 0 rfl rfl 2 (by decide) lkX0_askedEnd_f40 rfl rfl dX0_askedEnd_131 ?_
            refine lv_iload_n hx hb dX0_askedEnd_134 rfl (lv_at hl 0 rfl) ?_
            refine xcall_i (isC := []) hc hw (xrunSN (n := 1) (As := [.int r10]) (rest := [.int po, .int go, .ref aM]) hc hw [] (metX3_exitOfEnd l G _ r10) gX0_askedEnd_X3_exitOfEnd_n120 nkX0_120 lkX0_askedEnd_iiX3 lkX0_askedEnd_isX3_exitOfEnd rfl (by decide +kernel) ⟨Nat.le_of_ble_eq_true rfl, Nat.le_of_ble_eq_true rfl⟩ rfl rfl rfl rfl hl.1 (Nat.le_of_ble_eq_true rfl) dX0_askedEnd_135 ⟨Nat.le_of_ble_eq_true rfl, Nat.le_of_ble_eq_true rfl⟩) rfl [0, 1, 2, 3, 4, 5, 6, 7, 8, 9, 10, 11, 12] [0, 1, 2, 3, 4, 5, 6, 7, 8, 9, 10, 11, 12] (fun u19 => [xO aC 0 [.ref aL, .ref aM, .int po, .int (co - 1), .int go, .ref aWy, .int wl, .ref aTr, .ref aAk, .int gu, .int wk, .int db, .int dn, .int iv, .int (qs + 1)], xAZ G aTr 40 tr, xAZ G aAk 10 (upd ak po.toNatClampNeg 1), xO aM 2 [.ref aMx, .ref aMs], xAI G aMx 100 mx, xAI G aMs 100 ms, xO aL 1 [.int pl, .ref aEx, .ref aSh, .ref aLd, .ref aTw, .ref aLe, .ref aOp, .ref aFa], xAI G aEx 10 ex, xAZ G aSh 10 sh, xAI G aLd 40 ld, xAI G aLe 40 le, xAZ G aOp 40 op, xAI G aFa 10 u9]) (fun _ => rfl) rfl rfl rfl rfl (fun r20 u19 H locs hp21 hw => ?_)
            refine xcall_v (isC := [3, 4, 5]) hc hw (xrunV (n := 3) (As := [.int go, .int po, .int r20]) (rest := []) hc hw [3, 4, 5] (metX2_learn l G _ aM aMx aMs mx ms go po r20) gX0_askedEnd_X2_learn rfl (by decide +kernel) ⟨Nat.le_of_ble_eq_true rfl, Nat.le_of_ble_eq_true rfl⟩ 3 rfl rfl rfl rfl rfl rfl hl.1 (Nat.le_of_ble_eq_true rfl) dX0_askedEnd_138 ⟨Nat.le_of_ble_eq_true rfl, Nat.le_of_ble_eq_true rfl⟩) rfl [0, 1, 2, 6, 7, 8, 9, 10, 11, 12] [0, 1, 2, 10, 11, 12, 3, 4, 5, 6, 7, 8, 9] (fun u23 => [xO aC 0 [.ref aL, .ref aM, .int po, .int (co - 1), .int go, .ref aWy, .int wl, .ref aTr, .ref aAk, .int gu, .int wk, .int db, .int dn, .int iv, .int (qs + 1)], xAZ G aTr 40 tr, xAZ G aAk 10 (upd ak po.toNatClampNeg 1), xO aM 2 [.ref aMx, .ref aMs], xAI G aMx 100 u23.1, xAI G aMs 100 u23.2, xO aL 1 [.int pl, .ref aEx, .ref aSh, .ref aLd, .ref aTw, .ref aLe, .ref aOp, .ref aFa], xAI G aEx 10 ex, xAZ G aSh 10 sh, xAI G aLd 40 ld, xAI G aLe 40 le, xAZ G aOp 40 op, xAI G aFa 10 u9]) (fun _ => rfl) rfl rfl rfl rfl (fun u23 H locs hp25 hw => ?_)
            refine lv_aload_n hx hb dX0_askedEnd_141 rfl (lv_at hl 2 rfl) ?_
            refine lv_iload_n hx hb dX0_askedEnd_142 rfl (lv_at hl 0 rfl) ?_
            refine xcall_i (isC := [0, 1, 6, 11]) hc hw (xrunV (n := 1) (As := [.int r10]) (rest := []) hc hw [0, 1, 6, 11] (metX0_canTake l G _ aC aL aM aWy aTr aAk aEx aSh aLd aTw aLe aOp aFa po (co - 1) go wl gu wk db dn iv (qs + 1) tr pl op r10) gX0_askedEnd_X0_canTake rfl (by decide +kernel) ⟨Nat.le_of_ble_eq_true rfl, Nat.le_of_ble_eq_true rfl⟩ 0 rfl rfl rfl rfl rfl rfl hl.1 (Nat.le_of_ble_eq_true rfl) dX0_askedEnd_143 ⟨Nat.le_of_ble_eq_true rfl, Nat.le_of_ble_eq_true rfl⟩) rfl [2, 3, 4, 5, 7, 8, 9, 10, 12] [9, 10, 0, 1, 2, 3, 11, 4, 5, 6, 7, 12, 8] (fun u27 => [xO aC 0 [.ref aL, .ref aM, .int po, .int (co - 1), .int go, .ref aWy, .int wl, .ref aTr, .ref aAk, .int gu, .int wk, .int db, .int dn, .int iv, .int (qs + 1)], xAZ G aTr 40 tr, xAZ G aAk 10 (upd ak po.toNatClampNeg 1), xO aM 2 [.ref aMx, .ref aMs], xAI G aMx 100 u23.1, xAI G aMs 100 u23.2, xO aL 1 [.int pl, .ref aEx, .ref aSh, .ref aLd, .ref aTw, .ref aLe, .ref aOp, .ref aFa], xAI G aEx 10 ex, xAZ G aSh 10 sh, xAI G aLd 40 ld, xAI G aLe 40 le, xAZ G aOp 40 op, xAI G aFa 10 u9]) (fun _ => rfl) rfl rfl rfl rfl (fun r28 u27 H locs hp29 hw => ?_)
            refine lv_if_eq (tgt := 153) hx hb dX0_askedEnd_146 (by decide) (fun c_31 => ?_) (fun c_31 => ?_)
            · refine lv_iconst (v := (-1)) hx hb dX0_askedEnd_153 (by decide) ?_
              obtain ⟨u0, hu0⟩ : ∃ z : (Int32) × (Int32) × (Nat → Int32) × (Nat → Int32) × (Nat → Int32) × (Nat → Int32), z = (co - 1, qs + 1, upd ak po.toNatClampNeg 1, u23.1, u23.2, u9) := ⟨_, rfl⟩
              refine xret_i u0 hc ?_ ?_ ⟨Nat.le_of_ble_eq_true rfl, Nat.le_of_ble_eq_true rfl⟩ dX0_askedEnd_154
              · subst hu0; dsimp only; exact hw
              · subst hu0; exact xe2 (xb hp3 (Eq.trans (if_neg c_5) (Eq.trans (if_neg c_6) (Eq.trans (if_pos c_7) (Eq.trans (if_neg c_8) (xb2 hp11 (Eq.trans (if_neg c_13) (xb hp21 (xb hp25 (xb hp29 (if_pos c_31)))))))))))
            · refine lv_iload_n hx hb dX0_askedEnd_149 rfl (lv_at hl 0 rfl) ?_
              refine lv_goto (tgt := 154) hx hb dX0_askedEnd_150 (by decide) ?_
              obtain ⟨u0, hu0⟩ : ∃ z : (Int32) × (Int32) × (Nat → Int32) × (Nat → Int32) × (Nat → Int32) × (Nat → Int32), z = (co - 1, qs + 1, upd ak po.toNatClampNeg 1, u23.1, u23.2, u9) := ⟨_, rfl⟩
              refine xret_i u0 hc ?_ ?_ ⟨Nat.le_of_ble_eq_true rfl, Nat.le_of_ble_eq_true rfl⟩ dX0_askedEnd_154
              · subst hu0; dsimp only; exact hw
              · subst hu0; exact xe2 (xb hp3 (Eq.trans (if_neg c_5) (Eq.trans (if_neg c_6) (Eq.trans (if_pos c_7) (Eq.trans (if_neg c_8) (xb2 hp11 (Eq.trans (if_neg c_13) (xb hp21 (xb hp25 (xb hp29 (if_neg c_31)))))))))))
        · refine lv_iconst (v := (-1)) hx hb dX0_askedEnd_69 (by decide) ?_
          obtain ⟨u0, hu0⟩ : ∃ z : (Int32) × (Int32) × (Nat → Int32) × (Nat → Int32) × (Nat → Int32) × (Nat → Int32), z = (co, qs, ak, mx, ms, fa) := ⟨_, rfl⟩
          refine xret_i u0 hc ?_ ?_ ⟨Nat.le_of_ble_eq_true rfl, Nat.le_of_ble_eq_true rfl⟩ dX0_askedEnd_70
          · subst hu0; dsimp only; exact hw
          · subst hu0; exact xe2 (xb hp3 (Eq.trans (if_neg c_5) (Eq.trans (if_neg c_6) (Eq.trans (if_pos c_7) (if_pos c_8)))))
    · refine lv_aload_n hx hb dX0_askedEnd_29 rfl (lv_at hl 0 rfl) ?_
      refine xget (C := RX0) (T := TX0) (N := 15) hc hw inX0_askedEnd_X0 0 rfl rfl 2 (by decide) lkX0_askedEnd_f40 rfl rfl dX0_askedEnd_30 ?_
      refine lv_aload_n hx hb dX0_askedEnd_33 rfl (lv_at hl 0 rfl) ?_
      refine xget (C := RX0) (T := TX0) (N := 15) hc hw inX0_askedEnd_X0 0 rfl rfl 9 (by decide) lkX0_askedEnd_f33 rfl rfl dX0_askedEnd_34 ?_
      refine lv_icmp_ne (tgt := 44) hx hb dX0_askedEnd_37 (by decide) (fun c_32 => ?_) (fun c_32 => ?_)
      · refine lv_iconst (v := 0) hx hb dX0_askedEnd_44 (by decide) ?_
        refine lv_istore_n (lv' := [(1, .int 0), (0, .ref aC)]) hx hb dX0_askedEnd_45 rfl hl (by decide) rfl (fun ls hl => ?_)
        refine lv_iload_n hx hb dX0_askedEnd_46 rfl (lv_at hl 0 rfl) ?_
        refine lv_if_eq (tgt := 69) hx hb dX0_askedEnd_47 (by decide) (fun _ => ?_) (fun h => absurd h (by decide))
        refine lv_iconst (v := (-1)) hx hb dX0_askedEnd_69 (by decide) ?_
        obtain ⟨u0, hu0⟩ : ∃ z : (Int32) × (Int32) × (Nat → Int32) × (Nat → Int32) × (Nat → Int32) × (Nat → Int32), z = (co, qs, ak, mx, ms, fa) := ⟨_, rfl⟩
        refine xret_i u0 hc ?_ ?_ ⟨Nat.le_of_ble_eq_true rfl, Nat.le_of_ble_eq_true rfl⟩ dX0_askedEnd_70
        · subst hu0; dsimp only; exact hw
        · subst hu0; exact xe2 (xb hp3 (Eq.trans (if_neg c_5) (Eq.trans (if_pos c_6) (if_neg c_32))))
      · refine lv_iconst (v := 1) hx hb dX0_askedEnd_40 (by decide) ?_
        refine lv_goto (tgt := 45) hx hb dX0_askedEnd_41 (by decide) ?_
        refine lv_istore_n (lv' := [(1, .int 1), (0, .ref aC)]) hx hb dX0_askedEnd_45 rfl hl (by decide) rfl (fun ls hl => ?_)
        refine lv_iload_n hx hb dX0_askedEnd_46 rfl (lv_at hl 0 rfl) ?_
        refine lv_if_eq (tgt := 69) hx hb dX0_askedEnd_47 (by decide) (fun h => absurd h (by decide)) (fun _ => ?_)
        refine lv_aload_n hx hb dX0_askedEnd_50 rfl (lv_at hl 1 rfl) ?_
        refine xget (C := RX0) (T := TX0) (N := 15) hc hw inX0_askedEnd_X0 0 rfl rfl 8 (by decide) lkX0_askedEnd_f30 rfl rfl dX0_askedEnd_51 ?_
        refine lv_aload_n hx hb dX0_askedEnd_54 rfl (lv_at hl 1 rfl) ?_
        refine xget (C := RX0) (T := TX0) (N := 15) hc hw inX0_askedEnd_X0 0 rfl rfl 2 (by decide) lkX0_askedEnd_f40 rfl rfl dX0_askedEnd_55 ?_
        refine xzald hc hw 2 rfl (xin (pX1_isPlace10 hpl hp3 c_5)) dX0_askedEnd_58 ?_
        refine lv_if_ne (tgt := 69) hx hb dX0_askedEnd_59 (by decide) (fun c_33 => ?_) (fun c_33 => ?_)
        · refine lv_iconst (v := (-1)) hx hb dX0_askedEnd_69 (by decide) ?_
          obtain ⟨u0, hu0⟩ : ∃ z : (Int32) × (Int32) × (Nat → Int32) × (Nat → Int32) × (Nat → Int32) × (Nat → Int32), z = (co, qs, ak, mx, ms, fa) := ⟨_, rfl⟩
          refine xret_i u0 hc ?_ ?_ ⟨Nat.le_of_ble_eq_true rfl, Nat.le_of_ble_eq_true rfl⟩ dX0_askedEnd_70
          · subst hu0; dsimp only; exact hw
          · subst hu0; exact xe2 (xb hp3 (Eq.trans (if_neg c_5) (Eq.trans (if_pos c_6) (Eq.trans (if_pos c_32) (if_neg c_33)))))
        · refine lv_aload_n hx hb dX0_askedEnd_62 rfl (lv_at hl 1 rfl) ?_
          refine xget (C := RX0) (T := TX0) (N := 15) hc hw inX0_askedEnd_X0 0 rfl rfl 3 (by decide) lkX0_askedEnd_f43 rfl rfl dX0_askedEnd_63 ?_
          refine lv_if_ne (tgt := 71) hx hb dX0_askedEnd_66 (by decide) (fun c_34 => ?_) (fun c_34 => ?_)
          · refine lv_aload_n hx hb dX0_askedEnd_71 rfl (lv_at hl 1 rfl) ?_
            refine lv_dup hx hb dX0_askedEnd_72 rfl ?_
            refine xget (C := RX0) (T := TX0) (N := 15) hc hw inX0_askedEnd_X0 0 rfl rfl 3 (by decide) lkX0_askedEnd_f43 rfl rfl dX0_askedEnd_73 ?_
            refine lv_iconst (v := 1) hx hb dX0_askedEnd_76 (by decide) ?_
            refine lv_isub hx hb dX0_askedEnd_77 ?_
            refine xput (C := RX0) (T := TX0) (N := 15) (ty := .int) hc hw inX0_askedEnd_X0 tyX0 tyX0_ok nmX0 0 [xO aC 0 [.ref aL, .ref aM, .int po, .int (co - 1), .int go, .ref aWy, .int wl, .ref aTr, .ref aAk, .int gu, .int wk, .int db, .int dn, .int iv, .int qs], xAZ G aTr 40 tr, xAZ G aAk 10 ak, xO aM 2 [.ref aMx, .ref aMs], xAI G aMx 100 mx, xAI G aMs 100 ms, xO aL 1 [.int pl, .ref aEx, .ref aSh, .ref aLd, .ref aTw, .ref aLe, .ref aOp, .ref aFa], xAI G aEx 10 ex, xAZ G aSh 10 sh, xAI G aLd 40 ld, xAI G aLe 40 le, xAZ G aOp 40 op, xAI G aFa 10 fa] rfl rfl 3 (by decide) lkX0_askedEnd_f43 rfl rfl rfl rfl (Nat.le_of_ble_eq_true rfl) rfl dX0_askedEnd_78 (fun H locs hw => ?_)
            refine lv_aload_n hx hb dX0_askedEnd_81 rfl (lv_at hl 1 rfl) ?_
            refine lv_dup hx hb dX0_askedEnd_82 rfl ?_
            refine xget (C := RX0) (T := TX0) (N := 15) hc hw inX0_askedEnd_X0 0 rfl rfl 14 (by decide) lkX0_askedEnd_f114 rfl rfl dX0_askedEnd_83 ?_
            refine lv_iconst (v := 1) hx hb dX0_askedEnd_86 (by decide) ?_
            refine lv_iadd hx hb dX0_askedEnd_87 ?_
            refine xput (C := RX0) (T := TX0) (N := 15) (ty := .int) hc hw inX0_askedEnd_X0 tyX0 tyX0_ok nmX0 0 [xO aC 0 [.ref aL, .ref aM, .int po, .int (co - 1), .int go, .ref aWy, .int wl, .ref aTr, .ref aAk, .int gu, .int wk, .int db, .int dn, .int iv, .int (qs + 1)], xAZ G aTr 40 tr, xAZ G aAk 10 ak, xO aM 2 [.ref aMx, .ref aMs], xAI G aMx 100 mx, xAI G aMs 100 ms, xO aL 1 [.int pl, .ref aEx, .ref aSh, .ref aLd, .ref aTw, .ref aLe, .ref aOp, .ref aFa], xAI G aEx 10 ex, xAZ G aSh 10 sh, xAI G aLd 40 ld, xAI G aLe 40 le, xAZ G aOp 40 op, xAI G aFa 10 fa] rfl rfl 14 (by decide) lkX0_askedEnd_f114 rfl rfl rfl rfl (Nat.le_of_ble_eq_true rfl) rfl dX0_askedEnd_88 (fun H locs hw => ?_)
            refine lv_aload_n hx hb dX0_askedEnd_91 rfl (lv_at hl 1 rfl) ?_
            refine xget (C := RX0) (T := TX0) (N := 15) hc hw inX0_askedEnd_X0 0 rfl rfl 8 (by decide) lkX0_askedEnd_f30 rfl rfl dX0_askedEnd_92 ?_
            refine lv_aload_n hx hb dX0_askedEnd_95 rfl (lv_at hl 1 rfl) ?_
            refine xget (C := RX0) (T := TX0) (N := 15) hc hw inX0_askedEnd_X0 0 rfl rfl 2 (by decide) lkX0_askedEnd_f40 rfl rfl dX0_askedEnd_96 ?_
            refine lv_iconst (v := 1) hx hb dX0_askedEnd_99 (by decide) ?_
            refine xzast hc hw 2 [xO aC 0 [.ref aL, .ref aM, .int po, .int (co - 1), .int go, .ref aWy, .int wl, .ref aTr, .ref aAk, .int gu, .int wk, .int db, .int dn, .int iv, .int (qs + 1)], xAZ G aTr 40 tr, xAZ G aAk 10 (upd ak po.toNatClampNeg 1), xO aM 2 [.ref aMx, .ref aMs], xAI G aMx 100 mx, xAI G aMs 100 ms, xO aL 1 [.int pl, .ref aEx, .ref aSh, .ref aLd, .ref aTw, .ref aLe, .ref aOp, .ref aFa], xAI G aEx 10 ex, xAZ G aSh 10 sh, xAI G aLd 40 ld, xAI G aLe 40 le, xAZ G aOp 40 op, xAI G aFa 10 fa] rfl (xin (pX1_isPlace10 hpl hp3 c_5)) rfl rfl dX0_askedEnd_100 (fun H locs hw => ?_)
            refine lv_aload_n hx hb dX0_askedEnd_101 rfl (lv_at hl 1 rfl) ?_
            refine xget (C := RX0) (T := TX0) (N := 15) hc hw inX0_askedEnd_X0 0 rfl rfl 0 (by decide) lkX0_askedEnd_f36 rfl rfl dX0_askedEnd_102 ?_
            refine lv_aload_n hx hb dX0_askedEnd_105 rfl (lv_at hl 1 rfl) ?_
            refine xget (C := RX0) (T := TX0) (N := 15) hc hw inX0_askedEnd_X0 0 rfl rfl 2 (by decide) lkX0_askedEnd_f40 rfl rfl dX0_askedEnd_106 ?_
            refine lv_aload_n hx hb dX0_askedEnd_109 rfl (lv_at hl 1 rfl) ?_
            refine xget (C := RX0) (T := TX0) (N := 15) hc hw inX0_askedEnd_X0 0 rfl rfl 4 (by decide) lkX0_askedEnd_f18 rfl rfl dX0_askedEnd_110 ?_
            refine xcall_i (isC := [6, 7, 9, 10, 11, 12]) hc hw (xrunV (n := 2) (As := [.int po, .int go]) (rest := []) hc hw [6, 7, 9, 10, 11, 12] (metX1_endTowards l G _ aL aEx aSh aLd aTw aLe aOp aFa pl ex ld le op fa po go hpl hex4 hld) gX0_askedEnd_X1_endTowards rfl (by decide +kernel) ⟨Nat.le_of_ble_eq_true rfl, Nat.le_of_ble_eq_true rfl⟩ 6 rfl rfl rfl rfl rfl rfl hl.1 (Nat.le_of_ble_eq_true rfl) dX0_askedEnd_113 ⟨Nat.le_of_ble_eq_true rfl, Nat.le_of_ble_eq_true rfl⟩) rfl [0, 1, 2, 3, 4, 5, 8] [0, 1, 2, 3, 4, 5, 7, 8, 6, 9, 10, 11, 12] (fun u35 => [xO aC 0 [.ref aL, .ref aM, .int po, .int (co - 1), .int go, .ref aWy, .int wl, .ref aTr, .ref aAk, .int gu, .int wk, .int db, .int dn, .int iv, .int (qs + 1)], xAZ G aTr 40 tr, xAZ G aAk 10 (upd ak po.toNatClampNeg 1), xO aM 2 [.ref aMx, .ref aMs], xAI G aMx 100 mx, xAI G aMs 100 ms, xO aL 1 [.int pl, .ref aEx, .ref aSh, .ref aLd, .ref aTw, .ref aLe, .ref aOp, .ref aFa], xAI G aEx 10 ex, xAZ G aSh 10 sh, xAI G aLd 40 ld, xAI G aLe 40 le, xAZ G aOp 40 op, xAI G aFa 10 u35]) (fun _ => rfl) rfl rfl rfl rfl (fun r36 u35 H locs hp37 hw => ?_)
            refine lv_istore_n (lv' := [(2, .int r36), (1, .int 1), (0, .ref aC)]) hx hb dX0_askedEnd_116 rfl hl (by decide) rfl (fun ls hl => ?_)
            refine lv_iload_n hx hb dX0_askedEnd_117 rfl (lv_at hl 0 rfl) ?_
            refine lv_iconst (v := (-1)) hx hb dX0_askedEnd_118 (by decide) ?_
            refine lv_icmp_eq (tgt := 141) hx hb dX0_askedEnd_119 (by decide) (fun c_39 => ?_) (fun c_39 => ?_)
            · refine lv_aload_n hx hb dX0_askedEnd_141 rfl (lv_at hl 2 rfl) ?_
              refine lv_iload_n hx hb dX0_askedEnd_142 rfl (lv_at hl 0 rfl) ?_
              refine xcall_i (isC := [0, 1, 6, 11]) hc hw (xrunV (n := 1) (As := [.int r36]) (rest := []) hc hw [0, 1, 6, 11] (metX0_canTake l G _ aC aL aM aWy aTr aAk aEx aSh aLd aTw aLe aOp aFa po (co - 1) go wl gu wk db dn iv (qs + 1) tr pl op r36) gX0_askedEnd_X0_canTake rfl (by decide +kernel) ⟨Nat.le_of_ble_eq_true rfl, Nat.le_of_ble_eq_true rfl⟩ 0 rfl rfl rfl rfl rfl rfl hl.1 (Nat.le_of_ble_eq_true rfl) dX0_askedEnd_143 ⟨Nat.le_of_ble_eq_true rfl, Nat.le_of_ble_eq_true rfl⟩) rfl [2, 3, 4, 5, 7, 8, 9, 10, 12] [9, 10, 0, 1, 2, 3, 11, 4, 5, 6, 7, 12, 8] (fun u40 => [xO aC 0 [.ref aL, .ref aM, .int po, .int (co - 1), .int go, .ref aWy, .int wl, .ref aTr, .ref aAk, .int gu, .int wk, .int db, .int dn, .int iv, .int (qs + 1)], xAZ G aTr 40 tr, xAZ G aAk 10 (upd ak po.toNatClampNeg 1), xO aM 2 [.ref aMx, .ref aMs], xAI G aMx 100 mx, xAI G aMs 100 ms, xO aL 1 [.int pl, .ref aEx, .ref aSh, .ref aLd, .ref aTw, .ref aLe, .ref aOp, .ref aFa], xAI G aEx 10 ex, xAZ G aSh 10 sh, xAI G aLd 40 ld, xAI G aLe 40 le, xAZ G aOp 40 op, xAI G aFa 10 u35]) (fun _ => rfl) rfl rfl rfl rfl (fun r41 u40 H locs hp42 hw => ?_)
              refine lv_if_eq (tgt := 153) hx hb dX0_askedEnd_146 (by decide) (fun c_44 => ?_) (fun c_44 => ?_)
              · refine lv_iconst (v := (-1)) hx hb dX0_askedEnd_153 (by decide) ?_
                obtain ⟨u0, hu0⟩ : ∃ z : (Int32) × (Int32) × (Nat → Int32) × (Nat → Int32) × (Nat → Int32) × (Nat → Int32), z = (co - 1, qs + 1, upd ak po.toNatClampNeg 1, mx, ms, u35) := ⟨_, rfl⟩
                refine xret_i u0 hc ?_ ?_ ⟨Nat.le_of_ble_eq_true rfl, Nat.le_of_ble_eq_true rfl⟩ dX0_askedEnd_154
                · subst hu0; dsimp only; exact hw
                · subst hu0; exact xe2 (xb hp3 (Eq.trans (if_neg c_5) (Eq.trans (if_pos c_6) (Eq.trans (if_pos c_32) (Eq.trans (if_pos c_33) (Eq.trans (if_neg c_34) (xb2 hp37 (Eq.trans (if_pos c_39) (xb hp42 (if_pos c_44))))))))))
              · refine lv_iload_n hx hb dX0_askedEnd_149 rfl (lv_at hl 0 rfl) ?_
                refine lv_goto (tgt := 154) hx hb dX0_askedEnd_150 (by decide) ?_
                obtain ⟨u0, hu0⟩ : ∃ z : (Int32) × (Int32) × (Nat → Int32) × (Nat → Int32) × (Nat → Int32) × (Nat → Int32), z = (co - 1, qs + 1, upd ak po.toNatClampNeg 1, mx, ms, u35) := ⟨_, rfl⟩
                refine xret_i u0 hc ?_ ?_ ⟨Nat.le_of_ble_eq_true rfl, Nat.le_of_ble_eq_true rfl⟩ dX0_askedEnd_154
                · subst hu0; dsimp only; exact hw
                · subst hu0; exact xe2 (xb hp3 (Eq.trans (if_neg c_5) (Eq.trans (if_pos c_6) (Eq.trans (if_pos c_32) (Eq.trans (if_pos c_33) (Eq.trans (if_neg c_34) (xb2 hp37 (Eq.trans (if_pos c_39) (xb hp42 (if_neg c_44))))))))))
            · refine lv_aload_n hx hb dX0_askedEnd_122 rfl (lv_at hl 2 rfl) ?_
              refine xget (C := RX0) (T := TX0) (N := 15) hc hw inX0_askedEnd_X0 0 rfl rfl 1 (by decide) lkX0_askedEnd_f12 rfl rfl dX0_askedEnd_123 ?_
              refine lv_aload_n hx hb dX0_askedEnd_126 rfl (lv_at hl 2 rfl) ?_
              refine xget (C := RX0) (T := TX0) (N := 15) hc hw inX0_askedEnd_X0 0 rfl rfl 4 (by decide) lkX0_askedEnd_f18 rfl rfl dX0_askedEnd_127 ?_
              refine lv_aload_n hx hb dX0_askedEnd_130 rfl (lv_at hl 2 rfl) ?_
              refine xget (C := RX0) (T := TX0) (N := 15) hc hw inX0_askedEnd_X0 0 rfl rfl 2 (by decide) lkX0_askedEnd_f40 rfl rfl dX0_askedEnd_131 ?_
              refine lv_iload_n hx hb dX0_askedEnd_134 rfl (lv_at hl 0 rfl) ?_
              refine xcall_i (isC := []) hc hw (xrunSN (n := 1) (As := [.int r36]) (rest := [.int po, .int go, .ref aM]) hc hw [] (metX3_exitOfEnd l G _ r36) gX0_askedEnd_X3_exitOfEnd_n120 nkX0_120 lkX0_askedEnd_iiX3 lkX0_askedEnd_isX3_exitOfEnd rfl (by decide +kernel) ⟨Nat.le_of_ble_eq_true rfl, Nat.le_of_ble_eq_true rfl⟩ rfl rfl rfl rfl hl.1 (Nat.le_of_ble_eq_true rfl) dX0_askedEnd_135 ⟨Nat.le_of_ble_eq_true rfl, Nat.le_of_ble_eq_true rfl⟩) rfl [0, 1, 2, 3, 4, 5, 6, 7, 8, 9, 10, 11, 12] [0, 1, 2, 3, 4, 5, 6, 7, 8, 9, 10, 11, 12] (fun u45 => [xO aC 0 [.ref aL, .ref aM, .int po, .int (co - 1), .int go, .ref aWy, .int wl, .ref aTr, .ref aAk, .int gu, .int wk, .int db, .int dn, .int iv, .int (qs + 1)], xAZ G aTr 40 tr, xAZ G aAk 10 (upd ak po.toNatClampNeg 1), xO aM 2 [.ref aMx, .ref aMs], xAI G aMx 100 mx, xAI G aMs 100 ms, xO aL 1 [.int pl, .ref aEx, .ref aSh, .ref aLd, .ref aTw, .ref aLe, .ref aOp, .ref aFa], xAI G aEx 10 ex, xAZ G aSh 10 sh, xAI G aLd 40 ld, xAI G aLe 40 le, xAZ G aOp 40 op, xAI G aFa 10 u35]) (fun _ => rfl) rfl rfl rfl rfl (fun r46 u45 H locs hp47 hw => ?_)
              refine xcall_v (isC := [3, 4, 5]) hc hw (xrunV (n := 3) (As := [.int go, .int po, .int r46]) (rest := []) hc hw [3, 4, 5] (metX2_learn l G _ aM aMx aMs mx ms go po r46) gX0_askedEnd_X2_learn rfl (by decide +kernel) ⟨Nat.le_of_ble_eq_true rfl, Nat.le_of_ble_eq_true rfl⟩ 3 rfl rfl rfl rfl rfl rfl hl.1 (Nat.le_of_ble_eq_true rfl) dX0_askedEnd_138 ⟨Nat.le_of_ble_eq_true rfl, Nat.le_of_ble_eq_true rfl⟩) rfl [0, 1, 2, 6, 7, 8, 9, 10, 11, 12] [0, 1, 2, 10, 11, 12, 3, 4, 5, 6, 7, 8, 9] (fun u49 => [xO aC 0 [.ref aL, .ref aM, .int po, .int (co - 1), .int go, .ref aWy, .int wl, .ref aTr, .ref aAk, .int gu, .int wk, .int db, .int dn, .int iv, .int (qs + 1)], xAZ G aTr 40 tr, xAZ G aAk 10 (upd ak po.toNatClampNeg 1), xO aM 2 [.ref aMx, .ref aMs], xAI G aMx 100 u49.1, xAI G aMs 100 u49.2, xO aL 1 [.int pl, .ref aEx, .ref aSh, .ref aLd, .ref aTw, .ref aLe, .ref aOp, .ref aFa], xAI G aEx 10 ex, xAZ G aSh 10 sh, xAI G aLd 40 ld, xAI G aLe 40 le, xAZ G aOp 40 op, xAI G aFa 10 u35]) (fun _ => rfl) rfl rfl rfl rfl (fun u49 H locs hp51 hw => ?_)
              refine lv_aload_n hx hb dX0_askedEnd_141 rfl (lv_at hl 2 rfl) ?_
              refine lv_iload_n hx hb dX0_askedEnd_142 rfl (lv_at hl 0 rfl) ?_
              refine xcall_i (isC := [0, 1, 6, 11]) hc hw (xrunV (n := 1) (As := [.int r36]) (rest := []) hc hw [0, 1, 6, 11] (metX0_canTake l G _ aC aL aM aWy aTr aAk aEx aSh aLd aTw aLe aOp aFa po (co - 1) go wl gu wk db dn iv (qs + 1) tr pl op r36) gX0_askedEnd_X0_canTake rfl (by decide +kernel) ⟨Nat.le_of_ble_eq_true rfl, Nat.le_of_ble_eq_true rfl⟩ 0 rfl rfl rfl rfl rfl rfl hl.1 (Nat.le_of_ble_eq_true rfl) dX0_askedEnd_143 ⟨Nat.le_of_ble_eq_true rfl, Nat.le_of_ble_eq_true rfl⟩) rfl [2, 3, 4, 5, 7, 8, 9, 10, 12] [9, 10, 0, 1, 2, 3, 11, 4, 5, 6, 7, 12, 8] (fun u53 => [xO aC 0 [.ref aL, .ref aM, .int po, .int (co - 1), .int go, .ref aWy, .int wl, .ref aTr, .ref aAk, .int gu, .int wk, .int db, .int dn, .int iv, .int (qs + 1)], xAZ G aTr 40 tr, xAZ G aAk 10 (upd ak po.toNatClampNeg 1), xO aM 2 [.ref aMx, .ref aMs], xAI G aMx 100 u49.1, xAI G aMs 100 u49.2, xO aL 1 [.int pl, .ref aEx, .ref aSh, .ref aLd, .ref aTw, .ref aLe, .ref aOp, .ref aFa], xAI G aEx 10 ex, xAZ G aSh 10 sh, xAI G aLd 40 ld, xAI G aLe 40 le, xAZ G aOp 40 op, xAI G aFa 10 u35]) (fun _ => rfl) rfl rfl rfl rfl (fun r54 u53 H locs hp55 hw => ?_)
              refine lv_if_eq (tgt := 153) hx hb dX0_askedEnd_146 (by decide) (fun c_57 => ?_) (fun c_57 => ?_)
              · refine lv_iconst (v := (-1)) hx hb dX0_askedEnd_153 (by decide) ?_
                obtain ⟨u0, hu0⟩ : ∃ z : (Int32) × (Int32) × (Nat → Int32) × (Nat → Int32) × (Nat → Int32) × (Nat → Int32), z = (co - 1, qs + 1, upd ak po.toNatClampNeg 1, u49.1, u49.2, u35) := ⟨_, rfl⟩
                refine xret_i u0 hc ?_ ?_ ⟨Nat.le_of_ble_eq_true rfl, Nat.le_of_ble_eq_true rfl⟩ dX0_askedEnd_154
                · subst hu0; dsimp only; exact hw
                · subst hu0; exact xe2 (xb hp3 (Eq.trans (if_neg c_5) (Eq.trans (if_pos c_6) (Eq.trans (if_pos c_32) (Eq.trans (if_pos c_33) (Eq.trans (if_neg c_34) (xb2 hp37 (Eq.trans (if_neg c_39) (xb hp47 (xb hp51 (xb hp55 (if_pos c_57))))))))))))
              · refine lv_iload_n hx hb dX0_askedEnd_149 rfl (lv_at hl 0 rfl) ?_
                refine lv_goto (tgt := 154) hx hb dX0_askedEnd_150 (by decide) ?_
                obtain ⟨u0, hu0⟩ : ∃ z : (Int32) × (Int32) × (Nat → Int32) × (Nat → Int32) × (Nat → Int32) × (Nat → Int32), z = (co - 1, qs + 1, upd ak po.toNatClampNeg 1, u49.1, u49.2, u35) := ⟨_, rfl⟩
                refine xret_i u0 hc ?_ ?_ ⟨Nat.le_of_ble_eq_true rfl, Nat.le_of_ble_eq_true rfl⟩ dX0_askedEnd_154
                · subst hu0; dsimp only; exact hw
                · subst hu0; exact xe2 (xb hp3 (Eq.trans (if_neg c_5) (Eq.trans (if_pos c_6) (Eq.trans (if_pos c_32) (Eq.trans (if_pos c_33) (Eq.trans (if_neg c_34) (xb2 hp37 (Eq.trans (if_neg c_39) (xb hp47 (xb hp51 (xb hp55 (if_neg c_57))))))))))))
          · refine lv_iconst (v := (-1)) hx hb dX0_askedEnd_69 (by decide) ?_
            obtain ⟨u0, hu0⟩ : ∃ z : (Int32) × (Int32) × (Nat → Int32) × (Nat → Int32) × (Nat → Int32) × (Nat → Int32), z = (co, qs, ak, mx, ms, fa) := ⟨_, rfl⟩
            refine xret_i u0 hc ?_ ?_ ⟨Nat.le_of_ble_eq_true rfl, Nat.le_of_ble_eq_true rfl⟩ dX0_askedEnd_70
            · subst hu0; dsimp only; exact hw
            · subst hu0; exact xe2 (xb hp3 (Eq.trans (if_neg c_5) (Eq.trans (if_pos c_6) (Eq.trans (if_pos c_32) (Eq.trans (if_pos c_33) (if_pos c_34))))))
def LX0_firstUntried_t (po : Int32) (tr : Nat → Int32) (op : Nat → Int32) : Nat → Nat → Int32
  | 0, i => (0)
  | n + 1, i =>
    if 4 ≤ (nI i) then ((-1)) else (xbind (FX0_canTake tr op ((po * 4) + (nI i))) (fun r3 => if r3 = 0 then (LX0_firstUntried_t po tr op n (i + 1)) else ((po * 4) + (nI i))))
set_option maxHeartbeats 40000000 in
set_option maxRecDepth 100000 in
theorem lpX0_firstUntried_t {pg : Program} {l : Launch} {en : Env} {s : State} {mi : MethodId} {args : Array Value} {below : List Frame} {meth : Method} {cd : Code} {w0 : va_W} {sz : Nat} {post : Int32 → Unit → Prop} (G : xG) (hc : xC pg s mi args meth cd cX0_firstUntried 3 RX0 wsX0_firstUntried (some .int) G (va_A w0 sz)) (aC : Nat) (aL : Nat) (aM : Nat) (aWy : Nat) (aTr : Nat) (aAk : Nat) (aEx : Nat) (aSh : Nat) (aLd : Nat) (aTw : Nat) (aLe : Nat) (aOp : Nat) (aFa : Nat) (po : Int32) (co : Int32) (go : Int32) (wl : Int32) (gu : Int32) (wk : Int32) (db : Int32) (dn : Int32) (iv : Int32) (qs : Int32) (tr : Nat → Int32) (pl : Int32) (op : Nat → Int32) :
    ∀ (n i : Nat), ((i : Nat) : Int) ≤ (4 : Int32).toInt → (4 : Int32).toInt < ((i + n : Nat) : Int) → ∀ (H : Heap) (locs : List Loc) (ls : Array Slot), xW G (va_A w0 sz) s.heap [xO aC 0 [.ref aL, .ref aM, .int po, .int co, .int go, .ref aWy, .int wl, .ref aTr, .ref aAk, .int gu, .int wk, .int db, .int dn, .int iv, .int qs], xAZ G aTr 40 tr, xO aL 1 [.int pl, .ref aEx, .ref aSh, .ref aLd, .ref aTw, .ref aLe, .ref aOp, .ref aFa], xAZ G aOp 40 op] H locs → lv_has ls 3 [(0, .ref aC), (1, .int (nI i))] → (∀ r u, r = LX0_firstUntried_t po tr op n i → post r u) → W pg l en ⟨2, 0, 0, 41⟩ s mi args below meth cd H locs 0 0 (MQ below (xQi G w0 sz post (fun u : Unit => [xO aC 0 [.ref aL, .ref aM, .int po, .int co, .int go, .ref aWy, .int wl, .ref aTr, .ref aAk, .int gu, .int wk, .int db, .int dn, .int iv, .int qs], xAZ G aTr 40 tr, xO aL 1 [.int pl, .ref aEx, .ref aSh, .ref aLd, .ref aTw, .ref aLe, .ref aOp, .ref aFa], xAZ G aOp 40 op])) args s (⟨2, 0, 0, 41⟩ : Room).cells (⟨2, 0, 0, 41⟩ : Room).slots (va_A w0 sz)) (F0 mi 2 ls []) := by
  obtain ⟨hx, hb, -, hown, hts, -⟩ := id hc
  intro n
  induction n with
  | zero =>
    intro i hlo hfu
    intros; exact absurd hfu (by omega)
  | succ n ih =>
    intro i hlo hfu  H locs ls hw hl hres
    refine lv_iload_n hx hb dX0_firstUntried_2 rfl (lv_at hl 1 rfl) ?_
    refine lv_iconst (v := 4) hx hb dX0_firstUntried_3 (by decide) ?_
    refine lv_icmp_ge (tgt := 32) hx hb dX0_firstUntried_4 (by decide) (fun c_1 => ?_) (fun c_1 => ?_)
    · refine lv_iconst (v := (-1)) hx hb dX0_firstUntried_32 (by decide) ?_
      exact xret_i () hc hw (hres _ _ (Eq.symm (if_pos c_1))) ⟨Nat.le_of_ble_eq_true rfl, Nat.le_of_ble_eq_true rfl⟩ dX0_firstUntried_33
    · refine lv_aload_n hx hb dX0_firstUntried_7 rfl (lv_at hl 0 rfl) ?_
      refine xget (C := RX0) (T := TX0) (N := 15) hc hw inX0_firstUntried_X0 0 rfl rfl 2 (by decide) lkX0_firstUntried_f40 rfl rfl dX0_firstUntried_8 ?_
      refine lv_iconst (v := 4) hx hb dX0_firstUntried_11 (by decide) ?_
      refine lv_imul hx hb dX0_firstUntried_12 ?_
      refine lv_iload_n hx hb dX0_firstUntried_13 rfl (lv_at hl 1 rfl) ?_
      refine lv_iadd hx hb dX0_firstUntried_14 ?_
      refine lv_istore_n (lv' := [(2, .int ((po * 4) + (nI i))), (0, .ref aC), (1, .int (nI i))]) hx hb dX0_firstUntried_15 rfl hl (by decide) rfl (fun ls hl => ?_)
      refine lv_aload_n hx hb dX0_firstUntried_16 rfl (lv_at hl 1 rfl) ?_
      refine lv_iload_n hx hb dX0_firstUntried_17 rfl (lv_at hl 0 rfl) ?_
      refine xcall_i (isC := [0, 1, 2, 3]) hc hw (xrunV (n := 1) (As := [.int ((po * 4) + (nI i))]) (rest := []) hc hw [0, 1, 2, 3] (metX0_canTake l G _ aC aL aM aWy aTr aAk aEx aSh aLd aTw aLe aOp aFa po co go wl gu wk db dn iv qs tr pl op ((po * 4) + (nI i))) gX0_firstUntried_X0_canTake rfl (by decide +kernel) ⟨Nat.le_of_ble_eq_true rfl, Nat.le_of_ble_eq_true rfl⟩ 0 rfl rfl rfl rfl rfl rfl hl.1 (Nat.le_of_ble_eq_true rfl) dX0_firstUntried_18 ⟨Nat.le_of_ble_eq_true rfl, Nat.le_of_ble_eq_true rfl⟩) rfl [] [0, 1, 2, 3] (fun u2 => [xO aC 0 [.ref aL, .ref aM, .int po, .int co, .int go, .ref aWy, .int wl, .ref aTr, .ref aAk, .int gu, .int wk, .int db, .int dn, .int iv, .int qs], xAZ G aTr 40 tr, xO aL 1 [.int pl, .ref aEx, .ref aSh, .ref aLd, .ref aTw, .ref aLe, .ref aOp, .ref aFa], xAZ G aOp 40 op]) (fun _ => rfl) rfl rfl rfl rfl (fun r3 u2 H locs hp4 hw => ?_)
      refine lv_if_eq (tgt := 26) hx hb dX0_firstUntried_21 (by decide) (fun c_6 => ?_) (fun c_6 => ?_)
      · refine lv_iinc (v := nI (i + 1)) (lv' := [(1, .int (nI (i + 1))), (2, .int ((po * 4) + (nI i))), (0, .ref aC)]) hx hb dX0_firstUntried_26 hl (k := 2) rfl (nI_1 _) (by decide) rfl (fun ls hl => ?_)
        refine lv_goto (tgt := 2) hx hb dX0_firstUntried_29 (by decide) ?_
        exact ih (i + 1)  (xlt hlo c_1) (by omega) H locs ls hw (lv_sub hl [2, 0] rfl) (fun r u e => hres r u (xtr1 (Eq.trans (if_neg c_1) (xb hp4 (if_pos c_6))) e))
      · refine lv_iload_n hx hb dX0_firstUntried_24 rfl (lv_at hl 0 rfl) ?_
        exact xret_i () hc hw (hres _ _ (Eq.symm (Eq.trans (if_neg c_1) (xb hp4 (if_neg c_6))))) ⟨Nat.le_of_ble_eq_true rfl, Nat.le_of_ble_eq_true rfl⟩ dX0_firstUntried_25
def FX0_firstUntried (po : Int32) (tr : Nat → Int32) (op : Nat → Int32) : Int32 :=
  LX0_firstUntried_t po tr op 5 0
set_option maxHeartbeats 40000000 in
set_option maxRecDepth 100000 in
theorem metX0_firstUntried (l : Launch) (G : xG) (sz : Nat) (aC : Nat) (aL : Nat) (aM : Nat) (aWy : Nat) (aTr : Nat) (aAk : Nat) (aEx : Nat) (aSh : Nat) (aLd : Nat) (aTw : Nat) (aLe : Nat) (aOp : Nat) (aFa : Nat) (po : Int32) (co : Int32) (go : Int32) (wl : Int32) (gu : Int32) (wk : Int32) (db : Int32) (dn : Int32) (iv : Int32) (qs : Int32) (tr : Nat → Int32) (pl : Int32) (op : Nat → Int32) : xM l yX0_firstUntried wsX0_firstUntried ⟨2, 0, 0, 41⟩ G [.ref aC] [xO aC 0 [.ref aL, .ref aM, .int po, .int co, .int go, .ref aWy, .int wl, .ref aTr, .ref aAk, .int gu, .int wk, .int db, .int dn, .int iv, .int qs], xAZ G aTr 40 tr, xO aL 1 [.int pl, .ref aEx, .ref aSh, .ref aLd, .ref aTw, .ref aLe, .ref aOp, .ref aFa], xAZ G aOp 40 op] sz (xQi G [xO aC 0 [.ref aL, .ref aM, .int po, .int co, .int go, .ref aWy, .int wl, .ref aTr, .ref aAk, .int gu, .int wk, .int db, .int dn, .int iv, .int qs], xAZ G aTr 40 tr, xO aL 1 [.int pl, .ref aEx, .ref aSh, .ref aLd, .ref aTw, .ref aLe, .ref aOp, .ref aFa], xAZ G aOp 40 op] sz (fun (r : Int32) (_ : Unit) => r = FX0_firstUntried po tr op) (fun u : Unit => [xO aC 0 [.ref aL, .ref aM, .int po, .int co, .int go, .ref aWy, .int wl, .ref aTr, .ref aAk, .int gu, .int wk, .int db, .int dn, .int iv, .int qs], xAZ G aTr 40 tr, xO aL 1 [.int pl, .ref aEx, .ref aSh, .ref aLd, .ref aTw, .ref aLe, .ref aOp, .ref aFa], xAZ G aOp 40 op])) := by
  refine xof (own := RX0) (cc := cX0_firstUntried) (maxL := 3) (ret := (some .int)) rfl (by decide) rfl (Nat.le_of_ble_eq_true rfl) ?_
  intro pg en s mi below meth cd hc hnm hw ls hl
  obtain ⟨hx, hb, -, hown, hts, -⟩ := id hc
  have hl : lv_has ls 3 [(0, .ref aC)] := hl
  refine lv_iconst (v := 0) hx hb dX0_firstUntried_0 (by decide) ?_
  refine lv_istore_n (lv' := [(1, .int 0), (0, .ref aC)]) hx hb dX0_firstUntried_1 rfl hl (by decide) rfl (fun ls hl => ?_)
  exact lpX0_firstUntried_t G hc aC aL aM aWy aTr aAk aEx aSh aLd aTw aLe aOp aFa po co go wl gu wk db dn iv qs tr pl op 5 0 (by decide) (by decide) _ _ _ hw (lv_sub hl [1, 0] rfl) (fun r u e => xtr1 rfl e)
def FX0_take (po : Int32) (wl : Int32) (wk : Int32) (wy : Nat → Int32) (tr : Nat → Int32) (tw : Nat → Int32) (le : Nat → Int32) (e : Int32) : (Nat → Int32) × (Nat → Int32) × (Int32) × (Int32) × (Int32) :=
  xbind (FX1_twinOf tw e) (fun r2 => xbind (FX3_isEnd e) (fun r6 => if r6 = 0 then ((tr, wy, wl, wk, po)) else (xbind (FX3_isEnd r2) (fun r11 => if r11 = 0 then ((tr, wy, wl, wk, po)) else (if wl < 20 then (xbind (FX1_milesAt le e) (fun r17 => xbind (FX3_placeOfEnd r2) (fun r21 => (upd (upd tr e.toNatClampNeg 1) r2.toNatClampNeg 1, upd wy wl.toNatClampNeg e, wl + 1, wk + r17, r21)))) else ((tr, wy, wl, wk, po)))))))
set_option maxHeartbeats 40000000 in
set_option maxRecDepth 100000 in
theorem metX0_take (l : Launch) (G : xG) (sz : Nat) (aC : Nat) (aL : Nat) (aM : Nat) (aWy : Nat) (aTr : Nat) (aAk : Nat) (aEx : Nat) (aSh : Nat) (aLd : Nat) (aTw : Nat) (aLe : Nat) (aOp : Nat) (aFa : Nat) (po : Int32) (co : Int32) (go : Int32) (wl : Int32) (gu : Int32) (wk : Int32) (db : Int32) (dn : Int32) (iv : Int32) (qs : Int32) (wy : Nat → Int32) (tr : Nat → Int32) (pl : Int32) (tw : Nat → Int32) (le : Nat → Int32) (e : Int32) (hwl : 0 ≤ wl.toInt ∧ wl.toInt ≤ 20) : xM l yX0_take wsX0_take ⟨2, 0, 0, 41⟩ G [.ref aC, .int e] [xO aC 0 [.ref aL, .ref aM, .int po, .int co, .int go, .ref aWy, .int wl, .ref aTr, .ref aAk, .int gu, .int wk, .int db, .int dn, .int iv, .int qs], xAI G aWy 20 wy, xAZ G aTr 40 tr, xO aL 1 [.int pl, .ref aEx, .ref aSh, .ref aLd, .ref aTw, .ref aLe, .ref aOp, .ref aFa], xAI G aTw 40 tw, xAI G aLe 40 le] sz (xQv G [xO aC 0 [.ref aL, .ref aM, .int po, .int co, .int go, .ref aWy, .int wl, .ref aTr, .ref aAk, .int gu, .int wk, .int db, .int dn, .int iv, .int qs], xAI G aWy 20 wy, xAZ G aTr 40 tr, xO aL 1 [.int pl, .ref aEx, .ref aSh, .ref aLd, .ref aTw, .ref aLe, .ref aOp, .ref aFa], xAI G aTw 40 tw, xAI G aLe 40 le] sz (fun (u : (Nat → Int32) × (Nat → Int32) × (Int32) × (Int32) × (Int32)) => u = FX0_take po wl wk wy tr tw le e) (fun u : (Nat → Int32) × (Nat → Int32) × (Int32) × (Int32) × (Int32) => [xO aC 0 [.ref aL, .ref aM, .int u.2.2.2.2, .int co, .int go, .ref aWy, .int u.2.2.1, .ref aTr, .ref aAk, .int gu, .int u.2.2.2.1, .int db, .int dn, .int iv, .int qs], xAI G aWy 20 u.2.1, xAZ G aTr 40 u.1, xO aL 1 [.int pl, .ref aEx, .ref aSh, .ref aLd, .ref aTw, .ref aLe, .ref aOp, .ref aFa], xAI G aTw 40 tw, xAI G aLe 40 le])) := by
  refine xof (own := RX0) (cc := cX0_take) (maxL := 3) (ret := none) rfl (by decide) rfl (Nat.le_of_ble_eq_true rfl) ?_
  intro pg en s mi below meth cd hc hnm hw ls hl
  obtain ⟨hx, hb, -, hown, hts, -⟩ := id hc
  have hl : lv_has ls 3 [(0, .ref aC), (1, .int e)] := hl
  refine lv_aload_n hx hb dX0_take_0 rfl (lv_at hl 0 rfl) ?_
  refine xget (C := RX0) (T := TX0) (N := 15) hc hw inX0_take_X0 0 rfl rfl 0 (by decide) lkX0_take_f36 rfl rfl dX0_take_1 ?_
  refine lv_iload_n hx hb dX0_take_4 rfl (lv_at hl 1 rfl) ?_
  refine xcall_i (isC := [3, 4]) hc hw (xrunV (n := 1) (As := [.int e]) (rest := []) hc hw [3, 4] (metX1_twinOf l G _ aL aEx aSh aLd aTw aLe aOp aFa pl tw e) gX0_take_X1_twinOf rfl (by decide +kernel) ⟨Nat.le_of_ble_eq_true rfl, Nat.le_of_ble_eq_true rfl⟩ 3 rfl rfl rfl rfl rfl rfl hl.1 (Nat.le_of_ble_eq_true rfl) dX0_take_5 ⟨Nat.le_of_ble_eq_true rfl, Nat.le_of_ble_eq_true rfl⟩) rfl [0, 1, 2, 5] [0, 1, 2, 4, 5, 3] (fun u1 => [xO aC 0 [.ref aL, .ref aM, .int po, .int co, .int go, .ref aWy, .int wl, .ref aTr, .ref aAk, .int gu, .int wk, .int db, .int dn, .int iv, .int qs], xAI G aWy 20 wy, xAZ G aTr 40 tr, xO aL 1 [.int pl, .ref aEx, .ref aSh, .ref aLd, .ref aTw, .ref aLe, .ref aOp, .ref aFa], xAI G aTw 40 tw, xAI G aLe 40 le]) (fun _ => rfl) rfl rfl rfl rfl (fun r2 u1 H locs hp3 hw => ?_)
  refine lv_istore_n (lv' := [(2, .int r2), (0, .ref aC), (1, .int e)]) hx hb dX0_take_8 rfl hl (by decide) rfl (fun ls hl => ?_)
  refine lv_iload_n hx hb dX0_take_9 rfl (lv_at hl 2 rfl) ?_
  refine xcall_i (isC := []) hc hw (xrunSN (n := 1) (As := [.int e]) (rest := []) hc hw [] (metX3_isEnd l G _ e) gX0_take_X3_isEnd_n56 nkX0_56 lkX0_take_iiX3 lkX0_take_isX3_isEnd rfl (by decide +kernel) ⟨Nat.le_of_ble_eq_true rfl, Nat.le_of_ble_eq_true rfl⟩ rfl rfl rfl rfl hl.1 (Nat.le_of_ble_eq_true rfl) dX0_take_10 ⟨Nat.le_of_ble_eq_true rfl, Nat.le_of_ble_eq_true rfl⟩) rfl [0, 1, 2, 3, 4, 5] [0, 1, 2, 3, 4, 5] (fun u5 => [xO aC 0 [.ref aL, .ref aM, .int po, .int co, .int go, .ref aWy, .int wl, .ref aTr, .ref aAk, .int gu, .int wk, .int db, .int dn, .int iv, .int qs], xAI G aWy 20 wy, xAZ G aTr 40 tr, xO aL 1 [.int pl, .ref aEx, .ref aSh, .ref aLd, .ref aTw, .ref aLe, .ref aOp, .ref aFa], xAI G aTw 40 tw, xAI G aLe 40 le]) (fun _ => rfl) rfl rfl rfl rfl (fun r6 u5 H locs hp7 hw => ?_)
  refine lv_if_eq (tgt := 32) hx hb dX0_take_13 (by decide) (fun c_9 => ?_) (fun c_9 => ?_)
  · obtain ⟨u0, hu0⟩ : ∃ z : (Nat → Int32) × (Nat → Int32) × (Int32) × (Int32) × (Int32), z = (tr, wy, wl, wk, po) := ⟨_, rfl⟩
    refine xret_v u0 hc ?_ ?_ ⟨Nat.le_of_ble_eq_true rfl, Nat.le_of_ble_eq_true rfl⟩ dX0_take_32
    · subst hu0; dsimp only; exact hw
    · subst hu0; exact Eq.symm (xb hp3 (xb hp7 (if_pos c_9)))
  · refine lv_iload_n hx hb dX0_take_16 rfl (lv_at hl 0 rfl) ?_
    refine xcall_i (isC := []) hc hw (xrunSN (n := 1) (As := [.int r2]) (rest := []) hc hw [] (metX3_isEnd l G _ r2) gX0_take_X3_isEnd_n56 nkX0_56 lkX0_take_iiX3 lkX0_take_isX3_isEnd rfl (by decide +kernel) ⟨Nat.le_of_ble_eq_true rfl, Nat.le_of_ble_eq_true rfl⟩ rfl rfl rfl rfl hl.1 (Nat.le_of_ble_eq_true rfl) dX0_take_17 ⟨Nat.le_of_ble_eq_true rfl, Nat.le_of_ble_eq_true rfl⟩) rfl [0, 1, 2, 3, 4, 5] [0, 1, 2, 3, 4, 5] (fun u10 => [xO aC 0 [.ref aL, .ref aM, .int po, .int co, .int go, .ref aWy, .int wl, .ref aTr, .ref aAk, .int gu, .int wk, .int db, .int dn, .int iv, .int qs], xAI G aWy 20 wy, xAZ G aTr 40 tr, xO aL 1 [.int pl, .ref aEx, .ref aSh, .ref aLd, .ref aTw, .ref aLe, .ref aOp, .ref aFa], xAI G aTw 40 tw, xAI G aLe 40 le]) (fun _ => rfl) rfl rfl rfl rfl (fun r11 u10 H locs hp12 hw => ?_)
    refine lv_if_eq (tgt := 32) hx hb dX0_take_20 (by decide) (fun c_14 => ?_) (fun c_14 => ?_)
    · obtain ⟨u0, hu0⟩ : ∃ z : (Nat → Int32) × (Nat → Int32) × (Int32) × (Int32) × (Int32), z = (tr, wy, wl, wk, po) := ⟨_, rfl⟩
      refine xret_v u0 hc ?_ ?_ ⟨Nat.le_of_ble_eq_true rfl, Nat.le_of_ble_eq_true rfl⟩ dX0_take_32
      · subst hu0; dsimp only; exact hw
      · subst hu0; exact Eq.symm (xb hp3 (xb hp7 (Eq.trans (if_neg c_9) (xb hp12 (if_pos c_14)))))
    · refine lv_aload_n hx hb dX0_take_23 rfl (lv_at hl 1 rfl) ?_
      refine xget (C := RX0) (T := TX0) (N := 15) hc hw inX0_take_X0 0 rfl rfl 6 (by decide) lkX0_take_f64 rfl rfl dX0_take_24 ?_
      refine lv_bipush (v := 20) hx hb dX0_take_27 (by decide) ?_
      refine lv_icmp_lt (tgt := 33) hx hb dX0_take_29 (by decide) (fun c_15 => ?_) (fun c_15 => ?_)
      · refine lv_aload_n hx hb dX0_take_33 rfl (lv_at hl 1 rfl) ?_
        refine xget (C := RX0) (T := TX0) (N := 15) hc hw inX0_take_X0 0 rfl rfl 7 (by decide) lkX0_take_f26 rfl rfl dX0_take_34 ?_
        refine lv_iload_n hx hb dX0_take_37 rfl (lv_at hl 2 rfl) ?_
        refine lv_iconst (v := 1) hx hb dX0_take_38 (by decide) ?_
        refine xzast hc hw 2 [xO aC 0 [.ref aL, .ref aM, .int po, .int co, .int go, .ref aWy, .int wl, .ref aTr, .ref aAk, .int gu, .int wk, .int db, .int dn, .int iv, .int qs], xAI G aWy 20 wy, xAZ G aTr 40 (upd tr e.toNatClampNeg 1), xO aL 1 [.int pl, .ref aEx, .ref aSh, .ref aLd, .ref aTw, .ref aLe, .ref aOp, .ref aFa], xAI G aTw 40 tw, xAI G aLe 40 le] rfl (xin (pX3_isEnd hp7 c_9)) rfl rfl dX0_take_39 (fun H locs hw => ?_)
        refine lv_aload_n hx hb dX0_take_40 rfl (lv_at hl 1 rfl) ?_
        refine xget (C := RX0) (T := TX0) (N := 15) hc hw inX0_take_X0 0 rfl rfl 7 (by decide) lkX0_take_f26 rfl rfl dX0_take_41 ?_
        refine lv_iload_n hx hb dX0_take_44 rfl (lv_at hl 0 rfl) ?_
        refine lv_iconst (v := 1) hx hb dX0_take_45 (by decide) ?_
        refine xzast hc hw 2 [xO aC 0 [.ref aL, .ref aM, .int po, .int co, .int go, .ref aWy, .int wl, .ref aTr, .ref aAk, .int gu, .int wk, .int db, .int dn, .int iv, .int qs], xAI G aWy 20 wy, xAZ G aTr 40 (upd (upd tr e.toNatClampNeg 1) r2.toNatClampNeg 1), xO aL 1 [.int pl, .ref aEx, .ref aSh, .ref aLd, .ref aTw, .ref aLe, .ref aOp, .ref aFa], xAI G aTw 40 tw, xAI G aLe 40 le] rfl (xin (pX3_isEnd hp12 c_14)) rfl rfl dX0_take_46 (fun H locs hw => ?_)
        refine lv_aload_n hx hb dX0_take_47 rfl (lv_at hl 1 rfl) ?_
        refine xget (C := RX0) (T := TX0) (N := 15) hc hw inX0_take_X0 0 rfl rfl 5 (by decide) lkX0_take_f22 rfl rfl dX0_take_48 ?_
        refine lv_aload_n hx hb dX0_take_51 rfl (lv_at hl 1 rfl) ?_
        refine xget (C := RX0) (T := TX0) (N := 15) hc hw inX0_take_X0 0 rfl rfl 6 (by decide) lkX0_take_f64 rfl rfl dX0_take_52 ?_
        refine lv_iload_n hx hb dX0_take_55 rfl (lv_at hl 2 rfl) ?_
        refine xiast hc hw 1 [xO aC 0 [.ref aL, .ref aM, .int po, .int co, .int go, .ref aWy, .int wl, .ref aTr, .ref aAk, .int gu, .int wk, .int db, .int dn, .int iv, .int qs], xAI G aWy 20 (upd wy wl.toNatClampNeg e), xAZ G aTr 40 (upd (upd tr e.toNatClampNeg 1) r2.toNatClampNeg 1), xO aL 1 [.int pl, .ref aEx, .ref aSh, .ref aLd, .ref aTw, .ref aLe, .ref aOp, .ref aFa], xAI G aTw 40 tw, xAI G aLe 40 le] rfl (xin ⟨hwl.1, (xltI _ _).mp c_15⟩) rfl dX0_take_56 (fun H locs hw => ?_)
        refine lv_aload_n hx hb dX0_take_57 rfl (lv_at hl 1 rfl) ?_
        refine lv_dup hx hb dX0_take_58 rfl ?_
        refine xget (C := RX0) (T := TX0) (N := 15) hc hw inX0_take_X0 0 rfl rfl 6 (by decide) lkX0_take_f64 rfl rfl dX0_take_59 ?_
        refine lv_iconst (v := 1) hx hb dX0_take_62 (by decide) ?_
        refine lv_iadd hx hb dX0_take_63 ?_
        refine xput (C := RX0) (T := TX0) (N := 15) (ty := .int) hc hw inX0_take_X0 tyX0 tyX0_ok nmX0 0 [xO aC 0 [.ref aL, .ref aM, .int po, .int co, .int go, .ref aWy, .int (wl + 1), .ref aTr, .ref aAk, .int gu, .int wk, .int db, .int dn, .int iv, .int qs], xAI G aWy 20 (upd wy wl.toNatClampNeg e), xAZ G aTr 40 (upd (upd tr e.toNatClampNeg 1) r2.toNatClampNeg 1), xO aL 1 [.int pl, .ref aEx, .ref aSh, .ref aLd, .ref aTw, .ref aLe, .ref aOp, .ref aFa], xAI G aTw 40 tw, xAI G aLe 40 le] rfl rfl 6 (by decide) lkX0_take_f64 rfl rfl rfl rfl (Nat.le_of_ble_eq_true rfl) rfl dX0_take_64 (fun H locs hw => ?_)
        refine lv_aload_n hx hb dX0_take_67 rfl (lv_at hl 1 rfl) ?_
        refine lv_dup hx hb dX0_take_68 rfl ?_
        refine xget (C := RX0) (T := TX0) (N := 15) hc hw inX0_take_X0 0 rfl rfl 10 (by decide) lkX0_take_f50 rfl rfl dX0_take_69 ?_
        refine lv_aload_n hx hb dX0_take_72 rfl (lv_at hl 1 rfl) ?_
        refine xget (C := RX0) (T := TX0) (N := 15) hc hw inX0_take_X0 0 rfl rfl 0 (by decide) lkX0_take_f36 rfl rfl dX0_take_73 ?_
        refine lv_iload_n hx hb dX0_take_76 rfl (lv_at hl 2 rfl) ?_
        refine xcall_i (isC := [3, 5]) hc hw (xrunV (n := 1) (As := [.int e]) (rest := [.int wk, .ref aC]) hc hw [3, 5] (metX1_milesAt l G _ aL aEx aSh aLd aTw aLe aOp aFa pl le e) gX0_take_X1_milesAt rfl (by decide +kernel) ⟨Nat.le_of_ble_eq_true rfl, Nat.le_of_ble_eq_true rfl⟩ 3 rfl rfl rfl rfl rfl rfl hl.1 (Nat.le_of_ble_eq_true rfl) dX0_take_77 ⟨Nat.le_of_ble_eq_true rfl, Nat.le_of_ble_eq_true rfl⟩) rfl [0, 1, 2, 4] [0, 1, 2, 4, 3, 5] (fun u16 => [xO aC 0 [.ref aL, .ref aM, .int po, .int co, .int go, .ref aWy, .int (wl + 1), .ref aTr, .ref aAk, .int gu, .int wk, .int db, .int dn, .int iv, .int qs], xAI G aWy 20 (upd wy wl.toNatClampNeg e), xAZ G aTr 40 (upd (upd tr e.toNatClampNeg 1) r2.toNatClampNeg 1), xO aL 1 [.int pl, .ref aEx, .ref aSh, .ref aLd, .ref aTw, .ref aLe, .ref aOp, .ref aFa], xAI G aTw 40 tw, xAI G aLe 40 le]) (fun _ => rfl) rfl rfl rfl rfl (fun r17 u16 H locs hp18 hw => ?_)
        refine lv_iadd hx hb dX0_take_80 ?_
        refine xput (C := RX0) (T := TX0) (N := 15) (ty := .int) hc hw inX0_take_X0 tyX0 tyX0_ok nmX0 0 [xO aC 0 [.ref aL, .ref aM, .int po, .int co, .int go, .ref aWy, .int (wl + 1), .ref aTr, .ref aAk, .int gu, .int (wk + r17), .int db, .int dn, .int iv, .int qs], xAI G aWy 20 (upd wy wl.toNatClampNeg e), xAZ G aTr 40 (upd (upd tr e.toNatClampNeg 1) r2.toNatClampNeg 1), xO aL 1 [.int pl, .ref aEx, .ref aSh, .ref aLd, .ref aTw, .ref aLe, .ref aOp, .ref aFa], xAI G aTw 40 tw, xAI G aLe 40 le] rfl rfl 10 (by decide) lkX0_take_f50 rfl rfl rfl rfl (Nat.le_of_ble_eq_true rfl) rfl dX0_take_81 (fun H locs hw => ?_)
        refine lv_aload_n hx hb dX0_take_84 rfl (lv_at hl 1 rfl) ?_
        refine lv_iload_n hx hb dX0_take_85 rfl (lv_at hl 0 rfl) ?_
        refine xcall_i (isC := []) hc hw (xrunSN (n := 1) (As := [.int r2]) (rest := [.ref aC]) hc hw [] (metX3_placeOfEnd l G _ r2) gX0_take_X3_placeOfEnd_n134 nkX0_134 lkX0_take_iiX3 lkX0_take_isX3_placeOfEnd rfl (by decide +kernel) ⟨Nat.le_of_ble_eq_true rfl, Nat.le_of_ble_eq_true rfl⟩ rfl rfl rfl rfl hl.1 (Nat.le_of_ble_eq_true rfl) dX0_take_86 ⟨Nat.le_of_ble_eq_true rfl, Nat.le_of_ble_eq_true rfl⟩) rfl [0, 1, 2, 3, 4, 5] [0, 1, 2, 3, 4, 5] (fun u20 => [xO aC 0 [.ref aL, .ref aM, .int po, .int co, .int go, .ref aWy, .int (wl + 1), .ref aTr, .ref aAk, .int gu, .int (wk + r17), .int db, .int dn, .int iv, .int qs], xAI G aWy 20 (upd wy wl.toNatClampNeg e), xAZ G aTr 40 (upd (upd tr e.toNatClampNeg 1) r2.toNatClampNeg 1), xO aL 1 [.int pl, .ref aEx, .ref aSh, .ref aLd, .ref aTw, .ref aLe, .ref aOp, .ref aFa], xAI G aTw 40 tw, xAI G aLe 40 le]) (fun _ => rfl) rfl rfl rfl rfl (fun r21 u20 H locs hp22 hw => ?_)
        refine xput (C := RX0) (T := TX0) (N := 15) (ty := .int) hc hw inX0_take_X0 tyX0 tyX0_ok nmX0 0 [xO aC 0 [.ref aL, .ref aM, .int r21, .int co, .int go, .ref aWy, .int (wl + 1), .ref aTr, .ref aAk, .int gu, .int (wk + r17), .int db, .int dn, .int iv, .int qs], xAI G aWy 20 (upd wy wl.toNatClampNeg e), xAZ G aTr 40 (upd (upd tr e.toNatClampNeg 1) r2.toNatClampNeg 1), xO aL 1 [.int pl, .ref aEx, .ref aSh, .ref aLd, .ref aTw, .ref aLe, .ref aOp, .ref aFa], xAI G aTw 40 tw, xAI G aLe 40 le] rfl rfl 2 (by decide) lkX0_take_f40 rfl rfl rfl rfl (Nat.le_of_ble_eq_true rfl) rfl dX0_take_89 (fun H locs hw => ?_)
        obtain ⟨u0, hu0⟩ : ∃ z : (Nat → Int32) × (Nat → Int32) × (Int32) × (Int32) × (Int32), z = (upd (upd tr e.toNatClampNeg 1) r2.toNatClampNeg 1, upd wy wl.toNatClampNeg e, wl + 1, wk + r17, r21) := ⟨_, rfl⟩
        refine xret_v u0 hc ?_ ?_ ⟨Nat.le_of_ble_eq_true rfl, Nat.le_of_ble_eq_true rfl⟩ dX0_take_92
        · subst hu0; dsimp only; exact hw
        · subst hu0; exact Eq.symm (xb hp3 (xb hp7 (Eq.trans (if_neg c_9) (xb hp12 (Eq.trans (if_neg c_14) (Eq.trans (if_pos c_15) (xb hp18 (xb hp22 rfl))))))))
      · obtain ⟨u0, hu0⟩ : ∃ z : (Nat → Int32) × (Nat → Int32) × (Int32) × (Int32) × (Int32), z = (tr, wy, wl, wk, po) := ⟨_, rfl⟩
        refine xret_v u0 hc ?_ ?_ ⟨Nat.le_of_ble_eq_true rfl, Nat.le_of_ble_eq_true rfl⟩ dX0_take_32
        · subst hu0; dsimp only; exact hw
        · subst hu0; exact Eq.symm (xb hp3 (xb hp7 (Eq.trans (if_neg c_9) (xb hp12 (Eq.trans (if_neg c_14) (if_neg c_15))))))
theorem pX0_take_wl {po : Int32} {wl : Int32} {wk : Int32} {wy : Nat → Int32} {tr : Nat → Int32} {tw : Nat → Int32} {le : Nat → Int32} {e : Int32} {u : (Nat → Int32) × (Nat → Int32) × (Int32) × (Int32) × (Int32)} (hwl : 0 ≤ wl.toInt ∧ wl.toInt ≤ 20) (h : u = FX0_take po wl wk wy tr tw le e) : 0 ≤ (u.2.2.1).toInt ∧ (u.2.2.1).toInt ≤ 20 := by
  subst h
  unfold FX0_take
  dsimp only [xbind, xbind2]
  split
  · exact hwl
  · split
    · exact hwl
    · split
      · rename_i c
        rw [xltI] at c
        have e : (20 : Int32).toInt = 20 := rfl
        show 0 ≤ (wl + 1).toInt ∧ (wl + 1).toInt ≤ 20
        rw [xinc hwl.1 (by omega)]
        omega
      · exact hwl
def FX0_doubleBack (wl : Int32) (wk : Int32) (db : Int32) (wy : Nat → Int32) (le : Nat → Int32) : (Int32) × (Int32) × (Int32) × (Int32) :=
  xbind (FX1_milesAt le (wy (wl - 1).toNatClampNeg)) (fun r2 => xbind (FX3_placeOfEnd (wy (wl - 1).toNatClampNeg)) (fun r6 => (wl - 1, wk + r2, db + r2, r6)))
set_option maxHeartbeats 40000000 in
set_option maxRecDepth 100000 in
theorem metX0_doubleBack (l : Launch) (G : xG) (sz : Nat) (aC : Nat) (aL : Nat) (aM : Nat) (aWy : Nat) (aTr : Nat) (aAk : Nat) (aEx : Nat) (aSh : Nat) (aLd : Nat) (aTw : Nat) (aLe : Nat) (aOp : Nat) (aFa : Nat) (po : Int32) (co : Int32) (go : Int32) (wl : Int32) (gu : Int32) (wk : Int32) (db : Int32) (dn : Int32) (iv : Int32) (qs : Int32) (wy : Nat → Int32) (pl : Int32) (le : Nat → Int32) (hwp : 0 < wl.toInt ∧ wl.toInt ≤ 20) : xM l yX0_doubleBack wsX0_doubleBack ⟨2, 0, 0, 41⟩ G [.ref aC] [xO aC 0 [.ref aL, .ref aM, .int po, .int co, .int go, .ref aWy, .int wl, .ref aTr, .ref aAk, .int gu, .int wk, .int db, .int dn, .int iv, .int qs], xAI G aWy 20 wy, xO aL 1 [.int pl, .ref aEx, .ref aSh, .ref aLd, .ref aTw, .ref aLe, .ref aOp, .ref aFa], xAI G aLe 40 le] sz (xQv G [xO aC 0 [.ref aL, .ref aM, .int po, .int co, .int go, .ref aWy, .int wl, .ref aTr, .ref aAk, .int gu, .int wk, .int db, .int dn, .int iv, .int qs], xAI G aWy 20 wy, xO aL 1 [.int pl, .ref aEx, .ref aSh, .ref aLd, .ref aTw, .ref aLe, .ref aOp, .ref aFa], xAI G aLe 40 le] sz (fun (u : (Int32) × (Int32) × (Int32) × (Int32)) => u = FX0_doubleBack wl wk db wy le) (fun u : (Int32) × (Int32) × (Int32) × (Int32) => [xO aC 0 [.ref aL, .ref aM, .int u.2.2.2, .int co, .int go, .ref aWy, .int u.1, .ref aTr, .ref aAk, .int gu, .int u.2.1, .int u.2.2.1, .int dn, .int iv, .int qs], xAI G aWy 20 wy, xO aL 1 [.int pl, .ref aEx, .ref aSh, .ref aLd, .ref aTw, .ref aLe, .ref aOp, .ref aFa], xAI G aLe 40 le])) := by
  refine xof (own := RX0) (cc := cX0_doubleBack) (maxL := 4) (ret := none) rfl (by decide) rfl (Nat.le_of_ble_eq_true rfl) ?_
  intro pg en s mi below meth cd hc hnm hw ls hl
  obtain ⟨hx, hb, -, hown, hts, -⟩ := id hc
  have hl : lv_has ls 4 [(0, .ref aC)] := hl
  refine lv_aload_n hx hb dX0_doubleBack_0 rfl (lv_at hl 0 rfl) ?_
  refine xget (C := RX0) (T := TX0) (N := 15) hc hw inX0_doubleBack_X0 0 rfl rfl 6 (by decide) lkX0_doubleBack_f64 rfl rfl dX0_doubleBack_1 ?_
  refine lv_iconst (v := 1) hx hb dX0_doubleBack_4 (by decide) ?_
  refine lv_isub hx hb dX0_doubleBack_5 ?_
  refine lv_istore_n (lv' := [(1, .int (wl - 1)), (0, .ref aC)]) hx hb dX0_doubleBack_6 rfl hl (by decide) rfl (fun ls hl => ?_)
  refine lv_iload_n hx hb dX0_doubleBack_7 rfl (lv_at hl 0 rfl) ?_
  refine lv_if_lt (tgt := 17) hx hb dX0_doubleBack_8 (by decide) (fun h => absurd h (xnlt (xdecr hwp).1)) (fun _ => ?_)
  refine lv_iload_n hx hb dX0_doubleBack_11 rfl (lv_at hl 0 rfl) ?_
  refine lv_bipush (v := 20) hx hb dX0_doubleBack_12 (by decide) ?_
  refine lv_icmp_lt (tgt := 18) hx hb dX0_doubleBack_14 (by decide) (fun _ => ?_) (fun h => absurd h (xylt (xdecr hwp).2))
  refine lv_aload_n hx hb dX0_doubleBack_18 rfl (lv_at hl 1 rfl) ?_
  refine lv_iload_n hx hb dX0_doubleBack_19 rfl (lv_at hl 0 rfl) ?_
  refine xput (C := RX0) (T := TX0) (N := 15) (ty := .int) hc hw inX0_doubleBack_X0 tyX0 tyX0_ok nmX0 0 [xO aC 0 [.ref aL, .ref aM, .int po, .int co, .int go, .ref aWy, .int (wl - 1), .ref aTr, .ref aAk, .int gu, .int wk, .int db, .int dn, .int iv, .int qs], xAI G aWy 20 wy, xO aL 1 [.int pl, .ref aEx, .ref aSh, .ref aLd, .ref aTw, .ref aLe, .ref aOp, .ref aFa], xAI G aLe 40 le] rfl rfl 6 (by decide) lkX0_doubleBack_f64 rfl rfl rfl rfl (Nat.le_of_ble_eq_true rfl) rfl dX0_doubleBack_20 (fun H locs hw => ?_)
  refine lv_aload_n hx hb dX0_doubleBack_23 rfl (lv_at hl 1 rfl) ?_
  refine xget (C := RX0) (T := TX0) (N := 15) hc hw inX0_doubleBack_X0 0 rfl rfl 5 (by decide) lkX0_doubleBack_f22 rfl rfl dX0_doubleBack_24 ?_
  refine lv_iload_n hx hb dX0_doubleBack_27 rfl (lv_at hl 0 rfl) ?_
  refine xiald hc hw 1 rfl (xin (xdecr hwp)) dX0_doubleBack_28 ?_
  refine lv_istore_n (lv' := [(2, .int (wy (wl - 1).toNatClampNeg)), (1, .int (wl - 1)), (0, .ref aC)]) hx hb dX0_doubleBack_29 rfl hl (by decide) rfl (fun ls hl => ?_)
  refine lv_aload_n hx hb dX0_doubleBack_30 rfl (lv_at hl 2 rfl) ?_
  refine xget (C := RX0) (T := TX0) (N := 15) hc hw inX0_doubleBack_X0 0 rfl rfl 0 (by decide) lkX0_doubleBack_f36 rfl rfl dX0_doubleBack_31 ?_
  refine lv_iload_n hx hb dX0_doubleBack_34 rfl (lv_at hl 0 rfl) ?_
  refine xcall_i (isC := [2, 3]) hc hw (xrunV (n := 1) (As := [.int (wy (wl - 1).toNatClampNeg)]) (rest := []) hc hw [2, 3] (metX1_milesAt l G _ aL aEx aSh aLd aTw aLe aOp aFa pl le (wy (wl - 1).toNatClampNeg)) gX0_doubleBack_X1_milesAt rfl (by decide +kernel) ⟨Nat.le_of_ble_eq_true rfl, Nat.le_of_ble_eq_true rfl⟩ 2 rfl rfl rfl rfl rfl rfl hl.1 (Nat.le_of_ble_eq_true rfl) dX0_doubleBack_35 ⟨Nat.le_of_ble_eq_true rfl, Nat.le_of_ble_eq_true rfl⟩) rfl [0, 1] [0, 1, 2, 3] (fun u1 => [xO aC 0 [.ref aL, .ref aM, .int po, .int co, .int go, .ref aWy, .int (wl - 1), .ref aTr, .ref aAk, .int gu, .int wk, .int db, .int dn, .int iv, .int qs], xAI G aWy 20 wy, xO aL 1 [.int pl, .ref aEx, .ref aSh, .ref aLd, .ref aTw, .ref aLe, .ref aOp, .ref aFa], xAI G aLe 40 le]) (fun _ => rfl) rfl rfl rfl rfl (fun r2 u1 H locs hp3 hw => ?_)
  refine lv_istore_n (lv' := [(3, .int r2), (2, .int (wy (wl - 1).toNatClampNeg)), (1, .int (wl - 1)), (0, .ref aC)]) hx hb dX0_doubleBack_38 rfl hl (by decide) rfl (fun ls hl => ?_)
  refine lv_aload_n hx hb dX0_doubleBack_39 rfl (lv_at hl 3 rfl) ?_
  refine lv_dup hx hb dX0_doubleBack_40 rfl ?_
  refine xget (C := RX0) (T := TX0) (N := 15) hc hw inX0_doubleBack_X0 0 rfl rfl 10 (by decide) lkX0_doubleBack_f50 rfl rfl dX0_doubleBack_41 ?_
  refine lv_iload_n hx hb dX0_doubleBack_44 rfl (lv_at hl 0 rfl) ?_
  refine lv_iadd hx hb dX0_doubleBack_45 ?_
  refine xput (C := RX0) (T := TX0) (N := 15) (ty := .int) hc hw inX0_doubleBack_X0 tyX0 tyX0_ok nmX0 0 [xO aC 0 [.ref aL, .ref aM, .int po, .int co, .int go, .ref aWy, .int (wl - 1), .ref aTr, .ref aAk, .int gu, .int (wk + r2), .int db, .int dn, .int iv, .int qs], xAI G aWy 20 wy, xO aL 1 [.int pl, .ref aEx, .ref aSh, .ref aLd, .ref aTw, .ref aLe, .ref aOp, .ref aFa], xAI G aLe 40 le] rfl rfl 10 (by decide) lkX0_doubleBack_f50 rfl rfl rfl rfl (Nat.le_of_ble_eq_true rfl) rfl dX0_doubleBack_46 (fun H locs hw => ?_)
  refine lv_aload_n hx hb dX0_doubleBack_49 rfl (lv_at hl 3 rfl) ?_
  refine lv_dup hx hb dX0_doubleBack_50 rfl ?_
  refine xget (C := RX0) (T := TX0) (N := 15) hc hw inX0_doubleBack_X0 0 rfl rfl 11 (by decide) lkX0_doubleBack_f137 rfl rfl dX0_doubleBack_51 ?_
  refine lv_iload_n hx hb dX0_doubleBack_54 rfl (lv_at hl 0 rfl) ?_
  refine lv_iadd hx hb dX0_doubleBack_55 ?_
  refine xput (C := RX0) (T := TX0) (N := 15) (ty := .int) hc hw inX0_doubleBack_X0 tyX0 tyX0_ok nmX0 0 [xO aC 0 [.ref aL, .ref aM, .int po, .int co, .int go, .ref aWy, .int (wl - 1), .ref aTr, .ref aAk, .int gu, .int (wk + r2), .int (db + r2), .int dn, .int iv, .int qs], xAI G aWy 20 wy, xO aL 1 [.int pl, .ref aEx, .ref aSh, .ref aLd, .ref aTw, .ref aLe, .ref aOp, .ref aFa], xAI G aLe 40 le] rfl rfl 11 (by decide) lkX0_doubleBack_f137 rfl rfl rfl rfl (Nat.le_of_ble_eq_true rfl) rfl dX0_doubleBack_56 (fun H locs hw => ?_)
  refine lv_aload_n hx hb dX0_doubleBack_59 rfl (lv_at hl 3 rfl) ?_
  refine lv_iload_n hx hb dX0_doubleBack_60 rfl (lv_at hl 1 rfl) ?_
  refine xcall_i (isC := []) hc hw (xrunSN (n := 1) (As := [.int (wy (wl - 1).toNatClampNeg)]) (rest := [.ref aC]) hc hw [] (metX3_placeOfEnd l G _ (wy (wl - 1).toNatClampNeg)) gX0_doubleBack_X3_placeOfEnd_n134 nkX0_134 lkX0_doubleBack_iiX3 lkX0_doubleBack_isX3_placeOfEnd rfl (by decide +kernel) ⟨Nat.le_of_ble_eq_true rfl, Nat.le_of_ble_eq_true rfl⟩ rfl rfl rfl rfl hl.1 (Nat.le_of_ble_eq_true rfl) dX0_doubleBack_61 ⟨Nat.le_of_ble_eq_true rfl, Nat.le_of_ble_eq_true rfl⟩) rfl [0, 1, 2, 3] [0, 1, 2, 3] (fun u5 => [xO aC 0 [.ref aL, .ref aM, .int po, .int co, .int go, .ref aWy, .int (wl - 1), .ref aTr, .ref aAk, .int gu, .int (wk + r2), .int (db + r2), .int dn, .int iv, .int qs], xAI G aWy 20 wy, xO aL 1 [.int pl, .ref aEx, .ref aSh, .ref aLd, .ref aTw, .ref aLe, .ref aOp, .ref aFa], xAI G aLe 40 le]) (fun _ => rfl) rfl rfl rfl rfl (fun r6 u5 H locs hp7 hw => ?_)
  refine xput (C := RX0) (T := TX0) (N := 15) (ty := .int) hc hw inX0_doubleBack_X0 tyX0 tyX0_ok nmX0 0 [xO aC 0 [.ref aL, .ref aM, .int r6, .int co, .int go, .ref aWy, .int (wl - 1), .ref aTr, .ref aAk, .int gu, .int (wk + r2), .int (db + r2), .int dn, .int iv, .int qs], xAI G aWy 20 wy, xO aL 1 [.int pl, .ref aEx, .ref aSh, .ref aLd, .ref aTw, .ref aLe, .ref aOp, .ref aFa], xAI G aLe 40 le] rfl rfl 2 (by decide) lkX0_doubleBack_f40 rfl rfl rfl rfl (Nat.le_of_ble_eq_true rfl) rfl dX0_doubleBack_64 (fun H locs hw => ?_)
  obtain ⟨u0, hu0⟩ : ∃ z : (Int32) × (Int32) × (Int32) × (Int32), z = (wl - 1, wk + r2, db + r2, r6) := ⟨_, rfl⟩
  refine xret_v u0 hc ?_ ?_ ⟨Nat.le_of_ble_eq_true rfl, Nat.le_of_ble_eq_true rfl⟩ dX0_doubleBack_67
  · subst hu0; dsimp only; exact hw
  · subst hu0; exact Eq.symm (xb hp3 (xb hp7 rfl))
theorem pX0_doubleBack_wl {wl : Int32} {wk : Int32} {db : Int32} {wy : Nat → Int32} {le : Nat → Int32} {u : (Int32) × (Int32) × (Int32) × (Int32)} (hwp : 0 < wl.toInt ∧ wl.toInt ≤ 20) (h : u = FX0_doubleBack wl wk db wy le) : 0 ≤ (u.1).toInt ∧ (u.1).toInt ≤ 20 := by
  subst h
  show 0 ≤ (wl - 1).toInt ∧ (wl - 1).toInt ≤ 20
  rw [xdecI hwp.1]
  omega
def LX0_rememberWay_a (go : Int32) (wl : Int32) (wy : Nat → Int32) : Nat → Nat → (Nat → Int32) → (Nat → Int32) → (Nat → Int32) × (Nat → Int32)
  | 0, i, mx, ms => (mx, ms)
  | n + 1, i, mx, ms =>
    if wl ≤ (nI i) then ((mx, ms)) else (xbind (FX3_placeOfEnd (wy (nI i).toNatClampNeg)) (fun r3 => xbind (FX3_exitOfEnd (wy (nI i).toNatClampNeg)) (fun r7 => xbind (FX2_confirm mx ms go r3 r7) (fun u10 => LX0_rememberWay_a go wl wy n (i + 1) u10.1 u10.2))))
set_option maxHeartbeats 40000000 in
set_option maxRecDepth 100000 in
theorem lpX0_rememberWay_a {pg : Program} {l : Launch} {en : Env} {s : State} {mi : MethodId} {args : Array Value} {below : List Frame} {meth : Method} {cd : Code} {A : Nat → Prop} {Q : State → Prop} (G : xG) (hc : xC pg s mi args meth cd cX0_rememberWay 2 RX0 wsX0_rememberWay none G A) (aC : Nat) (aL : Nat) (aM : Nat) (aWy : Nat) (aTr : Nat) (aAk : Nat) (aMx : Nat) (aMs : Nat) (po : Int32) (co : Int32) (go : Int32) (wl : Int32) (gu : Int32) (wk : Int32) (db : Int32) (dn : Int32) (iv : Int32) (qs : Int32) (wy : Nat → Int32) (hwl : 0 ≤ wl.toInt ∧ wl.toInt ≤ 20) :
    ∀ (n i : Nat) (mx : Nat → Int32) (ms : Nat → Int32), ((i : Nat) : Int) ≤ (wl : Int32).toInt → (wl : Int32).toInt < ((i + n : Nat) : Int) → ∀ (H : Heap) (locs : List Loc) (ls : Array Slot), xW G A s.heap [xO aC 0 [.ref aL, .ref aM, .int po, .int co, .int go, .ref aWy, .int wl, .ref aTr, .ref aAk, .int gu, .int wk, .int db, .int dn, .int iv, .int qs], xAI G aWy 20 wy, xO aM 2 [.ref aMx, .ref aMs], xAI G aMx 100 mx, xAI G aMs 100 ms] H locs → lv_has ls 2 [(0, .ref aC), (1, .int (nI i))] → (∀ (z : (Nat → Int32) × (Nat → Int32)), z = LX0_rememberWay_a go wl wy n i mx ms → ∀ (H1 : Heap) (locs1 : List Loc) (ls1 : Array Slot), xW G A s.heap [xO aC 0 [.ref aL, .ref aM, .int po, .int co, .int go, .ref aWy, .int wl, .ref aTr, .ref aAk, .int gu, .int wk, .int db, .int dn, .int iv, .int qs], xAI G aWy 20 wy, xO aM 2 [.ref aMx, .ref aMs], xAI G aMx 100 z.1, xAI G aMs 100 z.2] H1 locs1 → lv_has ls1 2 [(0, .ref aC)] → W pg l en ⟨3, 0, 0, 70⟩ s mi args below meth cd H1 locs1 0 0 Q (F0 mi 51 ls1 [])) → W pg l en ⟨3, 0, 0, 70⟩ s mi args below meth cd H locs 0 0 Q (F0 mi 2 ls []) := by
  obtain ⟨hx, hb, -, hown, hts, -⟩ := id hc
  intro n
  induction n with
  | zero =>
    intro i mx ms hlo hfu
    intros; exact absurd hfu (by omega)
  | succ n ih =>
    intro i mx ms hlo hfu  H locs ls hw hl K
    refine lv_iload_n hx hb dX0_rememberWay_2 rfl (lv_at hl 1 rfl) ?_
    refine lv_aload_n hx hb dX0_rememberWay_3 rfl (lv_at hl 0 rfl) ?_
    refine xget (C := RX0) (T := TX0) (N := 15) hc hw inX0_rememberWay_X0 0 rfl rfl 6 (by decide) lkX0_rememberWay_f64 rfl rfl dX0_rememberWay_4 ?_
    refine lv_icmp_ge (tgt := 51) hx hb dX0_rememberWay_7 (by decide) (fun c_1 => ?_) (fun c_1 => ?_)
    · exact K (mx, ms) (Eq.symm (if_pos c_1)) H locs ls (by first | (dsimp only; exact hw) | exact hw) (by first | exact lv_sub hl [0] rfl | (dsimp only; exact lv_sub hl [0] rfl))
    · refine lv_iload_n hx hb dX0_rememberWay_10 rfl (lv_at hl 1 rfl) ?_
      refine lv_bipush (v := 20) hx hb dX0_rememberWay_11 (by decide) ?_
      refine lv_icmp_ge (tgt := 51) hx hb dX0_rememberWay_13 (by decide) (fun h => absurd h (xnle (by have h9 := xlt2 hlo c_1; have e9 : (20 : Int32).toInt = 20 := rfl; omega))) (fun _ => ?_)
      refine lv_aload_n hx hb dX0_rememberWay_16 rfl (lv_at hl 0 rfl) ?_
      refine xget (C := RX0) (T := TX0) (N := 15) hc hw inX0_rememberWay_X0 0 rfl rfl 1 (by decide) lkX0_rememberWay_f12 rfl rfl dX0_rememberWay_17 ?_
      refine lv_aload_n hx hb dX0_rememberWay_20 rfl (lv_at hl 0 rfl) ?_
      refine xget (C := RX0) (T := TX0) (N := 15) hc hw inX0_rememberWay_X0 0 rfl rfl 4 (by decide) lkX0_rememberWay_f18 rfl rfl dX0_rememberWay_21 ?_
      refine lv_aload_n hx hb dX0_rememberWay_24 rfl (lv_at hl 0 rfl) ?_
      refine xget (C := RX0) (T := TX0) (N := 15) hc hw inX0_rememberWay_X0 0 rfl rfl 5 (by decide) lkX0_rememberWay_f22 rfl rfl dX0_rememberWay_25 ?_
      refine lv_iload_n hx hb dX0_rememberWay_28 rfl (lv_at hl 1 rfl) ?_
      refine xiald hc hw 1 rfl (xinB hlo c_1 (by omega)) dX0_rememberWay_29 ?_
      refine xcall_i (isC := []) hc hw (xrunSN (n := 1) (As := [.int (wy (nI i).toNatClampNeg)]) (rest := [.int go, .ref aM]) hc hw [] (metX3_placeOfEnd l G _ (wy (nI i).toNatClampNeg)) gX0_rememberWay_X3_placeOfEnd_n134 nkX0_134 lkX0_rememberWay_iiX3 lkX0_rememberWay_isX3_placeOfEnd rfl (by decide +kernel) ⟨Nat.le_of_ble_eq_true rfl, Nat.le_of_ble_eq_true rfl⟩ rfl rfl rfl rfl hl.1 (Nat.le_of_ble_eq_true rfl) dX0_rememberWay_30 ⟨Nat.le_of_ble_eq_true rfl, Nat.le_of_ble_eq_true rfl⟩) rfl [0, 1, 2, 3, 4] [0, 1, 2, 3, 4] (fun u2 => [xO aC 0 [.ref aL, .ref aM, .int po, .int co, .int go, .ref aWy, .int wl, .ref aTr, .ref aAk, .int gu, .int wk, .int db, .int dn, .int iv, .int qs], xAI G aWy 20 wy, xO aM 2 [.ref aMx, .ref aMs], xAI G aMx 100 mx, xAI G aMs 100 ms]) (fun _ => rfl) rfl rfl rfl rfl (fun r3 u2 H locs hp4 hw => ?_)
      refine lv_aload_n hx hb dX0_rememberWay_33 rfl (lv_at hl 0 rfl) ?_
      refine xget (C := RX0) (T := TX0) (N := 15) hc hw inX0_rememberWay_X0 0 rfl rfl 5 (by decide) lkX0_rememberWay_f22 rfl rfl dX0_rememberWay_34 ?_
      refine lv_iload_n hx hb dX0_rememberWay_37 rfl (lv_at hl 1 rfl) ?_
      refine xiald hc hw 1 rfl (xinB hlo c_1 (by omega)) dX0_rememberWay_38 ?_
      refine xcall_i (isC := []) hc hw (xrunSN (n := 1) (As := [.int (wy (nI i).toNatClampNeg)]) (rest := [.int r3, .int go, .ref aM]) hc hw [] (metX3_exitOfEnd l G _ (wy (nI i).toNatClampNeg)) gX0_rememberWay_X3_exitOfEnd_n120 nkX0_120 lkX0_rememberWay_iiX3 lkX0_rememberWay_isX3_exitOfEnd rfl (by decide +kernel) ⟨Nat.le_of_ble_eq_true rfl, Nat.le_of_ble_eq_true rfl⟩ rfl rfl rfl rfl hl.1 (Nat.le_of_ble_eq_true rfl) dX0_rememberWay_39 ⟨Nat.le_of_ble_eq_true rfl, Nat.le_of_ble_eq_true rfl⟩) rfl [0, 1, 2, 3, 4] [0, 1, 2, 3, 4] (fun u6 => [xO aC 0 [.ref aL, .ref aM, .int po, .int co, .int go, .ref aWy, .int wl, .ref aTr, .ref aAk, .int gu, .int wk, .int db, .int dn, .int iv, .int qs], xAI G aWy 20 wy, xO aM 2 [.ref aMx, .ref aMs], xAI G aMx 100 mx, xAI G aMs 100 ms]) (fun _ => rfl) rfl rfl rfl rfl (fun r7 u6 H locs hp8 hw => ?_)
      refine xcall_v (isC := [2, 3, 4]) hc hw (xrunV (n := 3) (As := [.int go, .int r3, .int r7]) (rest := []) hc hw [2, 3, 4] (metX2_confirm l G _ aM aMx aMs mx ms go r3 r7) gX0_rememberWay_X2_confirm rfl (by decide +kernel) ⟨Nat.le_of_ble_eq_true rfl, Nat.le_of_ble_eq_true rfl⟩ 2 rfl rfl rfl rfl rfl rfl hl.1 (Nat.le_of_ble_eq_true rfl) dX0_rememberWay_42 ⟨Nat.le_of_ble_eq_true rfl, Nat.le_of_ble_eq_true rfl⟩) rfl [0, 1] [0, 1, 2, 3, 4] (fun u10 => [xO aC 0 [.ref aL, .ref aM, .int po, .int co, .int go, .ref aWy, .int wl, .ref aTr, .ref aAk, .int gu, .int wk, .int db, .int dn, .int iv, .int qs], xAI G aWy 20 wy, xO aM 2 [.ref aMx, .ref aMs], xAI G aMx 100 u10.1, xAI G aMs 100 u10.2]) (fun _ => rfl) rfl rfl rfl rfl (fun u10 H locs hp12 hw => ?_)
      refine lv_iinc (v := nI (i + 1)) (lv' := [(1, .int (nI (i + 1))), (0, .ref aC)]) hx hb dX0_rememberWay_45 hl (k := 1) rfl (nI_1 _) (by decide) rfl (fun ls hl => ?_)
      refine lv_goto (tgt := 2) hx hb dX0_rememberWay_48 (by decide) ?_
      exact ih (i + 1) u10.1 u10.2 (xlt hlo c_1) (by omega) H locs ls hw (lv_sub hl [1, 0] rfl) (fun z e => K z (xtr1 (Eq.trans (if_neg c_1) (xb hp4 (xb hp8 (xb hp12 rfl)))) e))
def FX0_rememberWay (go : Int32) (wl : Int32) (wy : Nat → Int32) (mx : Nat → Int32) (ms : Nat → Int32) : (Nat → Int32) × (Nat → Int32) :=
  xbind (LX0_rememberWay_a go wl wy 21 0 mx ms) (fun z14 => (z14.1, z14.2))
set_option maxHeartbeats 40000000 in
set_option maxRecDepth 100000 in
theorem metX0_rememberWay (l : Launch) (G : xG) (sz : Nat) (aC : Nat) (aL : Nat) (aM : Nat) (aWy : Nat) (aTr : Nat) (aAk : Nat) (aMx : Nat) (aMs : Nat) (po : Int32) (co : Int32) (go : Int32) (wl : Int32) (gu : Int32) (wk : Int32) (db : Int32) (dn : Int32) (iv : Int32) (qs : Int32) (wy : Nat → Int32) (mx : Nat → Int32) (ms : Nat → Int32) (hwl : 0 ≤ wl.toInt ∧ wl.toInt ≤ 20) : xM l yX0_rememberWay wsX0_rememberWay ⟨3, 0, 0, 70⟩ G [.ref aC] [xO aC 0 [.ref aL, .ref aM, .int po, .int co, .int go, .ref aWy, .int wl, .ref aTr, .ref aAk, .int gu, .int wk, .int db, .int dn, .int iv, .int qs], xAI G aWy 20 wy, xO aM 2 [.ref aMx, .ref aMs], xAI G aMx 100 mx, xAI G aMs 100 ms] sz (xQv G [xO aC 0 [.ref aL, .ref aM, .int po, .int co, .int go, .ref aWy, .int wl, .ref aTr, .ref aAk, .int gu, .int wk, .int db, .int dn, .int iv, .int qs], xAI G aWy 20 wy, xO aM 2 [.ref aMx, .ref aMs], xAI G aMx 100 mx, xAI G aMs 100 ms] sz (fun (u : (Nat → Int32) × (Nat → Int32)) => u = FX0_rememberWay go wl wy mx ms) (fun u : (Nat → Int32) × (Nat → Int32) => [xO aC 0 [.ref aL, .ref aM, .int po, .int co, .int go, .ref aWy, .int wl, .ref aTr, .ref aAk, .int gu, .int wk, .int db, .int dn, .int iv, .int qs], xAI G aWy 20 wy, xO aM 2 [.ref aMx, .ref aMs], xAI G aMx 100 u.1, xAI G aMs 100 u.2])) := by
  refine xof (own := RX0) (cc := cX0_rememberWay) (maxL := 2) (ret := none) rfl (by decide) rfl (Nat.le_of_ble_eq_true rfl) ?_
  intro pg en s mi below meth cd hc hnm hw ls hl
  obtain ⟨hx, hb, -, hown, hts, -⟩ := id hc
  have hl : lv_has ls 2 [(0, .ref aC)] := hl
  refine lv_iconst (v := 0) hx hb dX0_rememberWay_0 (by decide) ?_
  refine lv_istore_n (lv' := [(1, .int 0), (0, .ref aC)]) hx hb dX0_rememberWay_1 rfl hl (by decide) rfl (fun ls hl => ?_)
  refine lpX0_rememberWay_a G hc aC aL aM aWy aTr aAk aMx aMs po co go wl gu wk db dn iv qs wy hwl 21 0 mx ms (hwl.1) (by have := hwl.2; omega) _ _ _ hw (lv_sub hl [1, 0] rfl) (fun z14 ek15 H locs ls hw hl => ?_)
  obtain ⟨u0, hu0⟩ : ∃ z : (Nat → Int32) × (Nat → Int32), z = (z14.1, z14.2) := ⟨_, rfl⟩
  refine xret_v u0 hc ?_ ?_ ⟨Nat.le_of_ble_eq_true rfl, Nat.le_of_ble_eq_true rfl⟩ dX0_rememberWay_51
  · subst hu0; dsimp only; exact hw
  · subst hu0; exact Eq.symm (xb ek15 rfl)
