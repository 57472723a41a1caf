theorem xnIB {B : Int32} {i n : Nat} (hlo : ((i : Nat) : Int) ≤ B.toInt) (h : ¬ B ≤ nI i) (hB : B.toInt ≤ n) : 0 ≤ (nI i).toInt ∧ (nI i).toInt < n := by
  have := xlt2 hlo h
  omega
theorem xinB {B : Int32} {i n : Nat} (hlo : ((i : Nat) : Int) ≤ B.toInt) (h : ¬ B ≤ nI i) (hB : B.toInt ≤ n) : vp_in (nI i) n := xin (xnIB hlo h hB)
theorem xofI {x : Int32} (h : 0 ≤ x.toInt) : ∃ j : Nat, j < 2 ^ 31 ∧ x = nI j ∧ x.toInt = j := by
  obtain ⟨j, h1, h2⟩ := nI_of (x := x) (by rw [xltI]; exact Int.not_lt.mpr h)
  exact ⟨j, h1, h2, by rw [h2]; exact nI_toInt h1⟩
theorem pX3_placeOfEnd {e r : Int32} (h : r = FX3_placeOfEnd e) (he : 0 ≤ e.toInt ∧ e.toInt < 40) : 0 ≤ r.toInt ∧ r.toInt < 10 := by
  obtain ⟨j, h1, h2, h3⟩ := xofI he.1
  subst h
  rw [h2]
  unfold FX3_placeOfEnd
  rw [show (4 : Int32) = nI 4 from rfl, pk_div h1 (by decide) (by decide), nI_toInt (by omega)]
  omega
theorem xq4 {q x : Int32} (hq : 0 ≤ q.toInt ∧ q.toInt < 10) (hx : 0 ≤ x.toInt ∧ x.toInt < 4) : (q * 4 + x).toInt = q.toInt * 4 + x.toInt := by
  obtain ⟨j, h1, h2, h3⟩ := xofI hq.1
  obtain ⟨k, k1, k2, k3⟩ := xofI hx.1
  rw [h2, k2, show (4 : Int32) = nI 4 from rfl, pk_mul, nI_add, nI_toInt (by omega), nI_toInt (by omega), nI_toInt (by omega)]
  omega
theorem xq4in {q x : Int32} (hq : 0 ≤ q.toInt ∧ q.toInt < 10) (hx : 0 ≤ x.toInt ∧ x.toInt < 4) : 0 ≤ (q * 4 + x).toInt ∧ (q * 4 + x).toInt < 40 := by
  rw [xq4 hq hx]; omega
def LJ7_fill_53178_a (v : Int32) : Nat → Nat → (Nat → Int32) → (Nat → Int32)
  | 0, i, f => f
  | n + 1, i, f =>
    if 10 ≤ (nI i) then (f) else (LJ7_fill_53178_a v n (i + 1) (upd f (nI i).toNatClampNeg v))
set_option maxHeartbeats 40000000 in
set_option maxRecDepth 100000 in
theorem lpJ7_fill_53178_a {pg : Program} {l : Launch} {en : Env} {s : State} {mi : MethodId} {args : Array Value} {below : List Frame} {meth : Method} {cd : Code} {A : Nat → Prop} {Q : State → Prop} (G : xG) (hc : xC pg s mi args meth cd cJ7_fill_53178 4 RJ7 wsJ7_fill_53178 none G A) (a : Nat) (v : Int32) :
    ∀ (n i : Nat) (f : Nat → Int32), ((i : Nat) : Int) ≤ (10 : Int32).toInt → (10 : Int32).toInt < ((i + n : Nat) : Int) → ∀ (H : Heap) (locs : List Loc) (ls : Array Slot), xW G A s.heap [xAI G a 10 f] H locs → lv_has ls 4 [(0, .ref a), (1, .int v), (2, .int (nI i)), (3, .int 10)] → (∀ (z : (Nat → Int32)), z = LJ7_fill_53178_a v n i f → ∀ (H1 : Heap) (locs1 : List Loc) (ls1 : Array Slot), xW G A s.heap [xAI G a 10 z] H1 locs1 → lv_has ls1 4 [(0, .ref a), (1, .int v), (3, .int 10)] → W pg l en ⟨0, 0, 0, 0⟩ s mi args below meth cd H1 locs1 0 0 Q (F0 mi 20 ls1 [])) → W pg l en ⟨0, 0, 0, 0⟩ s mi args below meth cd H locs 0 0 Q (F0 mi 5 ls []) := by
  obtain ⟨hx, hb, -, hown, hts, -⟩ := id hc
  intro n
  induction n with
  | zero =>
    intro i f hlo hfu
    intros; exact absurd hfu (by omega)
  | succ n ih =>
    intro i f hlo hfu  H locs ls hw hl K
    refine lv_iload_n hx hb dJ7_fill_53178_5 rfl (lv_at hl 2 rfl) ?_
    refine lv_iload_n hx hb dJ7_fill_53178_6 rfl (lv_at hl 3 rfl) ?_
    refine lv_icmp_ge (tgt := 20) hx hb dJ7_fill_53178_7 (by decide) (fun c_1 => ?_) (fun c_1 => ?_)
    · exact K f (Eq.symm (if_pos c_1)) H locs ls hw (lv_sub hl [0, 1, 3] rfl)
    · refine lv_aload_n hx hb dJ7_fill_53178_10 rfl (lv_at hl 0 rfl) ?_
      refine lv_iload_n hx hb dJ7_fill_53178_11 rfl (lv_at hl 2 rfl) ?_
      refine lv_iload_n hx hb dJ7_fill_53178_12 rfl (lv_at hl 1 rfl) ?_
      refine xiast hc hw 0 [xAI G a 10 (upd f (nI i).toNatClampNeg v)] rfl (xinB hlo c_1 (by decide)) rfl dJ7_fill_53178_13 (fun H locs hw => ?_)
      refine lv_iinc (v := nI (i + 1)) (lv' := [(2, .int (nI (i + 1))), (0, .ref a), (1, .int v), (3, .int 10)]) hx hb dJ7_fill_53178_14 hl (k := 2) rfl (nI_1 _) (by decide) rfl (fun ls hl => ?_)
      refine lv_goto (tgt := 5) hx hb dJ7_fill_53178_17 (by decide) ?_
      exact ih (i + 1) (upd f (nI i).toNatClampNeg v) (xlt hlo c_1) (by omega) H locs ls hw (lv_sub hl [1, 2, 0, 3] rfl) (fun z e => K z (xtr1 (if_neg c_1) e))
def FJ7_fill_53178 (f : Nat → Int32) (v : Int32) : (Nat → Int32) :=
  xbind (LJ7_fill_53178_a v 11 0 f) (fun z2 => z2)
set_option maxHeartbeats 40000000 in
set_option maxRecDepth 100000 in
theorem metJ7_fill_53178 (l : Launch) (G : xG) (sz : Nat) (a : Nat) (f : Nat → Int32) (v : Int32) : xM l yJ7_fill_53178 wsJ7_fill_53178 ⟨0, 0, 0, 0⟩ G [.ref a, .int v] [xAI G a 10 f] sz (xQv G [xAI G a 10 f] sz (fun (u : (Nat → Int32)) => u = FJ7_fill_53178 f v) (fun u : (Nat → Int32) => [xAI G a 10 u])) := by
  refine xof (own := RJ7) (cc := cJ7_fill_53178) (maxL := 4) (ret := none) rfl (by decide) rfl (Nat.le_of_ble_eq_true rfl) ?_
  intro pg en s mi below meth cd hc hnm hw ls hl
  obtain ⟨hx, hb, -, hown, hts, -⟩ := id hc
  have hl : lv_has ls 4 [(0, .ref a), (1, .int v)] := hl
  refine lv_iconst (v := 0) hx hb dJ7_fill_53178_0 (by decide) ?_
  refine lv_istore_n (lv' := [(2, .int 0), (0, .ref a), (1, .int v)]) hx hb dJ7_fill_53178_1 rfl hl (by decide) rfl (fun ls hl => ?_)
  refine lv_aload_n hx hb dJ7_fill_53178_2 rfl (lv_at hl 1 rfl) ?_
  refine xalenI hc hw 0 rfl (v := 10) rfl dJ7_fill_53178_3 ?_
  refine lv_istore_n (lv' := [(3, .int 10), (2, .int 0), (0, .ref a), (1, .int v)]) hx hb dJ7_fill_53178_4 rfl hl (by decide) rfl (fun ls hl => ?_)
  refine lpJ7_fill_53178_a G hc a v 11 0 f (by decide) (by decide) _ _ _ hw (lv_sub hl [2, 3, 1, 0] rfl) (fun z2 ek3 H locs ls hw hl => ?_)
  exact xret_v z2 hc hw (Eq.symm (xb ek3 rfl)) ⟨Nat.le_of_ble_eq_true rfl, Nat.le_of_ble_eq_true rfl⟩ dJ7_fill_53178_20
def FX1_layEnd (ld : Nat → Int32) (tw : Nat → Int32) (le : Nat → Int32) (op : Nat → Int32) (e : Int32) (t : Int32) (n : Int32) : (Nat → Int32) × (Nat → Int32) × (Nat → Int32) × (Nat → Int32) :=
  xbind (FX3_placeOfEnd t) (fun r2 => (upd ld e.toNatClampNeg r2, upd tw e.toNatClampNeg t, upd le e.toNatClampNeg n, upd op e.toNatClampNeg 1))
set_option maxHeartbeats 40000000 in
set_option maxRecDepth 100000 in
theorem metX1_layEnd (l : Launch) (G : xG) (sz : Nat) (aL : Nat) (aEx : Nat) (aSh : Nat) (aLd : Nat) (aTw : Nat) (aLe : Nat) (aOp : Nat) (aFa : Nat) (pl : Int32) (ld : Nat → Int32) (tw : Nat → Int32) (le : Nat → Int32) (op : Nat → Int32) (e : Int32) (t : Int32) (n : Int32) (he : 0 ≤ e.toInt ∧ e.toInt < 40) : xM l yX1_layEnd wsX1_layEnd ⟨1, 0, 0, 20⟩ G [.ref aL, .int e, .int t, .int n] [xO aL 1 [.int pl, .ref aEx, .ref aSh, .ref aLd, .ref aTw, .ref aLe, .ref aOp, .ref aFa], xAI G aLd 40 ld, xAI G aTw 40 tw, xAI G aLe 40 le, xAZ G aOp 40 op] sz (xQv G [xO aL 1 [.int pl, .ref aEx, .ref aSh, .ref aLd, .ref aTw, .ref aLe, .ref aOp, .ref aFa], xAI G aLd 40 ld, xAI G aTw 40 tw, xAI G aLe 40 le, xAZ G aOp 40 op] sz (fun (u : (Nat → Int32) × (Nat → Int32) × (Nat → Int32) × (Nat → Int32)) => u = FX1_layEnd ld tw le op e t n) (fun u : (Nat → Int32) × (Nat → Int32) × (Nat → Int32) × (Nat → Int32) => [xO aL 1 [.int pl, .ref aEx, .ref aSh, .ref aLd, .ref aTw, .ref aLe, .ref aOp, .ref aFa], xAI G aLd 40 u.1, xAI G aTw 40 u.2.1, xAI G aLe 40 u.2.2.1, xAZ G aOp 40 u.2.2.2])) := by
  refine xof (own := RX1) (cc := cX1_layEnd) (maxL := 4) (ret := none) rfl (by decide) rfl (Nat.le_of_ble_eq_true rfl) ?_
  intro pg en s mi below meth cd hc hnm hw ls hl
  obtain ⟨hx, hb, -, hown, hts, -⟩ := id hc
  have hl : lv_has ls 4 [(0, .ref aL), (1, .int e), (2, .int t), (3, .int n)] := hl
  refine lv_aload_n hx hb dX1_layEnd_0 rfl (lv_at hl 0 rfl) ?_
  refine xget (C := RX1) (T := TX1) (N := 8) hc hw inX1_layEnd_X1 0 rfl rfl 3 (by decide) lkX1_layEnd_f19 rfl rfl dX1_layEnd_1 ?_
  refine lv_iload_n hx hb dX1_layEnd_4 rfl (lv_at hl 1 rfl) ?_
  refine lv_iload_n hx hb dX1_layEnd_5 rfl (lv_at hl 2 rfl) ?_
  refine xcall_i (isC := []) hc hw (xrunSN (n := 1) (As := [.int t]) (rest := [.int e, .ref aLd]) hc hw [] (metX3_placeOfEnd l G _ t) gX1_layEnd_X3_placeOfEnd_n49 nkX1_49 lkX1_layEnd_iiX3 lkX1_layEnd_isX3_placeOfEnd rfl (by decide +kernel) ⟨Nat.le_of_ble_eq_true rfl, Nat.le_of_ble_eq_true rfl⟩ rfl rfl rfl rfl hl.1 (Nat.le_of_ble_eq_true rfl) dX1_layEnd_6 ⟨Nat.le_of_ble_eq_true rfl, Nat.le_of_ble_eq_true rfl⟩) rfl [0, 1, 2, 3, 4] [0, 1, 2, 3, 4] (fun u1 => [xO aL 1 [.int pl, .ref aEx, .ref aSh, .ref aLd, .ref aTw, .ref aLe, .ref aOp, .ref aFa], xAI G aLd 40 ld, xAI G aTw 40 tw, xAI G aLe 40 le, xAZ G aOp 40 op]) (fun _ => rfl) rfl rfl rfl rfl (fun r2 u1 H locs hp3 hw => ?_)
  refine xiast hc hw 1 [xO aL 1 [.int pl, .ref aEx, .ref aSh, .ref aLd, .ref aTw, .ref aLe, .ref aOp, .ref aFa], xAI G aLd 40 (upd ld e.toNatClampNeg r2), xAI G aTw 40 tw, xAI G aLe 40 le, xAZ G aOp 40 op] rfl (xin he) rfl dX1_layEnd_9 (fun H locs hw => ?_)
  refine lv_aload_n hx hb dX1_layEnd_10 rfl (lv_at hl 0 rfl) ?_
  refine xget (C := RX1) (T := TX1) (N := 8) hc hw inX1_layEnd_X1 0 rfl rfl 4 (by decide) lkX1_layEnd_f22 rfl rfl dX1_layEnd_11 ?_
  refine lv_iload_n hx hb dX1_layEnd_14 rfl (lv_at hl 1 rfl) ?_
  refine lv_iload_n hx hb dX1_layEnd_15 rfl (lv_at hl 2 rfl) ?_
  refine xiast hc hw 2 [xO aL 1 [.int pl, .ref aEx, .ref aSh, .ref aLd, .ref aTw, .ref aLe, .ref aOp, .ref aFa], xAI G aLd 40 (upd ld e.toNatClampNeg r2), xAI G aTw 40 (upd tw e.toNatClampNeg t), xAI G aLe 40 le, xAZ G aOp 40 op] rfl (xin he) rfl dX1_layEnd_16 (fun H locs hw => ?_)
  refine lv_aload_n hx hb dX1_layEnd_17 rfl (lv_at hl 0 rfl) ?_
  refine xget (C := RX1) (T := TX1) (N := 8) hc hw inX1_layEnd_X1 0 rfl rfl 5 (by decide) lkX1_layEnd_f25 rfl rfl dX1_layEnd_18 ?_
  refine lv_iload_n hx hb dX1_layEnd_21 rfl (lv_at hl 1 rfl) ?_
  refine lv_iload_n hx hb dX1_layEnd_22 rfl (lv_at hl 3 rfl) ?_
  refine xiast hc hw 3 [xO aL 1 [.int pl, .ref aEx, .ref aSh, .ref aLd, .ref aTw, .ref aLe, .ref aOp, .ref aFa], xAI G aLd 40 (upd ld e.toNatClampNeg r2), xAI G aTw 40 (upd tw e.toNatClampNeg t), xAI G aLe 40 (upd le e.toNatClampNeg n), xAZ G aOp 40 op] rfl (xin he) rfl dX1_layEnd_23 (fun H locs hw => ?_)
  refine lv_aload_n hx hb dX1_layEnd_24 rfl (lv_at hl 0 rfl) ?_
  refine xget (C := RX1) (T := TX1) (N := 8) hc hw inX1_layEnd_X1 0 rfl rfl 6 (by decide) lkX1_layEnd_f28 rfl rfl dX1_layEnd_25 ?_
  refine lv_iload_n hx hb dX1_layEnd_28 rfl (lv_at hl 1 rfl) ?_
  refine lv_iconst (v := 1) hx hb dX1_layEnd_29 (by decide) ?_
  refine xzast hc hw 4 [xO aL 1 [.int pl, .ref aEx, .ref aSh, .ref aLd, .ref aTw, .ref aLe, .ref aOp, .ref aFa], xAI G aLd 40 (upd ld e.toNatClampNeg r2), xAI G aTw 40 (upd tw e.toNatClampNeg t), xAI G aLe 40 (upd le e.toNatClampNeg n), xAZ G aOp 40 (upd op e.toNatClampNeg 1)] rfl (xin he) rfl rfl dX1_layEnd_30 (fun H locs hw => ?_)
  obtain ⟨u0, hu0⟩ : ∃ z : (Nat → Int32) × (Nat → Int32) × (Nat → Int32) × (Nat → Int32), z = (upd ld e.toNatClampNeg r2, upd tw e.toNatClampNeg t, upd le e.toNatClampNeg n, upd op e.toNatClampNeg 1) := ⟨_, rfl⟩
  refine xret_v u0 hc ?_ ?_ ⟨Nat.le_of_ble_eq_true rfl, Nat.le_of_ble_eq_true rfl⟩ dX1_layEnd_31
  · subst hu0; dsimp only; exact hw
  · subst hu0; exact Eq.symm (xb hp3 rfl)
theorem pX1_twinOf {tw : Nat → Int32} {e t r : Int32} (htw : ∀ k, k < 40 → 0 ≤ (tw k).toInt ∧ (tw k).toInt < 40) (ht : t = FX1_twinOf tw e) (h : r = FX3_isEnd e) (c : ¬ r = 0) : 0 ≤ t.toInt ∧ t.toInt < 40 := by
  subst ht
  subst h
  unfold FX1_twinOf
  dsimp only [xbind]
  rw [if_neg c]
  exact htw _ (xcl (pX3_isEnd rfl c))
theorem pX3_isEnd1 {e r : Int32} (h : r = FX3_isEnd e) (he : 0 ≤ e.toInt ∧ e.toInt < 40) : ¬ r = 0 := fun c => pX3_isEnd0 h c he
def FX1_turnEnd (tw : Nat → Int32) (op : Nat → Int32) (e : Int32) : Int32 × (Nat → Int32) :=
  xbind (FX1_twinOf tw e) (fun r2 => xbind (FX3_isEnd e) (fun r6 => if r6 = 0 then ((0, op)) else (xbind (FX3_isEnd r2) (fun r11 => if (op e.toNatClampNeg) = 0 then ((1, upd (upd op e.toNatClampNeg 1) r2.toNatClampNeg 1)) else ((0, upd (upd op e.toNatClampNeg 0) r2.toNatClampNeg 0))))))
set_option maxHeartbeats 40000000 in
set_option maxRecDepth 100000 in
theorem metX1_turnEnd (l : Launch) (G : xG) (sz : Nat) (aL : Nat) (aEx : Nat) (aSh : Nat) (aLd : Nat) (aTw : Nat) (aLe : Nat) (aOp : Nat) (aFa : Nat) (pl : Int32) (tw : Nat → Int32) (op : Nat → Int32) (e : Int32) (htw : ∀ k, k < 40 → 0 ≤ (tw k).toInt ∧ (tw k).toInt < 40) : xM l yX1_turnEnd wsX1_turnEnd ⟨2, 0, 0, 41⟩ G [.ref aL, .int e] [xO aL 1 [.int pl, .ref aEx, .ref aSh, .ref aLd, .ref aTw, .ref aLe, .ref aOp, .ref aFa], xAI G aTw 40 tw, xAZ G aOp 40 op] sz (xQi G [xO aL 1 [.int pl, .ref aEx, .ref aSh, .ref aLd, .ref aTw, .ref aLe, .ref aOp, .ref aFa], xAI G aTw 40 tw, xAZ G aOp 40 op] sz (fun (r : Int32) (u : (Nat → Int32)) => r = (FX1_turnEnd tw op e).1 ∧ u = (FX1_turnEnd tw op e).2) (fun u : (Nat → Int32) => [xO aL 1 [.int pl, .ref aEx, .ref aSh, .ref aLd, .ref aTw, .ref aLe, .ref aOp, .ref aFa], xAI G aTw 40 tw, xAZ G aOp 40 u])) := by
  refine xof (own := RX1) (cc := cX1_turnEnd) (maxL := 4) (ret := (some .boolean)) rfl (by decide) rfl (Nat.le_of_ble_eq_true rfl) ?_
  intro pg en s mi below meth cd hc hnm hw ls hl
  obtain ⟨hx, hb, -, hown, hts, -⟩ := id hc
  have hl : lv_has ls 4 [(0, .ref aL), (1, .int e)] := hl
  refine lv_aload_n hx hb dX1_turnEnd_0 rfl (lv_at hl 0 rfl) ?_
  refine lv_iload_n hx hb dX1_turnEnd_1 rfl (lv_at hl 1 rfl) ?_
  refine xcall_i (isC := [0, 1]) hc hw (xrunV (n := 1) (As := [.int e]) (rest := []) hc hw [0, 1] (metX1_twinOf l G _ aL aEx aSh aLd aTw aLe aOp aFa pl tw e) gX1_turnEnd_X1_twinOf rfl (by decide +kernel) ⟨Nat.le_of_ble_eq_true rfl, Nat.le_of_ble_eq_true rfl⟩ 0 rfl rfl rfl rfl rfl rfl hl.1 (Nat.le_of_ble_eq_true rfl) dX1_turnEnd_2 ⟨Nat.le_of_ble_eq_true rfl, Nat.le_of_ble_eq_true rfl⟩) rfl [2] [1, 2, 0] (fun u1 => [xO aL 1 [.int pl, .ref aEx, .ref aSh, .ref aLd, .ref aTw, .ref aLe, .ref aOp, .ref aFa], xAI G aTw 40 tw, xAZ G aOp 40 op]) (fun _ => rfl) rfl rfl rfl rfl (fun r2 u1 H locs hp3 hw => ?_)
  refine lv_istore_n (lv' := [(2, .int r2), (0, .ref aL), (1, .int e)]) hx hb dX1_turnEnd_5 rfl hl (by decide) rfl (fun ls hl => ?_)
  refine lv_iload_n hx hb dX1_turnEnd_6 rfl (lv_at hl 2 rfl) ?_
  refine xcall_i (isC := []) hc hw (xrunSN (n := 1) (As := [.int e]) (rest := []) hc hw [] (metX3_isEnd l G _ e) gX1_turnEnd_X3_isEnd_n56 nkX1_56 lkX1_turnEnd_iiX3 lkX1_turnEnd_isX3_isEnd rfl (by decide +kernel) ⟨Nat.le_of_ble_eq_true rfl, Nat.le_of_ble_eq_true rfl⟩ rfl rfl rfl rfl hl.1 (Nat.le_of_ble_eq_true rfl) dX1_turnEnd_7 ⟨Nat.le_of_ble_eq_true rfl, Nat.le_of_ble_eq_true rfl⟩) rfl [0, 1, 2] [0, 1, 2] (fun u5 => [xO aL 1 [.int pl, .ref aEx, .ref aSh, .ref aLd, .ref aTw, .ref aLe, .ref aOp, .ref aFa], xAI G aTw 40 tw, xAZ G aOp 40 op]) (fun _ => rfl) rfl rfl rfl rfl (fun r6 u5 H locs hp7 hw => ?_)
  refine lv_if_eq (tgt := 20) hx hb dX1_turnEnd_10 (by decide) (fun c_9 => ?_) (fun c_9 => ?_)
  · refine lv_iconst (v := 0) hx hb dX1_turnEnd_20 (by decide) ?_
    exact xret_z op hc hw rfl (xe2 (xb hp3 (xb hp7 (if_pos c_9)))) ⟨Nat.le_of_ble_eq_true rfl, Nat.le_of_ble_eq_true rfl⟩ dX1_turnEnd_21
  · refine lv_iload_n hx hb dX1_turnEnd_13 rfl (lv_at hl 0 rfl) ?_
    refine xcall_i (isC := []) hc hw (xrunSN (n := 1) (As := [.int r2]) (rest := []) hc hw [] (metX3_isEnd l G _ r2) gX1_turnEnd_X3_isEnd_n56 nkX1_56 lkX1_turnEnd_iiX3 lkX1_turnEnd_isX3_isEnd rfl (by decide +kernel) ⟨Nat.le_of_ble_eq_true rfl, Nat.le_of_ble_eq_true rfl⟩ rfl rfl rfl rfl hl.1 (Nat.le_of_ble_eq_true rfl) dX1_turnEnd_14 ⟨Nat.le_of_ble_eq_true rfl, Nat.le_of_ble_eq_true rfl⟩) rfl [0, 1, 2] [0, 1, 2] (fun u10 => [xO aL 1 [.int pl, .ref aEx, .ref aSh, .ref aLd, .ref aTw, .ref aLe, .ref aOp, .ref aFa], xAI G aTw 40 tw, xAZ G aOp 40 op]) (fun _ => rfl) rfl rfl rfl rfl (fun r11 u10 H locs hp12 hw => ?_)
    refine lv_if_ne (tgt := 22) hx hb dX1_turnEnd_17 (by decide) (fun _ => ?_) (fun h => absurd h (pX3_isEnd1 hp12 (pX1_twinOf htw hp3 hp7 c_9)))
    refine lv_aload_n hx hb dX1_turnEnd_22 rfl (lv_at hl 1 rfl) ?_
    refine xget (C := RX1) (T := TX1) (N := 8) hc hw inX1_turnEnd_X1 0 rfl rfl 6 (by decide) lkX1_turnEnd_f28 rfl rfl dX1_turnEnd_23 ?_
    refine lv_iload_n hx hb dX1_turnEnd_26 rfl (lv_at hl 2 rfl) ?_
    refine xzald hc hw 2 rfl (xin (pX3_isEnd hp7 c_9)) dX1_turnEnd_27 ?_
    refine lv_if_ne (tgt := 35) hx hb dX1_turnEnd_28 (by decide) (fun c_14 => ?_) (fun c_14 => ?_)
    · refine lv_iconst (v := 0) hx hb dX1_turnEnd_35 (by decide) ?_
      refine lv_istore_n (lv' := [(3, .int 0), (2, .int r2), (0, .ref aL), (1, .int e)]) hx hb dX1_turnEnd_36 rfl hl (by decide) rfl (fun ls hl => ?_)
      refine lv_aload_n hx hb dX1_turnEnd_37 rfl (lv_at hl 2 rfl) ?_
      refine xget (C := RX1) (T := TX1) (N := 8) hc hw inX1_turnEnd_X1 0 rfl rfl 6 (by decide) lkX1_turnEnd_f28 rfl rfl dX1_turnEnd_38 ?_
      refine lv_iload_n hx hb dX1_turnEnd_41 rfl (lv_at hl 3 rfl) ?_
      refine lv_iload_n hx hb dX1_turnEnd_42 rfl (lv_at hl 0 rfl) ?_
      refine xzast hc hw 2 [xO aL 1 [.int pl, .ref aEx, .ref aSh, .ref aLd, .ref aTw, .ref aLe, .ref aOp, .ref aFa], xAI G aTw 40 tw, xAZ G aOp 40 (upd op e.toNatClampNeg 0)] rfl (xin (pX3_isEnd hp7 c_9)) rfl rfl dX1_turnEnd_43 (fun H locs hw => ?_)
      refine lv_aload_n hx hb dX1_turnEnd_44 rfl (lv_at hl 2 rfl) ?_
      refine xget (C := RX1) (T := TX1) (N := 8) hc hw inX1_turnEnd_X1 0 rfl rfl 6 (by decide) lkX1_turnEnd_f28 rfl rfl dX1_turnEnd_45 ?_
      refine lv_iload_n hx hb dX1_turnEnd_48 rfl (lv_at hl 1 rfl) ?_
      refine lv_iload_n hx hb dX1_turnEnd_49 rfl (lv_at hl 0 rfl) ?_
      refine xzast hc hw 2 [xO aL 1 [.int pl, .ref aEx, .ref aSh, .ref aLd, .ref aTw, .ref aLe, .ref aOp, .ref aFa], xAI G aTw 40 tw, xAZ G aOp 40 (upd (upd op e.toNatClampNeg 0) r2.toNatClampNeg 0)] rfl (xin (pX1_twinOf htw hp3 hp7 c_9)) rfl rfl dX1_turnEnd_50 (fun H locs hw => ?_)
      refine lv_iload_n hx hb dX1_turnEnd_51 rfl (lv_at hl 0 rfl) ?_
      exact xret_z (upd (upd op e.toNatClampNeg 0) r2.toNatClampNeg 0) hc hw rfl (xe2 (xb hp3 (xb hp7 (Eq.trans (if_neg c_9) (xb hp12 (if_neg c_14)))))) ⟨Nat.le_of_ble_eq_true rfl, Nat.le_of_ble_eq_true rfl⟩ dX1_turnEnd_52
    · refine lv_iconst (v := 1) hx hb dX1_turnEnd_31 (by decide) ?_
      refine lv_goto (tgt := 36) hx hb dX1_turnEnd_32 (by decide) ?_
      refine lv_istore_n (lv' := [(3, .int 1), (2, .int r2), (0, .ref aL), (1, .int e)]) hx hb dX1_turnEnd_36 rfl hl (by decide) rfl (fun ls hl => ?_)
      refine lv_aload_n hx hb dX1_turnEnd_37 rfl (lv_at hl 2 rfl) ?_
      refine xget (C := RX1) (T := TX1) (N := 8) hc hw inX1_turnEnd_X1 0 rfl rfl 6 (by decide) lkX1_turnEnd_f28 rfl rfl dX1_turnEnd_38 ?_
      refine lv_iload_n hx hb dX1_turnEnd_41 rfl (lv_at hl 3 rfl) ?_
      refine lv_iload_n hx hb dX1_turnEnd_42 rfl (lv_at hl 0 rfl) ?_
      refine xzast hc hw 2 [xO aL 1 [.int pl, .ref aEx, .ref aSh, .ref aLd, .ref aTw, .ref aLe, .ref aOp, .ref aFa], xAI G aTw 40 tw, xAZ G aOp 40 (upd op e.toNatClampNeg 1)] rfl (xin (pX3_isEnd hp7 c_9)) rfl rfl dX1_turnEnd_43 (fun H locs hw => ?_)
      refine lv_aload_n hx hb dX1_turnEnd_44 rfl (lv_at hl 2 rfl) ?_
      refine xget (C := RX1) (T := TX1) (N := 8) hc hw inX1_turnEnd_X1 0 rfl rfl 6 (by decide) lkX1_turnEnd_f28 rfl rfl dX1_turnEnd_45 ?_
      refine lv_iload_n hx hb dX1_turnEnd_48 rfl (lv_at hl 1 rfl) ?_
      refine lv_iload_n hx hb dX1_turnEnd_49 rfl (lv_at hl 0 rfl) ?_
      refine xzast hc hw 2 [xO aL 1 [.int pl, .ref aEx, .ref aSh, .ref aLd, .ref aTw, .ref aLe, .ref aOp, .ref aFa], xAI G aTw 40 tw, xAZ G aOp 40 (upd (upd op e.toNatClampNeg 1) r2.toNatClampNeg 1)] rfl (xin (pX1_twinOf htw hp3 hp7 c_9)) rfl rfl dX1_turnEnd_50 (fun H locs hw => ?_)
      refine lv_iload_n hx hb dX1_turnEnd_51 rfl (lv_at hl 0 rfl) ?_
      exact xret_z (upd (upd op e.toNatClampNeg 1) r2.toNatClampNeg 1) hc hw rfl (xe2 (xb hp3 (xb hp7 (Eq.trans (if_neg c_9) (xb hp12 (if_pos c_14)))))) ⟨Nat.le_of_ble_eq_true rfl, Nat.le_of_ble_eq_true rfl⟩ dX1_turnEnd_52
theorem FX1_turnEnd_eq {tw : Nat → Int32} {op : Nat → Int32} {e : Int32} : FX1_turnEnd tw op e = (if FX3_isEnd e = 0 then (0, op) else if op e.toNatClampNeg = 0 then (1, upd (upd op e.toNatClampNeg 1) (tw e.toNatClampNeg).toNatClampNeg 1) else (0, upd (upd op e.toNatClampNeg 0) (tw e.toNatClampNeg).toNatClampNeg 0)) := by
  unfold FX1_turnEnd FX1_twinOf
  dsimp only [xbind]
  by_cases c : FX3_isEnd e = 0
  · simp only [if_pos c]
  · simp only [if_neg c]
def FX1_join (pl : Int32) (ex : Nat → Int32) (ld : Nat → Int32) (tw : Nat → Int32) (le : Nat → Int32) (op : Nat → Int32) (a : Int32) (b : Int32) (n : Int32) : Int32 × (Nat → Int32) × (Nat → Int32) × (Nat → Int32) × (Nat → Int32) × (Nat → Int32) :=
  xbind (FX1_hasRoom pl ex a) (fun r2 => xbind (FX1_hasRoom pl ex b) (fun r6 => xbind (FX1_layEnd ld tw le op ((a * 4) + (ex a.toNatClampNeg)) ((b * 4) + (ex b.toNatClampNeg)) n) (fun u9 => xbind (FX1_layEnd u9.1 u9.2.1 u9.2.2.1 u9.2.2.2 ((b * 4) + (ex b.toNatClampNeg)) ((a * 4) + (ex a.toNatClampNeg)) n) (fun u13 => (ex a.toNatClampNeg, upd (upd ex a.toNatClampNeg ((ex a.toNatClampNeg) + 1)) b.toNatClampNeg (((upd ex a.toNatClampNeg ((ex a.toNatClampNeg) + 1)) b.toNatClampNeg) + 1), u13.1, u13.2.1, u13.2.2.1, u13.2.2.2)))))
set_option maxHeartbeats 40000000 in
set_option maxRecDepth 100000 in
theorem metX1_join (l : Launch) (G : xG) (sz : Nat) (aL : Nat) (aEx : Nat) (aSh : Nat) (aLd : Nat) (aTw : Nat) (aLe : Nat) (aOp : Nat) (aFa : Nat) (pl : Int32) (ex : Nat → Int32) (ld : Nat → Int32) (tw : Nat → Int32) (le : Nat → Int32) (op : Nat → Int32) (a : Int32) (b : Int32) (n : Int32) (hpl : 0 ≤ pl.toInt ∧ pl.toInt ≤ 10) (ha : 0 ≤ a.toInt ∧ a.toInt < 10) (hbb : 0 ≤ b.toInt ∧ b.toInt < 10) (hh1 : 0 ≤ (a * 4 + ex a.toNatClampNeg).toInt ∧ (a * 4 + ex a.toNatClampNeg).toInt < 40) (hh2 : 0 ≤ (b * 4 + ex b.toNatClampNeg).toInt ∧ (b * 4 + ex b.toNatClampNeg).toInt < 40) (hra : ¬ FX1_hasRoom pl ex a = 0) (hrb : ¬ FX1_hasRoom pl ex b = 0) : xM l yX1_join wsX1_join ⟨2, 0, 0, 43⟩ G [.ref aL, .int a, .int b, .int n] [xO aL 1 [.int pl, .ref aEx, .ref aSh, .ref aLd, .ref aTw, .ref aLe, .ref aOp, .ref aFa], xAI G aEx 10 ex, xAI G aLd 40 ld, xAI G aTw 40 tw, xAI G aLe 40 le, xAZ G aOp 40 op] sz (xQi G [xO aL 1 [.int pl, .ref aEx, .ref aSh, .ref aLd, .ref aTw, .ref aLe, .ref aOp, .ref aFa], xAI G aEx 10 ex, xAI G aLd 40 ld, xAI G aTw 40 tw, xAI G aLe 40 le, xAZ G aOp 40 op] sz (fun (r : Int32) (u : (Nat → Int32) × (Nat → Int32) × (Nat → Int32) × (Nat → Int32) × (Nat → Int32)) => r = (FX1_join pl ex ld tw le op a b n).1 ∧ u = (FX1_join pl ex ld tw le op a b n).2) (fun u : (Nat → Int32) × (Nat → Int32) × (Nat → Int32) × (Nat → Int32) × (Nat → Int32) => [xO aL 1 [.int pl, .ref aEx, .ref aSh, .ref aLd, .ref aTw, .ref aLe, .ref aOp, .ref aFa], xAI G aEx 10 u.1, xAI G aLd 40 u.2.1, xAI G aTw 40 u.2.2.1, xAI G aLe 40 u.2.2.2.1, xAZ G aOp 40 u.2.2.2.2])) := by
  refine xof (own := RX1) (cc := cX1_join) (maxL := 7) (ret := (some .int)) rfl (by decide) rfl (Nat.le_of_ble_eq_true rfl) ?_
  intro pg en s mi below meth cd hc hnm hw ls hl
  obtain ⟨hx, hb, -, hown, hts, -⟩ := id hc
  have hl : lv_has ls 7 [(0, .ref aL), (1, .int a), (2, .int b), (3, .int n)] := hl
  refine lv_aload_n hx hb dX1_join_0 rfl (lv_at hl 0 rfl) ?_
  refine lv_iload_n hx hb dX1_join_1 rfl (lv_at hl 1 rfl) ?_
  refine xcall_i (isC := [0, 1]) hc hw (xrunV (n := 1) (As := [.int a]) (rest := []) hc hw [0, 1] (metX1_hasRoom l G _ aL aEx aSh aLd aTw aLe aOp aFa pl ex a hpl) gX1_join_X1_hasRoom rfl (by decide +kernel) ⟨Nat.le_of_ble_eq_true rfl, Nat.le_of_ble_eq_true rfl⟩ 0 rfl rfl rfl rfl rfl rfl hl.1 (Nat.le_of_ble_eq_true rfl) dX1_join_2 ⟨Nat.le_of_ble_eq_true rfl, Nat.le_of_ble_eq_true rfl⟩) rfl [2, 3, 4, 5] [4, 5, 0, 1, 2, 3] (fun u1 => [xO aL 1 [.int pl, .ref aEx, .ref aSh, .ref aLd, .ref aTw, .ref aLe, .ref aOp, .ref aFa], xAI G aEx 10 ex, xAI G aLd 40 ld, xAI G aTw 40 tw, xAI G aLe 40 le, xAZ G aOp 40 op]) (fun _ => rfl) rfl rfl rfl rfl (fun r2 u1 H locs hp3 hw => ?_)
  refine lv_if_eq (tgt := 16) hx hb dX1_join_5 (by decide) (fun h => absurd h ((by rw [hp3]; exact hra))) (fun _ => ?_)
  refine lv_aload_n hx hb dX1_join_8 rfl (lv_at hl 0 rfl) ?_
  refine lv_iload_n hx hb dX1_join_9 rfl (lv_at hl 2 rfl) ?_
  refine xcall_i (isC := [0, 1]) hc hw (xrunV (n := 1) (As := [.int b]) (rest := []) hc hw [0, 1] (metX1_hasRoom l G _ aL aEx aSh aLd aTw aLe aOp aFa pl ex b hpl) gX1_join_X1_hasRoom rfl (by decide +kernel) ⟨Nat.le_of_ble_eq_true rfl, Nat.le_of_ble_eq_true rfl⟩ 0 rfl rfl rfl rfl rfl rfl hl.1 (Nat.le_of_ble_eq_true rfl) dX1_join_10 ⟨Nat.le_of_ble_eq_true rfl, Nat.le_of_ble_eq_true rfl⟩) rfl [2, 3, 4, 5] [4, 5, 0, 1, 2, 3] (fun u5 => [xO aL 1 [.int pl, .ref aEx, .ref aSh, .ref aLd, .ref aTw, .ref aLe, .ref aOp, .ref aFa], xAI G aEx 10 ex, xAI G aLd 40 ld, xAI G aTw 40 tw, xAI G aLe 40 le, xAZ G aOp 40 op]) (fun _ => rfl) rfl rfl rfl rfl (fun r6 u5 H locs hp7 hw => ?_)
  refine lv_if_ne (tgt := 18) hx hb dX1_join_13 (by decide) (fun _ => ?_) (fun h => absurd h ((by rw [hp7]; exact hrb)))
  refine lv_aload_n hx hb dX1_join_18 rfl (lv_at hl 0 rfl) ?_
  refine xget (C := RX1) (T := TX1) (N := 8) hc hw inX1_join_X1 0 rfl rfl 1 (by decide) lkX1_join_f9 rfl rfl dX1_join_19 ?_
  refine lv_iload_n hx hb dX1_join_22 rfl (lv_at hl 1 rfl) ?_
  refine xiald hc hw 1 rfl (xin ha) dX1_join_23 ?_
  refine lv_istore (lv' := [(4, .int (ex a.toNatClampNeg)), (0, .ref aL), (1, .int a), (2, .int b), (3, .int n)]) hx hb dX1_join_24 hl (by decide) rfl (fun ls hl => ?_)
  refine lv_iload_n hx hb dX1_join_26 rfl (lv_at hl 2 rfl) ?_
  refine lv_iconst (v := 4) hx hb dX1_join_27 (by decide) ?_
  refine lv_imul hx hb dX1_join_28 ?_
  refine lv_iload hx hb dX1_join_29 (lv_at hl 0 rfl) ?_
  refine lv_iadd hx hb dX1_join_31 ?_
  refine lv_istore (lv' := [(5, .int ((a * 4) + (ex a.toNatClampNeg))), (4, .int (ex a.toNatClampNeg)), (0, .ref aL), (1, .int a), (2, .int b), (3, .int n)]) hx hb dX1_join_32 hl (by decide) rfl (fun ls hl => ?_)
  refine lv_iload_n hx hb dX1_join_34 rfl (lv_at hl 4 rfl) ?_
  refine lv_iconst (v := 4) hx hb dX1_join_35 (by decide) ?_
  refine lv_imul hx hb dX1_join_36 ?_
  refine lv_aload_n hx hb dX1_join_37 rfl (lv_at hl 2 rfl) ?_
  refine xget (C := RX1) (T := TX1) (N := 8) hc hw inX1_join_X1 0 rfl rfl 1 (by decide) lkX1_join_f9 rfl rfl dX1_join_38 ?_
  refine lv_iload_n hx hb dX1_join_41 rfl (lv_at hl 4 rfl) ?_
  refine xiald hc hw 1 rfl (xin hbb) dX1_join_42 ?_
  refine lv_iadd hx hb dX1_join_43 ?_
  refine lv_istore (lv' := [(6, .int ((b * 4) + (ex b.toNatClampNeg))), (5, .int ((a * 4) + (ex a.toNatClampNeg))), (4, .int (ex a.toNatClampNeg)), (0, .ref aL), (1, .int a), (2, .int b), (3, .int n)]) hx hb dX1_join_44 hl (by decide) rfl (fun ls hl => ?_)
  refine lv_aload_n hx hb dX1_join_46 rfl (lv_at hl 3 rfl) ?_
  refine xget (C := RX1) (T := TX1) (N := 8) hc hw inX1_join_X1 0 rfl rfl 1 (by decide) lkX1_join_f9 rfl rfl dX1_join_47 ?_
  refine lv_iload_n hx hb dX1_join_50 rfl (lv_at hl 4 rfl) ?_
  refine lv_dup2_11 hx hb dX1_join_51 rfl rfl ?_
  refine xiald hc hw 1 rfl (xin ha) dX1_join_52 ?_
  refine lv_iconst (v := 1) hx hb dX1_join_53 (by decide) ?_
  refine lv_iadd hx hb dX1_join_54 ?_
  refine xiast hc hw 1 [xO aL 1 [.int pl, .ref aEx, .ref aSh, .ref aLd, .ref aTw, .ref aLe, .ref aOp, .ref aFa], xAI G aEx 10 (upd ex a.toNatClampNeg ((ex a.toNatClampNeg) + 1)), xAI G aLd 40 ld, xAI G aTw 40 tw, xAI G aLe 40 le, xAZ G aOp 40 op] rfl (xin ha) rfl dX1_join_55 (fun H locs hw => ?_)
  refine lv_aload_n hx hb dX1_join_56 rfl (lv_at hl 3 rfl) ?_
  refine xget (C := RX1) (T := TX1) (N := 8) hc hw inX1_join_X1 0 rfl rfl 1 (by decide) lkX1_join_f9 rfl rfl dX1_join_57 ?_
  refine lv_iload_n hx hb dX1_join_60 rfl (lv_at hl 5 rfl) ?_
  refine lv_dup2_11 hx hb dX1_join_61 rfl rfl ?_
  refine xiald hc hw 1 rfl (xin hbb) dX1_join_62 ?_
  refine lv_iconst (v := 1) hx hb dX1_join_63 (by decide) ?_
  refine lv_iadd hx hb dX1_join_64 ?_
  refine xiast hc hw 1 [xO aL 1 [.int pl, .ref aEx, .ref aSh, .ref aLd, .ref aTw, .ref aLe, .ref aOp, .ref aFa], xAI G aEx 10 (upd (upd ex a.toNatClampNeg ((ex a.toNatClampNeg) + 1)) b.toNatClampNeg (((upd ex a.toNatClampNeg ((ex a.toNatClampNeg) + 1)) b.toNatClampNeg) + 1)), xAI G aLd 40 ld, xAI G aTw 40 tw, xAI G aLe 40 le, xAZ G aOp 40 op] rfl (xin hbb) rfl dX1_join_65 (fun H locs hw => ?_)
  refine lv_aload_n hx hb dX1_join_66 rfl (lv_at hl 3 rfl) ?_
  refine lv_iload hx hb dX1_join_67 (lv_at hl 1 rfl) ?_
  refine lv_iload hx hb dX1_join_69 (lv_at hl 0 rfl) ?_
  refine lv_iload_n hx hb dX1_join_71 rfl (lv_at hl 6 rfl) ?_
  refine xcall_v (isC := [0, 2, 3, 4, 5]) hc hw (xrunV (n := 3) (As := [.int ((a * 4) + (ex a.toNatClampNeg)), .int ((b * 4) + (ex b.toNatClampNeg)), .int n]) (rest := []) hc hw [0, 2, 3, 4, 5] (metX1_layEnd l G _ aL aEx aSh aLd aTw aLe aOp aFa pl ld tw le op ((a * 4) + (ex a.toNatClampNeg)) ((b * 4) + (ex b.toNatClampNeg)) n hh1) gX1_join_X1_layEnd rfl (by decide +kernel) ⟨Nat.le_of_ble_eq_true rfl, Nat.le_of_ble_eq_true rfl⟩ 0 rfl rfl rfl rfl rfl rfl hl.1 (Nat.le_of_ble_eq_true rfl) dX1_join_72 ⟨Nat.le_of_ble_eq_true rfl, Nat.le_of_ble_eq_true rfl⟩) rfl [1] [1, 0, 2, 3, 4, 5] (fun u9 => [xO aL 1 [.int pl, .ref aEx, .ref aSh, .ref aLd, .ref aTw, .ref aLe, .ref aOp, .ref aFa], xAI G aEx 10 (upd (upd ex a.toNatClampNeg ((ex a.toNatClampNeg) + 1)) b.toNatClampNeg (((upd ex a.toNatClampNeg ((ex a.toNatClampNeg) + 1)) b.toNatClampNeg) + 1)), xAI G aLd 40 u9.1, xAI G aTw 40 u9.2.1, xAI G aLe 40 u9.2.2.1, xAZ G aOp 40 u9.2.2.2]) (fun _ => rfl) rfl rfl rfl rfl (fun u9 H locs hp11 hw => ?_)
  refine lv_aload_n hx hb dX1_join_75 rfl (lv_at hl 3 rfl) ?_
  refine lv_iload hx hb dX1_join_76 (lv_at hl 0 rfl) ?_
  refine lv_iload hx hb dX1_join_78 (lv_at hl 1 rfl) ?_
  refine lv_iload_n hx hb dX1_join_80 rfl (lv_at hl 6 rfl) ?_
  refine xcall_v (isC := [0, 2, 3, 4, 5]) hc hw (xrunV (n := 3) (As := [.int ((b * 4) + (ex b.toNatClampNeg)), .int ((a * 4) + (ex a.toNatClampNeg)), .int n]) (rest := []) hc hw [0, 2, 3, 4, 5] (metX1_layEnd l G _ aL aEx aSh aLd aTw aLe aOp aFa pl u9.1 u9.2.1 u9.2.2.1 u9.2.2.2 ((b * 4) + (ex b.toNatClampNeg)) ((a * 4) + (ex a.toNatClampNeg)) n hh2) gX1_join_X1_layEnd rfl (by decide +kernel) ⟨Nat.le_of_ble_eq_true rfl, Nat.le_of_ble_eq_true rfl⟩ 0 rfl rfl rfl rfl rfl rfl hl.1 (Nat.le_of_ble_eq_true rfl) dX1_join_81 ⟨Nat.le_of_ble_eq_true rfl, Nat.le_of_ble_eq_true rfl⟩) rfl [1] [1, 0, 2, 3, 4, 5] (fun u13 => [xO aL 1 [.int pl, .ref aEx, .ref aSh, .ref aLd, .ref aTw, .ref aLe, .ref aOp, .ref aFa], xAI G aEx 10 (upd (upd ex a.toNatClampNeg ((ex a.toNatClampNeg) + 1)) b.toNatClampNeg (((upd ex a.toNatClampNeg ((ex a.toNatClampNeg) + 1)) b.toNatClampNeg) + 1)), xAI G aLd 40 u13.1, xAI G aTw 40 u13.2.1, xAI G aLe 40 u13.2.2.1, xAZ G aOp 40 u13.2.2.2]) (fun _ => rfl) rfl rfl rfl rfl (fun u13 H locs hp15 hw => ?_)
  refine lv_iload hx hb dX1_join_84 (lv_at hl 2 rfl) ?_
  obtain ⟨u0, hu0⟩ : ∃ z : (Nat → Int32) × (Nat → Int32) × (Nat → Int32) × (Nat → Int32) × (Nat → Int32), z = (upd (upd ex a.toNatClampNeg ((ex a.toNatClampNeg) + 1)) b.toNatClampNeg (((upd ex a.toNatClampNeg ((ex a.toNatClampNeg) + 1)) b.toNatClampNeg) + 1), u13.1, u13.2.1, u13.2.2.1, u13.2.2.2) := ⟨_, rfl⟩
  refine xret_i u0 hc ?_ ?_ ⟨Nat.le_of_ble_eq_true rfl, Nat.le_of_ble_eq_true rfl⟩ dX1_join_86
  · subst hu0; dsimp only; exact hw
  · subst hu0; exact xe2 (xb hp3 (xb hp7 (xb hp11 (xb hp15 rfl))))
def LX1_measure_n (ld : Nat → Int32) (le : Nat → Int32) (op : Nat → Int32) : Nat → Nat → (Nat → Int32) → (Int32) → (Nat → Int32) × (Int32)
  | 0, i, fa, sd => (fa, sd)
  | n + 1, i, fa, sd =>
    if 40 ≤ (nI i) then ((fa, sd)) else (xbind (FX1_milesBy ld le op fa (nI i)) (fun r14 => xbind (FX3_placeOfEnd (nI i)) (fun r18 => if (fa r18.toNatClampNeg) ≤ r14 then (LX1_measure_n ld le op n (i + 1) fa sd) else (xbind (FX3_placeOfEnd (nI i)) (fun r23 => LX1_measure_n ld le op n (i + 1) (upd fa r23.toNatClampNeg r14) 1)))))
set_option maxHeartbeats 40000000 in
set_option maxRecDepth 100000 in
theorem lpX1_measure_n {pg : Program} {l : Launch} {en : Env} {s : State} {mi : MethodId} {args : Array Value} {below : List Frame} {meth : Method} {cd : Code} {A : Nat → Prop} {Q : State → Prop} (G : xG) (hc : xC pg s mi args meth cd cX1_measure 6 RX1 wsX1_measure none G A) (aL : Nat) (aEx : Nat) (aSh : Nat) (aLd : Nat) (aTw : Nat) (aLe : Nat) (aOp : Nat) (aFa : Nat) (pl : Int32) (ld : Nat → Int32) (le : Nat → Int32) (op : Nat → Int32) (g : Int32) (rd : Int32) (hpl : 0 ≤ pl.toInt ∧ pl.toInt ≤ 10) (hld : ∀ k, k < 40 → 0 ≤ (ld k).toInt ∧ (ld k).toInt < 10) :
    ∀ (n i : Nat) (fa : Nat → Int32) (sd : Int32), ((i : Nat) : Int) ≤ (40 : Int32).toInt → (40 : Int32).toInt < ((i + n : Nat) : Int) → ∀ (H : Heap) (locs : List Loc) (ls : Array Slot), xW G A s.heap [xO aL 1 [.int pl, .ref aEx, .ref aSh, .ref aLd, .ref aTw, .ref aLe, .ref aOp, .ref aFa], xAI G aLd 40 ld, xAI G aLe 40 le, xAZ G aOp 40 op, xAI G aFa 10 fa] H locs → lv_has ls 6 [(0, .ref aL), (2, .int sd), (3, .int rd), (4, .int (nI i))] → (∀ (z : (Nat → Int32) × (Int32)), z = LX1_measure_n ld le op n i fa sd → ∀ (H1 : Heap) (locs1 : List Loc) (ls1 : Array Slot), xW G A s.heap [xO aL 1 [.int pl, .ref aEx, .ref aSh, .ref aLd, .ref aTw, .ref aLe, .ref aOp, .ref aFa], xAI G aLd 40 ld, xAI G aLe 40 le, xAZ G aOp 40 op, xAI G aFa 10 z.1] H1 locs1 → lv_has ls1 6 [(0, .ref aL), (2, .int z.2), (3, .int rd)] → W pg l en ⟨1, 0, 0, 23⟩ s mi args below meth cd H1 locs1 0 0 Q (F0 mi 93 ls1 [])) → W pg l en ⟨1, 0, 0, 23⟩ s mi args below meth cd H locs 0 0 Q (F0 mi 43 ls []) := by
  obtain ⟨hx, hb, -, hown, hts, -⟩ := id hc
  intro n
  induction n with
  | zero =>
    intro i fa sd hlo hfu
    intros; exact absurd hfu (by omega)
  | succ n ih =>
    intro i fa sd hlo hfu  H locs ls hw hl K
    refine lv_iload hx hb dX1_measure_43 (lv_at hl 3 rfl) ?_
    refine lv_bipush (v := 40) hx hb dX1_measure_45 (by decide) ?_
    refine lv_icmp_ge (tgt := 93) hx hb dX1_measure_47 (by decide) (fun c_12 => ?_) (fun c_12 => ?_)
    · exact K (fa, sd) (Eq.symm (if_pos c_12)) H locs ls (by first | (dsimp only; exact hw) | exact hw) (by first | exact lv_sub hl [0, 1, 2] rfl | (dsimp only; exact lv_sub hl [0, 1, 2] rfl))
    · refine lv_aload_n hx hb dX1_measure_50 rfl (lv_at hl 0 rfl) ?_
      refine lv_iload hx hb dX1_measure_51 (lv_at hl 3 rfl) ?_
      refine xcall_i (isC := [0, 1, 2, 3, 4]) hc hw (xrunV (n := 1) (As := [.int (nI i)]) (rest := []) hc hw [0, 1, 2, 3, 4] (metX1_milesBy l G _ aL aEx aSh aLd aTw aLe aOp aFa pl ld le op fa (nI i) hld (xnIB hlo c_12 (by decide))) gX1_measure_X1_milesBy rfl (by decide +kernel) ⟨Nat.le_of_ble_eq_true rfl, Nat.le_of_ble_eq_true rfl⟩ 0 rfl rfl rfl rfl rfl rfl hl.1 (Nat.le_of_ble_eq_true rfl) dX1_measure_53 ⟨Nat.le_of_ble_eq_true rfl, Nat.le_of_ble_eq_true rfl⟩) rfl [] [0, 1, 2, 3, 4] (fun u13 => [xO aL 1 [.int pl, .ref aEx, .ref aSh, .ref aLd, .ref aTw, .ref aLe, .ref aOp, .ref aFa], xAI G aLd 40 ld, xAI G aLe 40 le, xAZ G aOp 40 op, xAI G aFa 10 fa]) (fun _ => rfl) rfl rfl rfl rfl (fun r14 u13 H locs hp15 hw => ?_)
      refine lv_istore (lv' := [(5, .int r14), (0, .ref aL), (2, .int sd), (3, .int rd), (4, .int (nI i))]) hx hb dX1_measure_56 hl (by decide) rfl (fun ls hl => ?_)
      refine lv_iload hx hb dX1_measure_58 (lv_at hl 0 rfl) ?_
      refine lv_aload_n hx hb dX1_measure_60 rfl (lv_at hl 1 rfl) ?_
      refine xget (C := RX1) (T := TX1) (N := 8) hc hw inX1_measure_X1 0 rfl rfl 7 (by decide) lkX1_measure_f31 rfl rfl dX1_measure_61 ?_
      refine lv_iload hx hb dX1_measure_64 (lv_at hl 4 rfl) ?_
      refine xcall_i (isC := []) hc hw (xrunSN (n := 1) (As := [.int (nI i)]) (rest := [.ref aFa, .int r14]) hc hw [] (metX3_placeOfEnd l G _ (nI i)) gX1_measure_X3_placeOfEnd_n49 nkX1_49 lkX1_measure_iiX3 lkX1_measure_isX3_placeOfEnd rfl (by decide +kernel) ⟨Nat.le_of_ble_eq_true rfl, Nat.le_of_ble_eq_true rfl⟩ rfl rfl rfl rfl hl.1 (Nat.le_of_ble_eq_true rfl) dX1_measure_66 ⟨Nat.le_of_ble_eq_true rfl, Nat.le_of_ble_eq_true rfl⟩) rfl [0, 1, 2, 3, 4] [0, 1, 2, 3, 4] (fun u17 => [xO aL 1 [.int pl, .ref aEx, .ref aSh, .ref aLd, .ref aTw, .ref aLe, .ref aOp, .ref aFa], xAI G aLd 40 ld, xAI G aLe 40 le, xAZ G aOp 40 op, xAI G aFa 10 fa]) (fun _ => rfl) rfl rfl rfl rfl (fun r18 u17 H locs hp19 hw => ?_)
      refine xiald hc hw 4 rfl (xin (pX3_placeOfEnd hp19 (xnIB hlo c_12 (by decide)))) dX1_measure_69 ?_
      refine lv_icmp_ge (tgt := 87) hx hb dX1_measure_70 (by decide) (fun c_21 => ?_) (fun c_21 => ?_)
      · refine lv_iinc (v := nI (i + 1)) (lv' := [(4, .int (nI (i + 1))), (5, .int r14), (0, .ref aL), (2, .int sd), (3, .int rd)]) hx hb dX1_measure_87 hl (k := 4) rfl (nI_1 _) (by decide) rfl (fun ls hl => ?_)
        refine lv_goto (tgt := 43) hx hb dX1_measure_90 (by decide) ?_
        exact ih (i + 1) fa sd (xlt hlo c_12) (by omega) H locs ls hw (lv_sub hl [2, 3, 4, 0] rfl) (fun z e => K z (xtr1 (Eq.trans (if_neg c_12) (xb hp15 (xb hp19 (if_pos c_21)))) e))
      · refine lv_aload_n hx hb dX1_measure_73 rfl (lv_at hl 1 rfl) ?_
        refine xget (C := RX1) (T := TX1) (N := 8) hc hw inX1_measure_X1 0 rfl rfl 7 (by decide) lkX1_measure_f31 rfl rfl dX1_measure_74 ?_
        refine lv_iload hx hb dX1_measure_77 (lv_at hl 4 rfl) ?_
        refine xcall_i (isC := []) hc hw (xrunSN (n := 1) (As := [.int (nI i)]) (rest := [.ref aFa]) hc hw [] (metX3_placeOfEnd l G _ (nI i)) gX1_measure_X3_placeOfEnd_n49 nkX1_49 lkX1_measure_iiX3 lkX1_measure_isX3_placeOfEnd rfl (by decide +kernel) ⟨Nat.le_of_ble_eq_true rfl, Nat.le_of_ble_eq_true rfl⟩ rfl rfl rfl rfl hl.1 (Nat.le_of_ble_eq_true rfl) dX1_measure_79 ⟨Nat.le_of_ble_eq_true rfl, Nat.le_of_ble_eq_true rfl⟩) rfl [0, 1, 2, 3, 4] [0, 1, 2, 3, 4] (fun u22 => [xO aL 1 [.int pl, .ref aEx, .ref aSh, .ref aLd, .ref aTw, .ref aLe, .ref aOp, .ref aFa], xAI G aLd 40 ld, xAI G aLe 40 le, xAZ G aOp 40 op, xAI G aFa 10 fa]) (fun _ => rfl) rfl rfl rfl rfl (fun r23 u22 H locs hp24 hw => ?_)
        refine lv_iload hx hb dX1_measure_82 (lv_at hl 0 rfl) ?_
        refine xiast hc hw 4 [xO aL 1 [.int pl, .ref aEx, .ref aSh, .ref aLd, .ref aTw, .ref aLe, .ref aOp, .ref aFa], xAI G aLd 40 ld, xAI G aLe 40 le, xAZ G aOp 40 op, xAI G aFa 10 (upd fa r23.toNatClampNeg r14)] rfl (xin (pX3_placeOfEnd hp24 (xnIB hlo c_12 (by decide)))) rfl dX1_measure_84 (fun H locs hw => ?_)
        refine lv_iconst (v := 1) hx hb dX1_measure_85 (by decide) ?_
        refine lv_istore_n (lv' := [(2, .int 1), (5, .int r14), (0, .ref aL), (3, .int rd), (4, .int (nI i))]) hx hb dX1_measure_86 rfl hl (by decide) rfl (fun ls hl => ?_)
        refine lv_iinc (v := nI (i + 1)) (lv' := [(4, .int (nI (i + 1))), (2, .int 1), (5, .int r14), (0, .ref aL), (3, .int rd)]) hx hb dX1_measure_87 hl (k := 4) rfl (nI_1 _) (by decide) rfl (fun ls hl => ?_)
        refine lv_goto (tgt := 43) hx hb dX1_measure_90 (by decide) ?_
        exact ih (i + 1) (upd fa r23.toNatClampNeg r14) 1 (xlt hlo c_12) (by omega) H locs ls hw (lv_sub hl [3, 1, 4, 0] rfl) (fun z e => K z (xtr1 (Eq.trans (if_neg c_12) (xb hp15 (xb hp19 (Eq.trans (if_neg c_21) (xb hp24 rfl))))) e))
def LX1_measure_o (ld : Nat → Int32) (le : Nat → Int32) (op : Nat → Int32) : Nat → Nat → (Nat → Int32) → (Int32) → (Nat → Int32) × (Int32)
  | 0, i, fa, sd => (fa, sd)
  | n + 1, i, fa, sd =>
    if 10 ≤ (nI i) then ((fa, sd)) else (if sd = 0 then ((fa, sd)) else (xbind (LX1_measure_n ld le op 41 0 fa 0) (fun z12 => LX1_measure_o ld le op n (i + 1) z12.1 z12.2)))
set_option maxHeartbeats 40000000 in
set_option maxRecDepth 100000 in
theorem lpX1_measure_o {pg : Program} {l : Launch} {en : Env} {s : State} {mi : MethodId} {args : Array Value} {below : List Frame} {meth : Method} {cd : Code} {A : Nat → Prop} {Q : State → Prop} (G : xG) (hc : xC pg s mi args meth cd cX1_measure 6 RX1 wsX1_measure none G A) (aL : Nat) (aEx : Nat) (aSh : Nat) (aLd : Nat) (aTw : Nat) (aLe : Nat) (aOp : Nat) (aFa : Nat) (pl : Int32) (ld : Nat → Int32) (le : Nat → Int32) (op : Nat → Int32) (g : Int32) (hpl : 0 ≤ pl.toInt ∧ pl.toInt ≤ 10) (hld : ∀ k, k < 40 → 0 ≤ (ld k).toInt ∧ (ld k).toInt < 10) :
    ∀ (n i : Nat) (fa : Nat → Int32) (sd : Int32), ((i : Nat) : Int) ≤ (10 : Int32).toInt → (10 : Int32).toInt < ((i + n : Nat) : Int) → ∀ (H : Heap) (locs : List Loc) (ls : Array Slot), xW G A s.heap [xO aL 1 [.int pl, .ref aEx, .ref aSh, .ref aLd, .ref aTw, .ref aLe, .ref aOp, .ref aFa], xAI G aLd 40 ld, xAI G aLe 40 le, xAZ G aOp 40 op, xAI G aFa 10 fa] H locs → lv_has ls 6 [(0, .ref aL), (2, .int sd), (3, .int (nI i))] → (∀ (z : (Nat → Int32) × (Int32)), z = LX1_measure_o ld le op n i fa sd → ∀ (H1 : Heap) (locs1 : List Loc) (ls1 : Array Slot), xW G A s.heap [xO aL 1 [.int pl, .ref aEx, .ref aSh, .ref aLd, .ref aTw, .ref aLe, .ref aOp, .ref aFa], xAI G aLd 40 ld, xAI G aLe 40 le, xAZ G aOp 40 op, xAI G aFa 10 z.1] H1 locs1 → lv_has ls1 6 [(0, .ref aL), (2, .int z.2)] → W pg l en ⟨1, 0, 0, 23⟩ s mi args below meth cd H1 locs1 0 0 Q (F0 mi 99 ls1 [])) → W pg l en ⟨1, 0, 0, 23⟩ s mi args below meth cd H locs 0 0 Q (F0 mi 28 ls []) := by
  obtain ⟨hx, hb, -, hown, hts, -⟩ := id hc
  intro n
  induction n with
  | zero =>
    intro i fa sd hlo hfu
    intros; exact absurd hfu (by omega)
  | succ n ih =>
    intro i fa sd hlo hfu  H locs ls hw hl K
    refine lv_iload_n hx hb dX1_measure_28 rfl (lv_at hl 2 rfl) ?_
    refine lv_bipush (v := 10) hx hb dX1_measure_29 (by decide) ?_
    refine lv_icmp_ge (tgt := 99) hx hb dX1_measure_31 (by decide) (fun c_10 => ?_) (fun c_10 => ?_)
    · exact K (fa, sd) (Eq.symm (if_pos c_10)) H locs ls (by first | (dsimp only; exact hw) | exact hw) (by first | exact lv_sub hl [0, 1] rfl | (dsimp only; exact lv_sub hl [0, 1] rfl))
    · refine lv_iload_n hx hb dX1_measure_34 rfl (lv_at hl 1 rfl) ?_
      refine lv_if_eq (tgt := 99) hx hb dX1_measure_35 (by decide) (fun c_11 => ?_) (fun c_11 => ?_)
      · exact K (fa, sd) (Eq.symm (Eq.trans (if_neg c_10) (if_pos c_11))) H locs ls (by first | (dsimp only; exact hw) | exact hw) (by first | exact lv_sub hl [0, 1] rfl | (dsimp only; exact lv_sub hl [0, 1] rfl))
      · refine lv_iconst (v := 0) hx hb dX1_measure_38 (by decide) ?_
        refine lv_istore_n (lv' := [(2, .int 0), (0, .ref aL), (3, .int (nI i))]) hx hb dX1_measure_39 rfl hl (by decide) rfl (fun ls hl => ?_)
        refine lv_iconst (v := 0) hx hb dX1_measure_40 (by decide) ?_
        refine lv_istore (lv' := [(4, .int 0), (2, .int 0), (0, .ref aL), (3, .int (nI i))]) hx hb dX1_measure_41 hl (by decide) rfl (fun ls hl => ?_)
        refine lpX1_measure_n G hc aL aEx aSh aLd aTw aLe aOp aFa pl ld le op g (nI i) hpl hld 41 0 fa 0 (by decide) (by decide) _ _ _ hw (lv_sub hl [2, 1, 3, 0] rfl) (fun z12 ek13 H locs ls hw hl => ?_)
        refine lv_iinc (v := nI (i + 1)) (lv' := [(3, .int (nI (i + 1))), (0, .ref aL), (2, .int z12.2)]) hx hb dX1_measure_93 hl (k := 2) rfl (nI_1 _) (by decide) rfl (fun ls hl => ?_)
        refine lv_goto (tgt := 28) hx hb dX1_measure_96 (by decide) ?_
        exact ih (i + 1) z12.1 z12.2 (xlt hlo c_10) (by omega) H locs ls hw (lv_sub hl [1, 2, 0] rfl) (fun z e => K z (xtr1 (Eq.trans (if_neg c_10) (Eq.trans (if_neg c_11) (xb ek13 rfl))) e))
def FX1_measure (pl : Int32) (ld : Nat → Int32) (le : Nat → Int32) (op : Nat → Int32) (fa : Nat → Int32) (g : Int32) : (Nat → Int32) :=
  xbind (FJ7_fill_53178 fa 1000000) (fun u1 => xbind (FX1_isPlace pl g) (fun r6 => if r6 = 0 then (xbind (LX1_measure_o ld le op 11 0 u1 1) (fun z14 => z14.1)) else (xbind (LX1_measure_o ld le op 11 0 (upd u1 g.toNatClampNeg 0) 1) (fun z16 => z16.1))))
set_option maxHeartbeats 40000000 in
set_option maxRecDepth 100000 in
theorem metX1_measure (l : Launch) (G : xG) (sz : Nat) (aL : Nat) (aEx : Nat) (aSh : Nat) (aLd : Nat) (aTw : Nat) (aLe : Nat) (aOp : Nat) (aFa : Nat) (pl : Int32) (ld : Nat → Int32) (le : Nat → Int32) (op : Nat → Int32) (fa : Nat → Int32) (g : Int32) (hpl : 0 ≤ pl.toInt ∧ pl.toInt ≤ 10) (hld : ∀ k, k < 40 → 0 ≤ (ld k).toInt ∧ (ld k).toInt < 10) : xM l yX1_measure wsX1_measure ⟨1, 0, 0, 23⟩ G [.ref aL, .int g] [xO aL 1 [.int pl, .ref aEx, .ref aSh, .ref aLd, .ref aTw, .ref aLe, .ref aOp, .ref aFa], xAI G aLd 40 ld, xAI G aLe 40 le, xAZ G aOp 40 op, xAI G aFa 10 fa] sz (xQv G [xO aL 1 [.int pl, .ref aEx, .ref aSh, .ref aLd, .ref aTw, .ref aLe, .ref aOp, .ref aFa], xAI G aLd 40 ld, xAI G aLe 40 le, xAZ G aOp 40 op, xAI G aFa 10 fa] sz (fun (u : (Nat → Int32)) => u = FX1_measure pl ld le op fa g) (fun u : (Nat → Int32) => [xO aL 1 [.int pl, .ref aEx, .ref aSh, .ref aLd, .ref aTw, .ref aLe, .ref aOp, .ref aFa], xAI G aLd 40 ld, xAI G aLe 40 le, xAZ G aOp 40 op, xAI G aFa 10 u])) := by
  refine xof (own := RX1) (cc := cX1_measure) (maxL := 6) (ret := none) rfl (by decide) rfl (Nat.le_of_ble_eq_true rfl) ?_
  intro pg en s mi below meth cd hc hnm hw ls hl
  obtain ⟨hx, hb, -, hown, hts, -⟩ := id hc
  have hl : lv_has ls 6 [(0, .ref aL), (1, .int g)] := hl
  refine lv_aload_n hx hb dX1_measure_0 rfl (lv_at hl 0 rfl) ?_
  refine xget (C := RX1) (T := TX1) (N := 8) hc hw inX1_measure_X1 0 rfl rfl 7 (by decide) lkX1_measure_f31 rfl rfl dX1_measure_1 ?_
  refine xldc hc lkX1_measure_c63 dX1_measure_4 ?_
  refine xcall_v (isC := [4]) hc hw (xrunS (n := 2) (As := [.ref aFa, .int 1000000]) (rest := []) hc hw [4] (metJ7_fill_53178 l G _ aFa fa 1000000) gX1_measure_J7_fill_53178 rfl (by decide +kernel) ⟨Nat.le_of_ble_eq_true rfl, Nat.le_of_ble_eq_true rfl⟩ rfl rfl rfl rfl hl.1 (Nat.le_of_ble_eq_true rfl) dX1_measure_6 ⟨Nat.le_of_ble_eq_true rfl, Nat.le_of_ble_eq_true rfl⟩) rfl [0, 1, 2, 3] [0, 1, 2, 3, 4] (fun u1 => [xO aL 1 [.int pl, .ref aEx, .ref aSh, .ref aLd, .ref aTw, .ref aLe, .ref aOp, .ref aFa], xAI G aLd 40 ld, xAI G aLe 40 le, xAZ G aOp 40 op, xAI G aFa 10 u1]) (fun _ => rfl) rfl rfl rfl rfl (fun u1 H locs hp3 hw => ?_)
  refine lv_aload_n hx hb dX1_measure_9 rfl (lv_at hl 0 rfl) ?_
  refine lv_iload_n hx hb dX1_measure_10 rfl (lv_at hl 1 rfl) ?_
  refine xcall_i (isC := [0]) hc hw (xrunV (n := 1) (As := [.int g]) (rest := []) hc hw [0] (metX1_isPlace l G _ aL aEx aSh aLd aTw aLe aOp aFa pl g) gX1_measure_X1_isPlace rfl (by decide +kernel) ⟨Nat.le_of_ble_eq_true rfl, Nat.le_of_ble_eq_true rfl⟩ 0 rfl rfl rfl rfl rfl rfl hl.1 (Nat.le_of_ble_eq_true rfl) dX1_measure_11 ⟨Nat.le_of_ble_eq_true rfl, Nat.le_of_ble_eq_true rfl⟩) rfl [1, 2, 3, 4] [4, 0, 1, 2, 3] (fun u5 => [xO aL 1 [.int pl, .ref aEx, .ref aSh, .ref aLd, .ref aTw, .ref aLe, .ref aOp, .ref aFa], xAI G aLd 40 ld, xAI G aLe 40 le, xAZ G aOp 40 op, xAI G aFa 10 u1]) (fun _ => rfl) rfl rfl rfl rfl (fun r6 u5 H locs hp7 hw => ?_)
  refine lv_if_eq (tgt := 24) hx hb dX1_measure_14 (by decide) (fun c_9 => ?_) (fun c_9 => ?_)
  · refine lv_iconst (v := 1) hx hb dX1_measure_24 (by decide) ?_
    refine lv_istore_n (lv' := [(2, .int 1), (0, .ref aL), (1, .int g)]) hx hb dX1_measure_25 rfl hl (by decide) rfl (fun ls hl => ?_)
    refine lv_iconst (v := 0) hx hb dX1_measure_26 (by decide) ?_
    refine lv_istore_n (lv' := [(3, .int 0), (2, .int 1), (0, .ref aL), (1, .int g)]) hx hb dX1_measure_27 rfl hl (by decide) rfl (fun ls hl => ?_)
    refine lpX1_measure_o G hc aL aEx aSh aLd aTw aLe aOp aFa pl ld le op g hpl hld 11 0 u1 1 (by decide) (by decide) _ _ _ hw (lv_sub hl [2, 1, 0] rfl) (fun z14 ek15 H locs ls hw hl => ?_)
    exact xret_v z14.1 hc hw (Eq.symm (xb hp3 (xb hp7 (Eq.trans (if_pos c_9) (xb ek15 rfl))))) ⟨Nat.le_of_ble_eq_true rfl, Nat.le_of_ble_eq_true rfl⟩ dX1_measure_99
  · refine lv_aload_n hx hb dX1_measure_17 rfl (lv_at hl 0 rfl) ?_
    refine xget (C := RX1) (T := TX1) (N := 8) hc hw inX1_measure_X1 0 rfl rfl 7 (by decide) lkX1_measure_f31 rfl rfl dX1_measure_18 ?_
    refine lv_iload_n hx hb dX1_measure_21 rfl (lv_at hl 1 rfl) ?_
    refine lv_iconst (v := 0) hx hb dX1_measure_22 (by decide) ?_
    refine xiast hc hw 4 [xO aL 1 [.int pl, .ref aEx, .ref aSh, .ref aLd, .ref aTw, .ref aLe, .ref aOp, .ref aFa], xAI G aLd 40 ld, xAI G aLe 40 le, xAZ G aOp 40 op, xAI G aFa 10 (upd u1 g.toNatClampNeg 0)] rfl (xin (pX1_isPlace10 hpl hp7 c_9)) rfl dX1_measure_23 (fun H locs hw => ?_)
    refine lv_iconst (v := 1) hx hb dX1_measure_24 (by decide) ?_
    refine lv_istore_n (lv' := [(2, .int 1), (0, .ref aL), (1, .int g)]) hx hb dX1_measure_25 rfl hl (by decide) rfl (fun ls hl => ?_)
    refine lv_iconst (v := 0) hx hb dX1_measure_26 (by decide) ?_
    refine lv_istore_n (lv' := [(3, .int 0), (2, .int 1), (0, .ref aL), (1, .int g)]) hx hb dX1_measure_27 rfl hl (by decide) rfl (fun ls hl => ?_)
    refine lpX1_measure_o G hc aL aEx aSh aLd aTw aLe aOp aFa pl ld le op g hpl hld 11 0 (upd u1 g.toNatClampNeg 0) 1 (by decide) (by decide) _ _ _ hw (lv_sub hl [2, 1, 0] rfl) (fun z16 ek17 H locs ls hw hl => ?_)
    exact xret_v z16.1 hc hw (Eq.symm (xb hp3 (xb hp7 (Eq.trans (if_neg c_9) (xb ek17 rfl))))) ⟨Nat.le_of_ble_eq_true rfl, Nat.le_of_ble_eq_true rfl⟩ dX1_measure_99
def FX1_shortest (pl : Int32) (ld : Nat → Int32) (le : Nat → Int32) (op : Nat → Int32) (fa : Nat → Int32) (q : Int32) (g : Int32) : Int32 × (Nat → Int32) :=
  xbind (FX1_measure pl ld le op fa g) (fun u1 => xbind (FX1_isPlace pl q) (fun r6 => if r6 = 0 then (((-1), u1)) else (if 1000000 ≤ (u1 q.toNatClampNeg) then (((-1), u1)) else ((u1 q.toNatClampNeg, u1)))))
set_option maxHeartbeats 40000000 in
set_option maxRecDepth 100000 in
theorem metX1_shortest (l : Launch) (G : xG) (sz : Nat) (aL : Nat) (aEx : Nat) (aSh : Nat) (aLd : Nat) (aTw : Nat) (aLe : Nat) (aOp : Nat) (aFa : Nat) (pl : Int32) (ld : Nat → Int32) (le : Nat → Int32) (op : Nat → Int32) (fa : Nat → Int32) (q : Int32) (g : Int32) (hpl : 0 ≤ pl.toInt ∧ pl.toInt ≤ 10) (hld : ∀ k, k < 40 → 0 ≤ (ld k).toInt ∧ (ld k).toInt < 10) : xM l yX1_shortest wsX1_shortest ⟨2, 0, 0, 48⟩ G [.ref aL, .int q, .int g] [xO aL 1 [.int pl, .ref aEx, .ref aSh, .ref aLd, .ref aTw, .ref aLe, .ref aOp, .ref aFa], xAI G aLd 40 ld, xAI G aLe 40 le, xAZ G aOp 40 op, xAI G aFa 10 fa] sz (xQi G [xO aL 1 [.int pl, .ref aEx, .ref aSh, .ref aLd, .ref aTw, .ref aLe, .ref aOp, .ref aFa], xAI G aLd 40 ld, xAI G aLe 40 le, xAZ G aOp 40 op, xAI G aFa 10 fa] sz (fun (r : Int32) (u : (Nat → Int32)) => r = (FX1_shortest pl ld le op fa q g).1 ∧ u = (FX1_shortest pl ld le op fa q g).2) (fun u : (Nat → Int32) => [xO aL 1 [.int pl, .ref aEx, .ref aSh, .ref aLd, .ref aTw, .ref aLe, .ref aOp, .ref aFa], xAI G aLd 40 ld, xAI G aLe 40 le, xAZ G aOp 40 op, xAI G aFa 10 u])) := by
  refine xof (own := RX1) (cc := cX1_shortest) (maxL := 3) (ret := (some .int)) rfl (by decide) rfl (Nat.le_of_ble_eq_true rfl) ?_
  intro pg en s mi below meth cd hc hnm hw ls hl
  obtain ⟨hx, hb, -, hown, hts, -⟩ := id hc
  have hl : lv_has ls 3 [(0, .ref aL), (1, .int q), (2, .int g)] := hl
  refine lv_aload_n hx hb dX1_shortest_0 rfl (lv_at hl 0 rfl) ?_
  refine lv_iload_n hx hb dX1_shortest_1 rfl (lv_at hl 2 rfl) ?_
  refine xcall_v (isC := [0, 1, 2, 3, 4]) hc hw (xrunV (n := 1) (As := [.int g]) (rest := []) hc hw [0, 1, 2, 3, 4] (metX1_measure l G _ aL aEx aSh aLd aTw aLe aOp aFa pl ld le op fa g hpl hld) gX1_shortest_X1_measure rfl (by decide +kernel) ⟨Nat.le_of_ble_eq_true rfl, Nat.le_of_ble_eq_true rfl⟩ 0 rfl rfl rfl rfl rfl rfl hl.1 (Nat.le_of_ble_eq_true rfl) dX1_shortest_2 ⟨Nat.le_of_ble_eq_true rfl, Nat.le_of_ble_eq_true rfl⟩) rfl [] [0, 1, 2, 3, 4] (fun u1 => [xO aL 1 [.int pl, .ref aEx, .ref aSh, .ref aLd, .ref aTw, .ref aLe, .ref aOp, .ref aFa], xAI G aLd 40 ld, xAI G aLe 40 le, xAZ G aOp 40 op, xAI G aFa 10 u1]) (fun _ => rfl) rfl rfl rfl rfl (fun u1 H locs hp3 hw => ?_)
  refine lv_aload_n hx hb dX1_shortest_5 rfl (lv_at hl 0 rfl) ?_
  refine lv_iload_n hx hb dX1_shortest_6 rfl (lv_at hl 1 rfl) ?_
  refine xcall_i (isC := [0]) hc hw (xrunV (n := 1) (As := [.int q]) (rest := []) hc hw [0] (metX1_isPlace l G _ aL aEx aSh aLd aTw aLe aOp aFa pl q) gX1_shortest_X1_isPlace rfl (by decide +kernel) ⟨Nat.le_of_ble_eq_true rfl, Nat.le_of_ble_eq_true rfl⟩ 0 rfl rfl rfl rfl rfl rfl hl.1 (Nat.le_of_ble_eq_true rfl) dX1_shortest_7 ⟨Nat.le_of_ble_eq_true rfl, Nat.le_of_ble_eq_true rfl⟩) rfl [1, 2, 3, 4] [4, 0, 1, 2, 3] (fun u5 => [xO aL 1 [.int pl, .ref aEx, .ref aSh, .ref aLd, .ref aTw, .ref aLe, .ref aOp, .ref aFa], xAI G aLd 40 ld, xAI G aLe 40 le, xAZ G aOp 40 op, xAI G aFa 10 u1]) (fun _ => rfl) rfl rfl rfl rfl (fun r6 u5 H locs hp7 hw => ?_)
  refine lv_if_eq (tgt := 33) hx hb dX1_shortest_10 (by decide) (fun c_9 => ?_) (fun c_9 => ?_)
  · refine lv_iconst (v := (-1)) hx hb dX1_shortest_33 (by decide) ?_
    exact xret_i u1 hc hw (xe2 (xb hp3 (xb hp7 (if_pos c_9)))) ⟨Nat.le_of_ble_eq_true rfl, Nat.le_of_ble_eq_true rfl⟩ dX1_shortest_34
  · refine lv_aload_n hx hb dX1_shortest_13 rfl (lv_at hl 0 rfl) ?_
    refine xget (C := RX1) (T := TX1) (N := 8) hc hw inX1_shortest_X1 0 rfl rfl 7 (by decide) lkX1_shortest_f31 rfl rfl dX1_shortest_14 ?_
    refine lv_iload_n hx hb dX1_shortest_17 rfl (lv_at hl 1 rfl) ?_
    refine xiald hc hw 4 rfl (xin (pX1_isPlace10 hpl hp7 c_9)) dX1_shortest_18 ?_
    refine xldc hc lkX1_shortest_c63 dX1_shortest_19 ?_
    refine lv_icmp_ge (tgt := 33) hx hb dX1_shortest_21 (by decide) (fun c_10 => ?_) (fun c_10 => ?_)
    · refine lv_iconst (v := (-1)) hx hb dX1_shortest_33 (by decide) ?_
      exact xret_i u1 hc hw (xe2 (xb hp3 (xb hp7 (Eq.trans (if_neg c_9) (if_pos c_10))))) ⟨Nat.le_of_ble_eq_true rfl, Nat.le_of_ble_eq_true rfl⟩ dX1_shortest_34
    · refine lv_aload_n hx hb dX1_shortest_24 rfl (lv_at hl 0 rfl) ?_
      refine xget (C := RX1) (T := TX1) (N := 8) hc hw inX1_shortest_X1 0 rfl rfl 7 (by decide) lkX1_shortest_f31 rfl rfl dX1_shortest_25 ?_
      refine lv_iload_n hx hb dX1_shortest_28 rfl (lv_at hl 1 rfl) ?_
      refine xiald hc hw 4 rfl (xin (pX1_isPlace10 hpl hp7 c_9)) dX1_shortest_29 ?_
      refine lv_goto (tgt := 34) hx hb dX1_shortest_30 (by decide) ?_
      exact xret_i u1 hc hw (xe2 (xb hp3 (xb hp7 (Eq.trans (if_neg c_9) (if_neg c_10))))) ⟨Nat.le_of_ble_eq_true rfl, Nat.le_of_ble_eq_true rfl⟩ dX1_shortest_34
def LX1_endTowards_t (ex : Nat → Int32) (ld : Nat → Int32) (le : Nat → Int32) (op : Nat → Int32) (fa : Nat → Int32) (q : Int32) : Nat → Nat → Int32 × (Nat → Int32)
  | 0, i => (0, fa)
  | n + 1, i =>
    if (ex q.toNatClampNeg) ≤ (nI i) then (((-1), fa)) else (xbind (FX1_milesBy ld le op fa ((q * 4) + (nI i))) (fun r13 => if r13 = (fa q.toNatClampNeg) then (((q * 4) + (nI i), fa)) else (LX1_endTowards_t ex ld le op fa q n (i + 1))))
set_option maxHeartbeats 40000000 in
set_option maxRecDepth 100000 in
theorem lpX1_endTowards_t {pg : Program} {l : Launch} {en : Env} {s : State} {mi : MethodId} {args : Array Value} {below : List Frame} {meth : Method} {cd : Code} {w0 : va_W} {sz : Nat} {post : Int32 → (Nat → Int32) → Prop} (G : xG) (hc : xC pg s mi args meth cd cX1_endTowards 5 RX1 wsX1_endTowards (some .int) G (va_A w0 sz)) (aL : Nat) (aEx : Nat) (aSh : Nat) (aLd : Nat) (aTw : Nat) (aLe : Nat) (aOp : Nat) (aFa : Nat) (pl : Int32) (ex : Nat → Int32) (ld : Nat → Int32) (le : Nat → Int32) (op : Nat → Int32) (fa : Nat → Int32) (q : Int32) (g : Int32) (hpl : 0 ≤ pl.toInt ∧ pl.toInt ≤ 10) (hex4 : ∀ k, k < 10 → 0 ≤ (ex k).toInt ∧ (ex k).toInt ≤ 4) (hld : ∀ k, k < 40 → 0 ≤ (ld k).toInt ∧ (ld k).toInt < 10) (hq : 0 ≤ q.toInt ∧ q.toInt < 10) :
    ∀ (n i : Nat), ((i : Nat) : Int) ≤ (ex q.toNatClampNeg : Int32).toInt → (ex q.toNatClampNeg : Int32).toInt < ((i + n : Nat) : Int) → ∀ (H : Heap) (locs : List Loc) (ls : Array Slot), xW G (va_A w0 sz) s.heap [xO aL 1 [.int pl, .ref aEx, .ref aSh, .ref aLd, .ref aTw, .ref aLe, .ref aOp, .ref aFa], xAI G aEx 10 ex, xAI G aLd 40 ld, xAI G aLe 40 le, xAZ G aOp 40 op, xAI G aFa 10 fa] H locs → lv_has ls 5 [(0, .ref aL), (1, .int q), (3, .int (nI i))] → (∀ r u, (r = (LX1_endTowards_t ex ld le op fa q n i).1 ∧ u = (LX1_endTowards_t ex ld le op fa q n i).2) → post r u) → W pg l en ⟨2, 0, 0, 48⟩ s mi args below meth cd H locs 0 0 (MQ below (xQi G w0 sz post (fun u : (Nat → Int32) => [xO aL 1 [.int pl, .ref aEx, .ref aSh, .ref aLd, .ref aTw, .ref aLe, .ref aOp, .ref aFa], xAI G aEx 10 ex, xAI G aLd 40 ld, xAI G aLe 40 le, xAZ G aOp 40 op, xAI G aFa 10 u])) args s (⟨2, 0, 0, 48⟩ : Room).cells (⟨2, 0, 0, 48⟩ : Room).slots (va_A w0 sz)) (F0 mi 28 ls []) := by
  obtain ⟨hx, hb, -, hown, hts, -⟩ := id hc
  intro n
  induction n with
  | zero =>
    intro i hlo hfu
    intros; exact absurd hfu (by omega)
  | succ n ih =>
    intro i hlo hfu  H locs ls hw hl hres
    refine lv_iload_n hx hb dX1_endTowards_28 rfl (lv_at hl 2 rfl) ?_
    refine lv_aload_n hx hb dX1_endTowards_29 rfl (lv_at hl 0 rfl) ?_
    refine xget (C := RX1) (T := TX1) (N := 8) hc hw inX1_endTowards_X1 0 rfl rfl 1 (by decide) lkX1_endTowards_f9 rfl rfl dX1_endTowards_30 ?_
    refine lv_iload_n hx hb dX1_endTowards_33 rfl (lv_at hl 1 rfl) ?_
    refine xiald hc hw 1 rfl (xin hq) dX1_endTowards_34 ?_
    refine lv_icmp_ge (tgt := 69) hx hb dX1_endTowards_35 (by decide) (fun c_11 => ?_) (fun c_11 => ?_)
    · refine lv_iconst (v := (-1)) hx hb dX1_endTowards_69 (by decide) ?_
      exact xret_i fa hc hw (hres _ _ (xe2 (if_pos c_11))) ⟨Nat.le_of_ble_eq_true rfl, Nat.le_of_ble_eq_true rfl⟩ dX1_endTowards_70
    · refine lv_iload_n hx hb dX1_endTowards_38 rfl (lv_at hl 1 rfl) ?_
      refine lv_iconst (v := 4) hx hb dX1_endTowards_39 (by decide) ?_
      refine lv_imul hx hb dX1_endTowards_40 ?_
      refine lv_iload_n hx hb dX1_endTowards_41 rfl (lv_at hl 2 rfl) ?_
      refine lv_iadd hx hb dX1_endTowards_42 ?_
      refine lv_istore (lv' := [(4, .int ((q * 4) + (nI i))), (0, .ref aL), (1, .int q), (3, .int (nI i))]) hx hb dX1_endTowards_43 hl (by decide) rfl (fun ls hl => ?_)
      refine lv_aload_n hx hb dX1_endTowards_45 rfl (lv_at hl 1 rfl) ?_
      refine lv_iload hx hb dX1_endTowards_46 (lv_at hl 0 rfl) ?_
      refine xcall_i (isC := [0, 2, 3, 4, 5]) hc hw (xrunV (n := 1) (As := [.int ((q * 4) + (nI i))]) (rest := []) hc hw [0, 2, 3, 4, 5] (metX1_milesBy l G _ aL aEx aSh aLd aTw aLe aOp aFa pl ld le op fa ((q * 4) + (nI i)) hld (xq4in hq (xnIB hlo c_11 (hex4 _ (xcl hq)).2))) gX1_endTowards_X1_milesBy rfl (by decide +kernel) ⟨Nat.le_of_ble_eq_true rfl, Nat.le_of_ble_eq_true rfl⟩ 0 rfl rfl rfl rfl rfl rfl hl.1 (Nat.le_of_ble_eq_true rfl) dX1_endTowards_48 ⟨Nat.le_of_ble_eq_true rfl, Nat.le_of_ble_eq_true rfl⟩) rfl [1] [1, 0, 2, 3, 4, 5] (fun u12 => [xO aL 1 [.int pl, .ref aEx, .ref aSh, .ref aLd, .ref aTw, .ref aLe, .ref aOp, .ref aFa], xAI G aEx 10 ex, xAI G aLd 40 ld, xAI G aLe 40 le, xAZ G aOp 40 op, xAI G aFa 10 fa]) (fun _ => rfl) rfl rfl rfl rfl (fun r13 u12 H locs hp14 hw => ?_)
      refine lv_aload_n hx hb dX1_endTowards_51 rfl (lv_at hl 1 rfl) ?_
      refine xget (C := RX1) (T := TX1) (N := 8) hc hw inX1_endTowards_X1 0 rfl rfl 7 (by decide) lkX1_endTowards_f31 rfl rfl dX1_endTowards_52 ?_
      refine lv_iload_n hx hb dX1_endTowards_55 rfl (lv_at hl 2 rfl) ?_
      refine xiald hc hw 5 rfl (xin hq) dX1_endTowards_56 ?_
      refine lv_icmp_ne (tgt := 63) hx hb dX1_endTowards_57 (by decide) (fun c_16 => ?_) (fun c_16 => ?_)
      · refine lv_iinc (v := nI (i + 1)) (lv' := [(3, .int (nI (i + 1))), (4, .int ((q * 4) + (nI i))), (0, .ref aL), (1, .int q)]) hx hb dX1_endTowards_63 hl (k := 3) rfl (nI_1 _) (by decide) rfl (fun ls hl => ?_)
        refine lv_goto (tgt := 28) hx hb dX1_endTowards_66 (by decide) ?_
        exact ih (i + 1)  (xlt hlo c_11) (by omega) H locs ls hw (lv_sub hl [2, 3, 0] rfl) (fun r u e => hres r u (xtr2 (Eq.trans (if_neg c_11) (xb hp14 (if_neg c_16))) e))
      · refine lv_iload hx hb dX1_endTowards_60 (lv_at hl 0 rfl) ?_
        exact xret_i fa hc hw (hres _ _ (xe2 (Eq.trans (if_neg c_11) (xb hp14 (if_pos c_16))))) ⟨Nat.le_of_ble_eq_true rfl, Nat.le_of_ble_eq_true rfl⟩ dX1_endTowards_62
def FX1_endTowards (pl : Int32) (ex : Nat → Int32) (ld : Nat → Int32) (le : Nat → Int32) (op : Nat → Int32) (fa : Nat → Int32) (q : Int32) (g : Int32) : Int32 × (Nat → Int32) :=
  xbind (FX1_measure pl ld le op fa g) (fun u1 => xbind (FX1_isPlace pl q) (fun r6 => if r6 = 0 then (((-1), u1)) else (if (u1 q.toNatClampNeg) < 1000000 then (LX1_endTowards_t ex ld le op u1 q 5 0) else (((-1), u1)))))
set_option maxHeartbeats 40000000 in
set_option maxRecDepth 100000 in
theorem metX1_endTowards (l : Launch) (G : xG) (sz : Nat) (aL : Nat) (aEx : Nat) (aSh : Nat) (aLd : Nat) (aTw : Nat) (aLe : Nat) (aOp : Nat) (aFa : Nat) (pl : Int32) (ex : Nat → Int32) (ld : Nat → Int32) (le : Nat → Int32) (op : Nat → Int32) (fa : Nat → Int32) (q : Int32) (g : Int32) (hpl : 0 ≤ pl.toInt ∧ pl.toInt ≤ 10) (hex4 : ∀ k, k < 10 → 0 ≤ (ex k).toInt ∧ (ex k).toInt ≤ 4) (hld : ∀ k, k < 40 → 0 ≤ (ld k).toInt ∧ (ld k).toInt < 10) : xM l yX1_endTowards wsX1_endTowards ⟨2, 0, 0, 48⟩ G [.ref aL, .int q, .int g] [xO aL 1 [.int pl, .ref aEx, .ref aSh, .ref aLd, .ref aTw, .ref aLe, .ref aOp, .ref aFa], xAI G aEx 10 ex, xAI G aLd 40 ld, xAI G aLe 40 le, xAZ G aOp 40 op, xAI G aFa 10 fa] sz (xQi G [xO aL 1 [.int pl, .ref aEx, .ref aSh, .ref aLd, .ref aTw, .ref aLe, .ref aOp, .ref aFa], xAI G aEx 10 ex, xAI G aLd 40 ld, xAI G aLe 40 le, xAZ G aOp 40 op, xAI G aFa 10 fa] sz (fun (r : Int32) (u : (Nat → Int32)) => r = (FX1_endTowards pl ex ld le op fa q g).1 ∧ u = (FX1_endTowards pl ex ld le op fa q g).2) (fun u : (Nat → Int32) => [xO aL 1 [.int pl, .ref aEx, .ref aSh, .ref aLd, .ref aTw, .ref aLe, .ref aOp, .ref aFa], xAI G aEx 10 ex, xAI G aLd 40 ld, xAI G aLe 40 le, xAZ G aOp 40 op, xAI G aFa 10 u])) := by
  refine xof (own := RX1) (cc := cX1_endTowards) (maxL := 5) (ret := (some .int)) rfl (by decide) rfl (Nat.le_of_ble_eq_true rfl) ?_
  intro pg en s mi below meth cd hc hnm hw ls hl
  obtain ⟨hx, hb, -, hown, hts, -⟩ := id hc
  have hl : lv_has ls 5 [(0, .ref aL), (1, .int q), (2, .int g)] := hl
  refine lv_aload_n hx hb dX1_endTowards_0 rfl (lv_at hl 0 rfl) ?_
  refine lv_iload_n hx hb dX1_endTowards_1 rfl (lv_at hl 2 rfl) ?_
  refine xcall_v (isC := [0, 2, 3, 4, 5]) hc hw (xrunV (n := 1) (As := [.int g]) (rest := []) hc hw [0, 2, 3, 4, 5] (metX1_measure l G _ aL aEx aSh aLd aTw aLe aOp aFa pl ld le op fa g hpl hld) gX1_endTowards_X1_measure rfl (by decide +kernel) ⟨Nat.le_of_ble_eq_true rfl, Nat.le_of_ble_eq_true rfl⟩ 0 rfl rfl rfl rfl rfl rfl hl.1 (Nat.le_of_ble_eq_true rfl) dX1_endTowards_2 ⟨Nat.le_of_ble_eq_true rfl, Nat.le_of_ble_eq_true rfl⟩) rfl [1] [1, 0, 2, 3, 4, 5] (fun u1 => [xO aL 1 [.int pl, .ref aEx, .ref aSh, .ref aLd, .ref aTw, .ref aLe, .ref aOp, .ref aFa], xAI G aEx 10 ex, xAI G aLd 40 ld, xAI G aLe 40 le, xAZ G aOp 40 op, xAI G aFa 10 u1]) (fun _ => rfl) rfl rfl rfl rfl (fun u1 H locs hp3 hw => ?_)
  refine lv_aload_n hx hb dX1_endTowards_5 rfl (lv_at hl 0 rfl) ?_
  refine lv_iload_n hx hb dX1_endTowards_6 rfl (lv_at hl 1 rfl) ?_
  refine xcall_i (isC := [0]) hc hw (xrunV (n := 1) (As := [.int q]) (rest := []) hc hw [0] (metX1_isPlace l G _ aL aEx aSh aLd aTw aLe aOp aFa pl q) gX1_endTowards_X1_isPlace rfl (by decide +kernel) ⟨Nat.le_of_ble_eq_true rfl, Nat.le_of_ble_eq_true rfl⟩ 0 rfl rfl rfl rfl rfl rfl hl.1 (Nat.le_of_ble_eq_true rfl) dX1_endTowards_7 ⟨Nat.le_of_ble_eq_true rfl, Nat.le_of_ble_eq_true rfl⟩) rfl [1, 2, 3, 4, 5] [5, 0, 1, 2, 3, 4] (fun u5 => [xO aL 1 [.int pl, .ref aEx, .ref aSh, .ref aLd, .ref aTw, .ref aLe, .ref aOp, .ref aFa], xAI G aEx 10 ex, xAI G aLd 40 ld, xAI G aLe 40 le, xAZ G aOp 40 op, xAI G aFa 10 u1]) (fun _ => rfl) rfl rfl rfl rfl (fun r6 u5 H locs hp7 hw => ?_)
  refine lv_if_eq (tgt := 24) hx hb dX1_endTowards_10 (by decide) (fun c_9 => ?_) (fun c_9 => ?_)
  · refine lv_iconst (v := (-1)) hx hb dX1_endTowards_24 (by decide) ?_
    exact xret_i u1 hc hw (xe2 (xb hp3 (xb hp7 (if_pos c_9)))) ⟨Nat.le_of_ble_eq_true rfl, Nat.le_of_ble_eq_true rfl⟩ dX1_endTowards_25
  · refine lv_aload_n hx hb dX1_endTowards_13 rfl (lv_at hl 0 rfl) ?_
    refine xget (C := RX1) (T := TX1) (N := 8) hc hw inX1_endTowards_X1 0 rfl rfl 7 (by decide) lkX1_endTowards_f31 rfl rfl dX1_endTowards_14 ?_
    refine lv_iload_n hx hb dX1_endTowards_17 rfl (lv_at hl 1 rfl) ?_
    refine xiald hc hw 5 rfl (xin (pX1_isPlace10 hpl hp7 c_9)) dX1_endTowards_18 ?_
    refine xldc hc lkX1_endTowards_c63 dX1_endTowards_19 ?_
    refine lv_icmp_lt (tgt := 26) hx hb dX1_endTowards_21 (by decide) (fun c_10 => ?_) (fun c_10 => ?_)
    · refine lv_iconst (v := 0) hx hb dX1_endTowards_26 (by decide) ?_
      refine lv_istore_n (lv' := [(3, .int 0), (0, .ref aL), (1, .int q), (2, .int g)]) hx hb dX1_endTowards_27 rfl hl (by decide) rfl (fun ls hl => ?_)
      exact lpX1_endTowards_t G hc aL aEx aSh aLd aTw aLe aOp aFa pl ex ld le op u1 q g hpl hex4 hld (pX1_isPlace10 hpl hp7 c_9) 5 0 ((hex4 _ (xcl (pX1_isPlace10 hpl hp7 c_9))).1) (by have := hex4 _ (xcl (pX1_isPlace10 hpl hp7 c_9)); omega) _ _ _ hw (lv_sub hl [1, 2, 0] rfl) (fun r u e => xtr2 (xb hp3 (xb hp7 (Eq.trans (if_neg c_9) (if_pos c_10)))) e)
    · refine lv_iconst (v := (-1)) hx hb dX1_endTowards_24 (by decide) ?_
      exact xret_i u1 hc hw (xe2 (xb hp3 (xb hp7 (Eq.trans (if_neg c_9) (if_neg c_10))))) ⟨Nat.le_of_ble_eq_true rfl, Nat.le_of_ble_eq_true rfl⟩ dX1_endTowards_25
