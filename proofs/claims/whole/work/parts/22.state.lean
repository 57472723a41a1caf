theorem yq4 {q x : Int32} (hq : 0 ≤ q.toInt ∧ q.toInt < 10) (hx : 0 ≤ x.toInt ∧ x.toInt < 4) : (4 * q + x).toInt = q.toInt * 4 + x.toInt := by
  rw [Int32.mul_comm]; exact xq4 hq hx
theorem yq4in {q x : Int32} (hq : 0 ≤ q.toInt ∧ q.toInt < 10) (hx : 0 ≤ x.toInt ∧ x.toInt < 4) : 0 ≤ (4 * q + x).toInt ∧ (4 * q + x).toInt < 40 := by
  rw [Int32.mul_comm]; exact xq4in hq hx
theorem ym10 {g q : Int32} (hg : 0 ≤ g.toInt ∧ g.toInt < 10) (hq : 0 ≤ q.toInt ∧ q.toInt < 10) : (10 * g + q).toInt = g.toInt * 10 + q.toInt := by
  rw [Int32.mul_comm]; exact xm10 hg hq
theorem ym10in {g q : Int32} (hg : 0 ≤ g.toInt ∧ g.toInt < 10) (hq : 0 ≤ q.toInt ∧ q.toInt < 10) : 0 ≤ (10 * g + q).toInt ∧ (10 * g + q).toInt < 100 := by
  rw [ym10 hg hq]; omega
theorem yfz {f : Nat → Int32} {N : Nat} (h : ∀ k, k < N → f k = 0 ∨ f k = 1) (i : Nat) (hi : i < N) : fits .boolean (.int (f ((0 : Int32).toNatClampNeg + i))) = true := by
  rw [show (0 : Int32).toNatClampNeg = 0 from rfl, Nat.zero_add]
  rcases h i hi with e | e <;> rw [e] <;> rfl
def FX4_remembered (go : Int32) (xe : Nat → Int32) (q : Int32) : Int32 :=
  xe ((10 * go) + q).toNatClampNeg
set_option maxHeartbeats 40000000 in
set_option maxRecDepth 100000 in
theorem metX4_remembered (l : Launch) (G : xG) (sz : Nat) (aO : Nat) (oTr : Nat) (oAk : Nat) (oWy : Nat) (oXe : Nat) (oSg : Nat) (po : Int32) (co : Int32) (go : Int32) (ln : Int32) (wk : Int32) (db : Int32) (dn : Int32) (iv : Int32) (qs : Int32) (xe : Nat → Int32) (q : Int32) (hgo : 0 ≤ go.toInt ∧ go.toInt < 10) (hq : 0 ≤ q.toInt ∧ q.toInt < 10) : xM l yX4_remembered wsX4_remembered ⟨0, 0, 0, 0⟩ G [.ref aO, .int q] [xO aO 4 [.int po, .int co, .int go, .ref oTr, .ref oAk, .ref oWy, .int ln, .ref oXe, .ref oSg, .int wk, .int db, .int dn, .int iv, .int qs], xAI G oXe 100 xe] sz (xQi G [xO aO 4 [.int po, .int co, .int go, .ref oTr, .ref oAk, .ref oWy, .int ln, .ref oXe, .ref oSg, .int wk, .int db, .int dn, .int iv, .int qs], xAI G oXe 100 xe] sz (fun (r : Int32) (_ : Unit) => r = FX4_remembered go xe q) (fun u : Unit => [xO aO 4 [.int po, .int co, .int go, .ref oTr, .ref oAk, .ref oWy, .int ln, .ref oXe, .ref oSg, .int wk, .int db, .int dn, .int iv, .int qs], xAI G oXe 100 xe])) := by
  refine xof (own := RX4) (cc := cX4_remembered) (maxL := 2) (ret := (some .int)) rfl (by decide) rfl (Nat.le_of_ble_eq_true rfl) ?_
  intro pg en s mi below meth cd hc hnm hw ls hl
  obtain ⟨hx, hb, -, hown, hts, -⟩ := id hc
  have hl : lv_has ls 2 [(0, .ref aO), (1, .int q)] := hl
  refine lv_aload_n hx hb dX4_remembered_0 rfl (lv_at hl 0 rfl) ?_
  refine xget (C := RX4) (T := TX4) (N := 14) hc hw inX4_remembered_X4 0 rfl rfl 7 (by decide) lkX4_remembered_f29 rfl rfl dX4_remembered_1 ?_
  refine lv_bipush (v := 10) hx hb dX4_remembered_4 (by decide) ?_
  refine lv_aload_n hx hb dX4_remembered_6 rfl (lv_at hl 0 rfl) ?_
  refine xget (C := RX4) (T := TX4) (N := 14) hc hw inX4_remembered_X4 0 rfl rfl 2 (by decide) lkX4_remembered_f15 rfl rfl dX4_remembered_7 ?_
  refine lv_imul hx hb dX4_remembered_10 ?_
  refine lv_iload_n hx hb dX4_remembered_11 rfl (lv_at hl 1 rfl) ?_
  refine lv_iadd hx hb dX4_remembered_12 ?_
  refine xiald hc hw 1 rfl (xin (ym10in hgo hq)) dX4_remembered_13 ?_
  exact xret_i () hc hw (Eq.symm rfl) ⟨Nat.le_of_ble_eq_true rfl, Nat.le_of_ble_eq_true rfl⟩ dX4_remembered_14
def FX4_remember (go : Int32) (xe : Nat → Int32) (sg : Nat → Int32) (q : Int32) (x : Int32) (w : Int32) : (Nat → Int32) × (Nat → Int32) :=
  (upd xe ((10 * go) + q).toNatClampNeg x, upd sg ((10 * go) + q).toNatClampNeg w)
set_option maxHeartbeats 40000000 in
set_option maxRecDepth 100000 in
theorem metX4_remember (l : Launch) (G : xG) (sz : Nat) (aO : Nat) (oTr : Nat) (oAk : Nat) (oWy : Nat) (oXe : Nat) (oSg : Nat) (po : Int32) (co : Int32) (go : Int32) (ln : Int32) (wk : Int32) (db : Int32) (dn : Int32) (iv : Int32) (qs : Int32) (xe : Nat → Int32) (sg : Nat → Int32) (q : Int32) (x : Int32) (w : Int32) (hgo : 0 ≤ go.toInt ∧ go.toInt < 10) (hq : 0 ≤ q.toInt ∧ q.toInt < 10) : xM l yX4_remember wsX4_remember ⟨0, 0, 0, 0⟩ G [.ref aO, .int q, .int x, .int w] [xO aO 4 [.int po, .int co, .int go, .ref oTr, .ref oAk, .ref oWy, .int ln, .ref oXe, .ref oSg, .int wk, .int db, .int dn, .int iv, .int qs], xAI G oXe 100 xe, xAI G oSg 100 sg] sz (xQv G [xO aO 4 [.int po, .int co, .int go, .ref oTr, .ref oAk, .ref oWy, .int ln, .ref oXe, .ref oSg, .int wk, .int db, .int dn, .int iv, .int qs], xAI G oXe 100 xe, xAI G oSg 100 sg] sz (fun (u : (Nat → Int32) × (Nat → Int32)) => u = FX4_remember go xe sg q x w) (fun u : (Nat → Int32) × (Nat → Int32) => [xO aO 4 [.int po, .int co, .int go, .ref oTr, .ref oAk, .ref oWy, .int ln, .ref oXe, .ref oSg, .int wk, .int db, .int dn, .int iv, .int qs], xAI G oXe 100 u.1, xAI G oSg 100 u.2])) := by
  refine xof (own := RX4) (cc := cX4_remember) (maxL := 4) (ret := none) rfl (by decide) rfl (Nat.le_of_ble_eq_true rfl) ?_
  intro pg en s mi below meth cd hc hnm hw ls hl
  obtain ⟨hx, hb, -, hown, hts, -⟩ := id hc
  have hl : lv_has ls 4 [(0, .ref aO), (1, .int q), (2, .int x), (3, .int w)] := hl
  refine lv_aload_n hx hb dX4_remember_0 rfl (lv_at hl 0 rfl) ?_
  refine xget (C := RX4) (T := TX4) (N := 14) hc hw inX4_remember_X4 0 rfl rfl 7 (by decide) lkX4_remember_f29 rfl rfl dX4_remember_1 ?_
  refine lv_bipush (v := 10) hx hb dX4_remember_4 (by decide) ?_
  refine lv_aload_n hx hb dX4_remember_6 rfl (lv_at hl 0 rfl) ?_
  refine xget (C := RX4) (T := TX4) (N := 14) hc hw inX4_remember_X4 0 rfl rfl 2 (by decide) lkX4_remember_f15 rfl rfl dX4_remember_7 ?_
  refine lv_imul hx hb dX4_remember_10 ?_
  refine lv_iload_n hx hb dX4_remember_11 rfl (lv_at hl 1 rfl) ?_
  refine lv_iadd hx hb dX4_remember_12 ?_
  refine lv_iload_n hx hb dX4_remember_13 rfl (lv_at hl 2 rfl) ?_
  refine xiast hc hw 1 [xO aO 4 [.int po, .int co, .int go, .ref oTr, .ref oAk, .ref oWy, .int ln, .ref oXe, .ref oSg, .int wk, .int db, .int dn, .int iv, .int qs], xAI G oXe 100 (upd xe ((10 * go) + q).toNatClampNeg x), xAI G oSg 100 sg] rfl (xin (ym10in hgo hq)) rfl dX4_remember_14 (fun H locs hw => ?_)
  refine lv_aload_n hx hb dX4_remember_15 rfl (lv_at hl 0 rfl) ?_
  refine xget (C := RX4) (T := TX4) (N := 14) hc hw inX4_remember_X4 0 rfl rfl 8 (by decide) lkX4_remember_f32 rfl rfl dX4_remember_16 ?_
  refine lv_bipush (v := 10) hx hb dX4_remember_19 (by decide) ?_
  refine lv_aload_n hx hb dX4_remember_21 rfl (lv_at hl 0 rfl) ?_
  refine xget (C := RX4) (T := TX4) (N := 14) hc hw inX4_remember_X4 0 rfl rfl 2 (by decide) lkX4_remember_f15 rfl rfl dX4_remember_22 ?_
  refine lv_imul hx hb dX4_remember_25 ?_
  refine lv_iload_n hx hb dX4_remember_26 rfl (lv_at hl 1 rfl) ?_
  refine lv_iadd hx hb dX4_remember_27 ?_
  refine lv_iload_n hx hb dX4_remember_28 rfl (lv_at hl 3 rfl) ?_
  refine xiast hc hw 2 [xO aO 4 [.int po, .int co, .int go, .ref oTr, .ref oAk, .ref oWy, .int ln, .ref oXe, .ref oSg, .int wk, .int db, .int dn, .int iv, .int qs], xAI G oXe 100 (upd xe ((10 * go) + q).toNatClampNeg x), xAI G oSg 100 (upd sg ((10 * go) + q).toNatClampNeg w)] rfl (xin (ym10in hgo hq)) rfl dX4_remember_29 (fun H locs hw => ?_)
  obtain ⟨u0, hu0⟩ : ∃ z : (Nat → Int32) × (Nat → Int32), z = (upd xe ((10 * go) + q).toNatClampNeg x, upd sg ((10 * go) + q).toNatClampNeg w) := ⟨_, rfl⟩
  refine xret_v u0 hc ?_ ?_ ⟨Nat.le_of_ble_eq_true rfl, Nat.le_of_ble_eq_true rfl⟩ dX4_remember_30
  · subst hu0; dsimp only; exact hw
  · subst hu0; exact Eq.symm rfl
def LX4_begin_a : Nat → Nat → (Nat → Int32) → (Nat → Int32)
  | 0, i, tr => tr
  | n + 1, i, tr =>
    if 20 ≤ (nI i) then (tr) else (LX4_begin_a n (i + 1) (upd tr (nI i).toNatClampNeg 0))
set_option maxHeartbeats 40000000 in
set_option maxRecDepth 100000 in
theorem lpX4_begin_a {pg : Program} {l : Launch} {en : Env} {s : State} {mi : MethodId} {args : Array Value} {below : List Frame} {meth : Method} {cd : Code} {A : Nat → Prop} {Q : State → Prop} (G : xG) (hc : xC pg s mi args meth cd cX4_begin 3 RX4 wsX4_begin none G A) (aO : Nat) (oTr : Nat) (oAk : Nat) (oWy : Nat) (oXe : Nat) (oSg : Nat) (po : Int32) (co : Int32) (go : Int32) (ln : Int32) (wk : Int32) (db : Int32) (dn : Int32) (iv : Int32) (qs : Int32) (ak : Nat → Int32) (g : Int32) :
    ∀ (n i : Nat) (tr : Nat → Int32), ((i : Nat) : Int) ≤ (20 : Int32).toInt → (20 : Int32).toInt < ((i + n : Nat) : Int) → ∀ (H : Heap) (locs : List Loc) (ls : Array Slot), xW G A s.heap [xO aO 4 [.int po, .int co, .int go, .ref oTr, .ref oAk, .ref oWy, .int ln, .ref oXe, .ref oSg, .int wk, .int db, .int dn, .int iv, .int qs], xAZ G oTr 20 tr, xAZ G oAk 10 ak] H locs → lv_has ls 3 [(0, .ref aO), (1, .int g), (2, .int (nI i))] → (∀ (z : (Nat → Int32)), z = LX4_begin_a n i tr → ∀ (H1 : Heap) (locs1 : List Loc) (ls1 : Array Slot), xW G A s.heap [xO aO 4 [.int po, .int co, .int go, .ref oTr, .ref oAk, .ref oWy, .int ln, .ref oXe, .ref oSg, .int wk, .int db, .int dn, .int iv, .int qs], xAZ G oTr 20 z, xAZ G oAk 10 ak] H1 locs1 → lv_has ls1 3 [(0, .ref aO), (1, .int g)] → W pg l en ⟨0, 0, 0, 0⟩ s mi args below meth cd H1 locs1 0 0 Q (F0 mi 31 ls1 [])) → W pg l en ⟨0, 0, 0, 0⟩ s mi args below meth cd H locs 0 0 Q (F0 mi 12 ls []) := by
  obtain ⟨hx, hb, -, hown, hts, -⟩ := id hc
  intro n
  induction n with
  | zero =>
    intro i tr hlo hfu
    intros; exact absurd hfu (by omega)
  | succ n ih =>
    intro i tr hlo hfu  H locs ls hw hl K
    refine lv_iload_n hx hb dX4_begin_12 rfl (lv_at hl 2 rfl) ?_
    refine lv_bipush (v := 20) hx hb dX4_begin_13 (by decide) ?_
    refine lv_icmp_ge (tgt := 31) hx hb dX4_begin_15 (by decide) (fun c_1 => ?_) (fun c_1 => ?_)
    · exact K tr (Eq.symm (if_pos c_1)) H locs ls hw (lv_sub hl [0, 1] rfl)
    · refine lv_aload_n hx hb dX4_begin_18 rfl (lv_at hl 0 rfl) ?_
      refine xget (C := RX4) (T := TX4) (N := 14) hc hw inX4_begin_X4 0 rfl rfl 3 (by decide) lkX4_begin_f18 rfl rfl dX4_begin_19 ?_
      refine lv_iload_n hx hb dX4_begin_22 rfl (lv_at hl 2 rfl) ?_
      refine lv_iconst (v := 0) hx hb dX4_begin_23 (by decide) ?_
      refine xzast hc hw 1 [xO aO 4 [.int po, .int co, .int go, .ref oTr, .ref oAk, .ref oWy, .int ln, .ref oXe, .ref oSg, .int wk, .int db, .int dn, .int iv, .int qs], xAZ G oTr 20 (upd tr (nI i).toNatClampNeg 0), xAZ G oAk 10 ak] rfl (xinB hlo c_1 (by decide)) rfl rfl dX4_begin_24 (fun H locs hw => ?_)
      refine lv_iinc (v := nI (i + 1)) (lv' := [(2, .int (nI (i + 1))), (0, .ref aO), (1, .int g)]) hx hb dX4_begin_25 hl (k := 2) rfl (nI_1 _) (by decide) rfl (fun ls hl => ?_)
      refine lv_goto (tgt := 12) hx hb dX4_begin_28 (by decide) ?_
      exact ih (i + 1) (upd tr (nI i).toNatClampNeg 0) (xlt hlo c_1) (by omega) H locs ls hw (lv_sub hl [1, 2, 0] rfl) (fun z e => K z (xtr1 (if_neg c_1) e))
def LX4_begin_b : Nat → Nat → (Nat → Int32) → (Nat → Int32)
  | 0, i, ak => ak
  | n + 1, i, ak =>
    if 10 ≤ (nI i) then (ak) else (LX4_begin_b n (i + 1) (upd ak (nI i).toNatClampNeg 0))
set_option maxHeartbeats 40000000 in
set_option maxRecDepth 100000 in
theorem lpX4_begin_b {pg : Program} {l : Launch} {en : Env} {s : State} {mi : MethodId} {args : Array Value} {below : List Frame} {meth : Method} {cd : Code} {A : Nat → Prop} {Q : State → Prop} (G : xG) (hc : xC pg s mi args meth cd cX4_begin 3 RX4 wsX4_begin none G A) (aO : Nat) (oTr : Nat) (oAk : Nat) (oWy : Nat) (oXe : Nat) (oSg : Nat) (po : Int32) (co : Int32) (go : Int32) (ln : Int32) (wk : Int32) (db : Int32) (dn : Int32) (iv : Int32) (qs : Int32) (tr : Nat → Int32) (g : Int32) :
    ∀ (n i : Nat) (ak : Nat → Int32), ((i : Nat) : Int) ≤ (10 : Int32).toInt → (10 : Int32).toInt < ((i + n : Nat) : Int) → ∀ (H : Heap) (locs : List Loc) (ls : Array Slot), xW G A s.heap [xO aO 4 [.int po, .int co, .int go, .ref oTr, .ref oAk, .ref oWy, .int ln, .ref oXe, .ref oSg, .int wk, .int db, .int dn, .int iv, .int qs], xAZ G oTr 20 tr, xAZ G oAk 10 ak] H locs → lv_has ls 3 [(0, .ref aO), (1, .int g), (2, .int (nI i))] → (∀ (z : (Nat → Int32)), z = LX4_begin_b n i ak → ∀ (H1 : Heap) (locs1 : List Loc) (ls1 : Array Slot), xW G A s.heap [xO aO 4 [.int po, .int co, .int go, .ref oTr, .ref oAk, .ref oWy, .int ln, .ref oXe, .ref oSg, .int wk, .int db, .int dn, .int iv, .int qs], xAZ G oTr 20 tr, xAZ G oAk 10 z] H1 locs1 → lv_has ls1 3 [(0, .ref aO), (1, .int g)] → W pg l en ⟨0, 0, 0, 0⟩ s mi args below meth cd H1 locs1 0 0 Q (F0 mi 52 ls1 [])) → W pg l en ⟨0, 0, 0, 0⟩ s mi args below meth cd H locs 0 0 Q (F0 mi 33 ls []) := by
  obtain ⟨hx, hb, -, hown, hts, -⟩ := id hc
  intro n
  induction n with
  | zero =>
    intro i ak hlo hfu
    intros; exact absurd hfu (by omega)
  | succ n ih =>
    intro i ak hlo hfu  H locs ls hw hl K
    refine lv_iload_n hx hb dX4_begin_33 rfl (lv_at hl 2 rfl) ?_
    refine lv_bipush (v := 10) hx hb dX4_begin_34 (by decide) ?_
    refine lv_icmp_ge (tgt := 52) hx hb dX4_begin_36 (by decide) (fun c_4 => ?_) (fun c_4 => ?_)
    · exact K ak (Eq.symm (if_pos c_4)) H locs ls hw (lv_sub hl [0, 1] rfl)
    · refine lv_aload_n hx hb dX4_begin_39 rfl (lv_at hl 0 rfl) ?_
      refine xget (C := RX4) (T := TX4) (N := 14) hc hw inX4_begin_X4 0 rfl rfl 4 (by decide) lkX4_begin_f22 rfl rfl dX4_begin_40 ?_
      refine lv_iload_n hx hb dX4_begin_43 rfl (lv_at hl 2 rfl) ?_
      refine lv_iconst (v := 0) hx hb dX4_begin_44 (by decide) ?_
      refine xzast hc hw 2 [xO aO 4 [.int po, .int co, .int go, .ref oTr, .ref oAk, .ref oWy, .int ln, .ref oXe, .ref oSg, .int wk, .int db, .int dn, .int iv, .int qs], xAZ G oTr 20 tr, xAZ G oAk 10 (upd ak (nI i).toNatClampNeg 0)] rfl (xinB hlo c_4 (by decide)) rfl rfl dX4_begin_45 (fun H locs hw => ?_)
      refine lv_iinc (v := nI (i + 1)) (lv' := [(2, .int (nI (i + 1))), (0, .ref aO), (1, .int g)]) hx hb dX4_begin_46 hl (k := 2) rfl (nI_1 _) (by decide) rfl (fun ls hl => ?_)
      refine lv_goto (tgt := 33) hx hb dX4_begin_49 (by decide) ?_
      exact ih (i + 1) (upd ak (nI i).toNatClampNeg 0) (xlt hlo c_4) (by omega) H locs ls hw (lv_sub hl [1, 2, 0] rfl) (fun z e => K z (xtr1 (if_neg c_4) e))
def FX4_begin (tr : Nat → Int32) (ak : Nat → Int32) (g : Int32) : (Int32) × (Int32) × (Nat → Int32) × (Nat → Int32) :=
  xbind (LX4_begin_a 21 0 tr) (fun z2 => xbind (LX4_begin_b 11 0 ak) (fun z5 => (g, 0, z2, z5)))
set_option maxHeartbeats 40000000 in
set_option maxRecDepth 100000 in
theorem metX4_begin (l : Launch) (G : xG) (sz : Nat) (aO : Nat) (oTr : Nat) (oAk : Nat) (oWy : Nat) (oXe : Nat) (oSg : Nat) (po : Int32) (co : Int32) (go : Int32) (ln : Int32) (wk : Int32) (db : Int32) (dn : Int32) (iv : Int32) (qs : Int32) (tr : Nat → Int32) (ak : Nat → Int32) (g : Int32) : xM l yX4_begin wsX4_begin ⟨0, 0, 0, 0⟩ G [.ref aO, .int g] [xO aO 4 [.int po, .int co, .int go, .ref oTr, .ref oAk, .ref oWy, .int ln, .ref oXe, .ref oSg, .int wk, .int db, .int dn, .int iv, .int qs], xAZ G oTr 20 tr, xAZ G oAk 10 ak] sz (xQv G [xO aO 4 [.int po, .int co, .int go, .ref oTr, .ref oAk, .ref oWy, .int ln, .ref oXe, .ref oSg, .int wk, .int db, .int dn, .int iv, .int qs], xAZ G oTr 20 tr, xAZ G oAk 10 ak] sz (fun (u : (Int32) × (Int32) × (Nat → Int32) × (Nat → Int32)) => u = FX4_begin tr ak g) (fun u : (Int32) × (Int32) × (Nat → Int32) × (Nat → Int32) => [xO aO 4 [.int po, .int co, .int u.1, .ref oTr, .ref oAk, .ref oWy, .int u.2.1, .ref oXe, .ref oSg, .int wk, .int db, .int dn, .int iv, .int qs], xAZ G oTr 20 u.2.2.1, xAZ G oAk 10 u.2.2.2])) := by
  refine xof (own := RX4) (cc := cX4_begin) (maxL := 3) (ret := none) rfl (by decide) rfl (Nat.le_of_ble_eq_true rfl) ?_
  intro pg en s mi below meth cd hc hnm hw ls hl
  obtain ⟨hx, hb, -, hown, hts, -⟩ := id hc
  have hl : lv_has ls 3 [(0, .ref aO), (1, .int g)] := hl
  refine lv_aload_n hx hb dX4_begin_0 rfl (lv_at hl 0 rfl) ?_
  refine lv_iload_n hx hb dX4_begin_1 rfl (lv_at hl 1 rfl) ?_
  refine xput (C := RX4) (T := TX4) (N := 14) (ty := .int) hc hw inX4_begin_X4 tyX4 tyX4_ok nmX4 0 [xO aO 4 [.int po, .int co, .int g, .ref oTr, .ref oAk, .ref oWy, .int ln, .ref oXe, .ref oSg, .int wk, .int db, .int dn, .int iv, .int qs], xAZ G oTr 20 tr, xAZ G oAk 10 ak] rfl rfl 2 (by decide) lkX4_begin_f15 rfl rfl rfl rfl (Nat.le_of_ble_eq_true rfl) rfl dX4_begin_2 (fun H locs hw => ?_)
  refine lv_aload_n hx hb dX4_begin_5 rfl (lv_at hl 0 rfl) ?_
  refine lv_iconst (v := 0) hx hb dX4_begin_6 (by decide) ?_
  refine xput (C := RX4) (T := TX4) (N := 14) (ty := .int) hc hw inX4_begin_X4 tyX4 tyX4_ok nmX4 0 [xO aO 4 [.int po, .int co, .int g, .ref oTr, .ref oAk, .ref oWy, .int 0, .ref oXe, .ref oSg, .int wk, .int db, .int dn, .int iv, .int qs], xAZ G oTr 20 tr, xAZ G oAk 10 ak] rfl rfl 6 (by decide) lkX4_begin_f38 rfl rfl rfl rfl (Nat.le_of_ble_eq_true rfl) rfl dX4_begin_7 (fun H locs hw => ?_)
  refine lv_iconst (v := 0) hx hb dX4_begin_10 (by decide) ?_
  refine lv_istore_n (lv' := [(2, .int 0), (0, .ref aO), (1, .int g)]) hx hb dX4_begin_11 rfl hl (by decide) rfl (fun ls hl => ?_)
  refine lpX4_begin_a G hc aO oTr oAk oWy oXe oSg po co g 0 wk db dn iv qs ak g 21 0 tr (by decide) (by decide) _ _ _ hw (lv_sub hl [1, 2, 0] rfl) (fun z2 ek3 H locs ls hw hl => ?_)
  refine lv_iconst (v := 0) hx hb dX4_begin_31 (by decide) ?_
  refine lv_istore_n (lv' := [(2, .int 0), (0, .ref aO), (1, .int g)]) hx hb dX4_begin_32 rfl hl (by decide) rfl (fun ls hl => ?_)
  refine lpX4_begin_b G hc aO oTr oAk oWy oXe oSg po co g 0 wk db dn iv qs z2 g 11 0 ak (by decide) (by decide) _ _ _ hw (lv_sub hl [1, 2, 0] rfl) (fun z5 ek6 H locs ls hw hl => ?_)
  obtain ⟨u0, hu0⟩ : ∃ z : (Int32) × (Int32) × (Nat → Int32) × (Nat → Int32), z = (g, 0, z2, z5) := ⟨_, rfl⟩
  refine xret_v u0 hc ?_ ?_ ⟨Nat.le_of_ble_eq_true rfl, Nat.le_of_ble_eq_true rfl⟩ dX4_begin_52
  · subst hu0; dsimp only; exact hw
  · subst hu0; exact Eq.symm (xb ek3 (xb ek6 rfl))
def FX4_end (tr : Nat → Int32) (ak : Nat → Int32) : (Int32) × (Int32) × (Nat → Int32) × (Nat → Int32) :=
  xbind (FX4_begin tr ak (-1)) (fun u1 => (u1.1, u1.2.1, u1.2.2.1, u1.2.2.2))
set_option maxHeartbeats 40000000 in
set_option maxRecDepth 100000 in
theorem metX4_end (l : Launch) (G : xG) (sz : Nat) (aO : Nat) (oTr : Nat) (oAk : Nat) (oWy : Nat) (oXe : Nat) (oSg : Nat) (po : Int32) (co : Int32) (go : Int32) (ln : Int32) (wk : Int32) (db : Int32) (dn : Int32) (iv : Int32) (qs : Int32) (tr : Nat → Int32) (ak : Nat → Int32) : xM l yX4_end wsX4_end ⟨1, 0, 0, 22⟩ G [.ref aO] [xO aO 4 [.int po, .int co, .int go, .ref oTr, .ref oAk, .ref oWy, .int ln, .ref oXe, .ref oSg, .int wk, .int db, .int dn, .int iv, .int qs], xAZ G oTr 20 tr, xAZ G oAk 10 ak] sz (xQv G [xO aO 4 [.int po, .int co, .int go, .ref oTr, .ref oAk, .ref oWy, .int ln, .ref oXe, .ref oSg, .int wk, .int db, .int dn, .int iv, .int qs], xAZ G oTr 20 tr, xAZ G oAk 10 ak] sz (fun (u : (Int32) × (Int32) × (Nat → Int32) × (Nat → Int32)) => u = FX4_end tr ak) (fun u : (Int32) × (Int32) × (Nat → Int32) × (Nat → Int32) => [xO aO 4 [.int po, .int co, .int u.1, .ref oTr, .ref oAk, .ref oWy, .int u.2.1, .ref oXe, .ref oSg, .int wk, .int db, .int dn, .int iv, .int qs], xAZ G oTr 20 u.2.2.1, xAZ G oAk 10 u.2.2.2])) := by
  refine xof (own := RX4) (cc := cX4_end) (maxL := 1) (ret := none) rfl (by decide) rfl (Nat.le_of_ble_eq_true rfl) ?_
  intro pg en s mi below meth cd hc hnm hw ls hl
  obtain ⟨hx, hb, -, hown, hts, -⟩ := id hc
  have hl : lv_has ls 1 [(0, .ref aO)] := hl
  refine lv_aload_n hx hb dX4_end_0 rfl (lv_at hl 0 rfl) ?_
  refine lv_iconst (v := (-1)) hx hb dX4_end_1 (by decide) ?_
  refine xcall_v (isC := [0, 1, 2]) hc hw (xrunV (n := 1) (As := [.int (-1)]) (rest := []) hc hw [0, 1, 2] (metX4_begin l G _ aO oTr oAk oWy oXe oSg po co go ln wk db dn iv qs tr ak (-1)) gX4_end_X4_begin rfl (by decide +kernel) ⟨Nat.le_of_ble_eq_true rfl, Nat.le_of_ble_eq_true rfl⟩ 0 rfl rfl rfl rfl rfl rfl hl.1 (Nat.le_of_ble_eq_true rfl) dX4_end_2 ⟨Nat.le_of_ble_eq_true rfl, Nat.le_of_ble_eq_true rfl⟩) rfl [] [0, 1, 2] (fun u1 => [xO aO 4 [.int po, .int co, .int u1.1, .ref oTr, .ref oAk, .ref oWy, .int u1.2.1, .ref oXe, .ref oSg, .int wk, .int db, .int dn, .int iv, .int qs], xAZ G oTr 20 u1.2.2.1, xAZ G oAk 10 u1.2.2.2]) (fun _ => rfl) rfl rfl rfl rfl (fun u1 H locs hp3 hw => ?_)
  obtain ⟨u0, hu0⟩ : ∃ z : (Int32) × (Int32) × (Nat → Int32) × (Nat → Int32), z = (u1.1, u1.2.1, u1.2.2.1, u1.2.2.2) := ⟨_, rfl⟩
  refine xret_v u0 hc ?_ ?_ ⟨Nat.le_of_ble_eq_true rfl, Nat.le_of_ble_eq_true rfl⟩ dX4_end_5
  · subst hu0; dsimp only; exact hw
  · subst hu0; exact Eq.symm (xb hp3 rfl)
def FX4_become (tr : Nat → Int32) (ak : Nat → Int32) (wy : Nat → Int32) (xe : Nat → Int32) (sg : Nat → Int32) (vpo : Int32) (vco : Int32) (vgo : Int32) (vln : Int32) (vwk : Int32) (vdb : Int32) (vdn : Int32) (viv : Int32) (vqs : Int32) (vtr : Nat → Int32) (vak : Nat → Int32) (vwy : Nat → Int32) (vxe : Nat → Int32) (vsg : Nat → Int32) : (Int32) × (Int32) × (Int32) × (Int32) × (Int32) × (Int32) × (Int32) × (Int32) × (Int32) × (Nat → Int32) × (Nat → Int32) × (Nat → Int32) × (Nat → Int32) × (Nat → Int32) :=
  (vpo, vco, vgo, vln, vwk, vdb, vdn, viv, vqs, va_cpy vtr tr 0 0 20, va_cpy vak ak 0 0 10, va_cpy vwy wy 0 0 40, va_cpy vxe xe 0 0 100, va_cpy vsg sg 0 0 100)
set_option maxHeartbeats 40000000 in
set_option maxRecDepth 100000 in
theorem metX4_become (l : Launch) (G : xG) (sz : Nat) (aO : Nat) (oTr : Nat) (oAk : Nat) (oWy : Nat) (oXe : Nat) (oSg : Nat) (aV : Nat) (vTr : Nat) (vAk : Nat) (vWy : Nat) (vXe : Nat) (vSg : Nat) (po : Int32) (co : Int32) (go : Int32) (ln : Int32) (wk : Int32) (db : Int32) (dn : Int32) (iv : Int32) (qs : Int32) (tr : Nat → Int32) (ak : Nat → Int32) (wy : Nat → Int32) (xe : Nat → Int32) (sg : Nat → Int32) (vpo : Int32) (vco : Int32) (vgo : Int32) (vln : Int32) (vwk : Int32) (vdb : Int32) (vdn : Int32) (viv : Int32) (vqs : Int32) (vtr : Nat → Int32) (vak : Nat → Int32) (vwy : Nat → Int32) (vxe : Nat → Int32) (vsg : Nat → Int32) (hvtr : ∀ k, k < 20 → vtr k = 0 ∨ vtr k = 1) (hvak : ∀ k, k < 10 → vak k = 0 ∨ vak k = 1) : xM l yX4_become wsX4_become ⟨1, 0, 0, 60⟩ G [.ref aO, .ref aV] [xO aO 4 [.int po, .int co, .int go, .ref oTr, .ref oAk, .ref oWy, .int ln, .ref oXe, .ref oSg, .int wk, .int db, .int dn, .int iv, .int qs], xAZ G oTr 20 tr, xAZ G oAk 10 ak, xAI G oWy 40 wy, xAI G oXe 100 xe, xAI G oSg 100 sg, xO aV 4 [.int vpo, .int vco, .int vgo, .ref vTr, .ref vAk, .ref vWy, .int vln, .ref vXe, .ref vSg, .int vwk, .int vdb, .int vdn, .int viv, .int vqs], xAZ G vTr 20 vtr, xAZ G vAk 10 vak, xAI G vWy 40 vwy, xAI G vXe 100 vxe, xAI G vSg 100 vsg] sz (xQv G [xO aO 4 [.int po, .int co, .int go, .ref oTr, .ref oAk, .ref oWy, .int ln, .ref oXe, .ref oSg, .int wk, .int db, .int dn, .int iv, .int qs], xAZ G oTr 20 tr, xAZ G oAk 10 ak, xAI G oWy 40 wy, xAI G oXe 100 xe, xAI G oSg 100 sg, xO aV 4 [.int vpo, .int vco, .int vgo, .ref vTr, .ref vAk, .ref vWy, .int vln, .ref vXe, .ref vSg, .int vwk, .int vdb, .int vdn, .int viv, .int vqs], xAZ G vTr 20 vtr, xAZ G vAk 10 vak, xAI G vWy 40 vwy, xAI G vXe 100 vxe, xAI G vSg 100 vsg] sz (fun (u : (Int32) × (Int32) × (Int32) × (Int32) × (Int32) × (Int32) × (Int32) × (Int32) × (Int32) × (Nat → Int32) × (Nat → Int32) × (Nat → Int32) × (Nat → Int32) × (Nat → Int32)) => u = FX4_become tr ak wy xe sg vpo vco vgo vln vwk vdb vdn viv vqs vtr vak vwy vxe vsg) (fun u : (Int32) × (Int32) × (Int32) × (Int32) × (Int32) × (Int32) × (Int32) × (Int32) × (Int32) × (Nat → Int32) × (Nat → Int32) × (Nat → Int32) × (Nat → Int32) × (Nat → Int32) => [xO aO 4 [.int u.1, .int u.2.1, .int u.2.2.1, .ref oTr, .ref oAk, .ref oWy, .int u.2.2.2.1, .ref oXe, .ref oSg, .int u.2.2.2.2.1, .int u.2.2.2.2.2.1, .int u.2.2.2.2.2.2.1, .int u.2.2.2.2.2.2.2.1, .int u.2.2.2.2.2.2.2.2.1], xAZ G oTr 20 u.2.2.2.2.2.2.2.2.2.1, xAZ G oAk 10 u.2.2.2.2.2.2.2.2.2.2.1, xAI G oWy 40 u.2.2.2.2.2.2.2.2.2.2.2.1, xAI G oXe 100 u.2.2.2.2.2.2.2.2.2.2.2.2.1, xAI G oSg 100 u.2.2.2.2.2.2.2.2.2.2.2.2.2, xO aV 4 [.int vpo, .int vco, .int vgo, .ref vTr, .ref vAk, .ref vWy, .int vln, .ref vXe, .ref vSg, .int vwk, .int vdb, .int vdn, .int viv, .int vqs], xAZ G vTr 20 vtr, xAZ G vAk 10 vak, xAI G vWy 40 vwy, xAI G vXe 100 vxe, xAI G vSg 100 vsg])) := by
  refine xof (own := RX4) (cc := cX4_become) (maxL := 2) (ret := none) rfl (by decide) rfl (Nat.le_of_ble_eq_true rfl) ?_
  intro pg en s mi below meth cd hc hnm hw ls hl
  obtain ⟨hx, hb, -, hown, hts, -⟩ := id hc
  have hl : lv_has ls 2 [(0, .ref aO), (1, .ref aV)] := hl
  refine lv_aload_n hx hb dX4_become_0 rfl (lv_at hl 0 rfl) ?_
  refine lv_aload_n hx hb dX4_become_1 rfl (lv_at hl 1 rfl) ?_
  refine xget (C := RX4) (T := TX4) (N := 14) hc hw inX4_become_X4 6 rfl rfl 0 (by decide) lkX4_become_f9 rfl rfl dX4_become_2 ?_
  refine xput (C := RX4) (T := TX4) (N := 14) (ty := .int) hc hw inX4_become_X4 tyX4 tyX4_ok nmX4 0 [xO aO 4 [.int vpo, .int co, .int go, .ref oTr, .ref oAk, .ref oWy, .int ln, .ref oXe, .ref oSg, .int wk, .int db, .int dn, .int iv, .int qs], xAZ G oTr 20 tr, xAZ G oAk 10 ak, xAI G oWy 40 wy, xAI G oXe 100 xe, xAI G oSg 100 sg, xO aV 4 [.int vpo, .int vco, .int vgo, .ref vTr, .ref vAk, .ref vWy, .int vln, .ref vXe, .ref vSg, .int vwk, .int vdb, .int vdn, .int viv, .int vqs], xAZ G vTr 20 vtr, xAZ G vAk 10 vak, xAI G vWy 40 vwy, xAI G vXe 100 vxe, xAI G vSg 100 vsg] rfl rfl 0 (by decide) lkX4_become_f9 rfl rfl rfl rfl (Nat.le_of_ble_eq_true rfl) rfl dX4_become_5 (fun H locs hw => ?_)
  refine lv_aload_n hx hb dX4_become_8 rfl (lv_at hl 0 rfl) ?_
  refine lv_aload_n hx hb dX4_become_9 rfl (lv_at hl 1 rfl) ?_
  refine xget (C := RX4) (T := TX4) (N := 14) hc hw inX4_become_X4 6 rfl rfl 1 (by decide) lkX4_become_f35 rfl rfl dX4_become_10 ?_
  refine xput (C := RX4) (T := TX4) (N := 14) (ty := .int) hc hw inX4_become_X4 tyX4 tyX4_ok nmX4 0 [xO aO 4 [.int vpo, .int vco, .int go, .ref oTr, .ref oAk, .ref oWy, .int ln, .ref oXe, .ref oSg, .int wk, .int db, .int dn, .int iv, .int qs], xAZ G oTr 20 tr, xAZ G oAk 10 ak, xAI G oWy 40 wy, xAI G oXe 100 xe, xAI G oSg 100 sg, xO aV 4 [.int vpo, .int vco, .int vgo, .ref vTr, .ref vAk, .ref vWy, .int vln, .ref vXe, .ref vSg, .int vwk, .int vdb, .int vdn, .int viv, .int vqs], xAZ G vTr 20 vtr, xAZ G vAk 10 vak, xAI G vWy 40 vwy, xAI G vXe 100 vxe, xAI G vSg 100 vsg] rfl rfl 1 (by decide) lkX4_become_f35 rfl rfl rfl rfl (Nat.le_of_ble_eq_true rfl) rfl dX4_become_13 (fun H locs hw => ?_)
  refine lv_aload_n hx hb dX4_become_16 rfl (lv_at hl 0 rfl) ?_
  refine lv_aload_n hx hb dX4_become_17 rfl (lv_at hl 1 rfl) ?_
  refine xget (C := RX4) (T := TX4) (N := 14) hc hw inX4_become_X4 6 rfl rfl 2 (by decide) lkX4_become_f15 rfl rfl dX4_become_18 ?_
  refine xput (C := RX4) (T := TX4) (N := 14) (ty := .int) hc hw inX4_become_X4 tyX4 tyX4_ok nmX4 0 [xO aO 4 [.int vpo, .int vco, .int vgo, .ref oTr, .ref oAk, .ref oWy, .int ln, .ref oXe, .ref oSg, .int wk, .int db, .int dn, .int iv, .int qs], xAZ G oTr 20 tr, xAZ G oAk 10 ak, xAI G oWy 40 wy, xAI G oXe 100 xe, xAI G oSg 100 sg, xO aV 4 [.int vpo, .int vco, .int vgo, .ref vTr, .ref vAk, .ref vWy, .int vln, .ref vXe, .ref vSg, .int vwk, .int vdb, .int vdn, .int viv, .int vqs], xAZ G vTr 20 vtr, xAZ G vAk 10 vak, xAI G vWy 40 vwy, xAI G vXe 100 vxe, xAI G vSg 100 vsg] rfl rfl 2 (by decide) lkX4_become_f15 rfl rfl rfl rfl (Nat.le_of_ble_eq_true rfl) rfl dX4_become_21 (fun H locs hw => ?_)
  refine lv_aload_n hx hb dX4_become_24 rfl (lv_at hl 0 rfl) ?_
  refine lv_aload_n hx hb dX4_become_25 rfl (lv_at hl 1 rfl) ?_
  refine xget (C := RX4) (T := TX4) (N := 14) hc hw inX4_become_X4 6 rfl rfl 6 (by decide) lkX4_become_f38 rfl rfl dX4_become_26 ?_
  refine xput (C := RX4) (T := TX4) (N := 14) (ty := .int) hc hw inX4_become_X4 tyX4 tyX4_ok nmX4 0 [xO aO 4 [.int vpo, .int vco, .int vgo, .ref oTr, .ref oAk, .ref oWy, .int vln, .ref oXe, .ref oSg, .int wk, .int db, .int dn, .int iv, .int qs], xAZ G oTr 20 tr, xAZ G oAk 10 ak, xAI G oWy 40 wy, xAI G oXe 100 xe, xAI G oSg 100 sg, xO aV 4 [.int vpo, .int vco, .int vgo, .ref vTr, .ref vAk, .ref vWy, .int vln, .ref vXe, .ref vSg, .int vwk, .int vdb, .int vdn, .int viv, .int vqs], xAZ G vTr 20 vtr, xAZ G vAk 10 vak, xAI G vWy 40 vwy, xAI G vXe 100 vxe, xAI G vSg 100 vsg] rfl rfl 6 (by decide) lkX4_become_f38 rfl rfl rfl rfl (Nat.le_of_ble_eq_true rfl) rfl dX4_become_29 (fun H locs hw => ?_)
  refine lv_aload_n hx hb dX4_become_32 rfl (lv_at hl 0 rfl) ?_
  refine lv_aload_n hx hb dX4_become_33 rfl (lv_at hl 1 rfl) ?_
  refine xget (C := RX4) (T := TX4) (N := 14) hc hw inX4_become_X4 6 rfl rfl 9 (by decide) lkX4_become_f41 rfl rfl dX4_become_34 ?_
  refine xput (C := RX4) (T := TX4) (N := 14) (ty := .int) hc hw inX4_become_X4 tyX4 tyX4_ok nmX4 0 [xO aO 4 [.int vpo, .int vco, .int vgo, .ref oTr, .ref oAk, .ref oWy, .int vln, .ref oXe, .ref oSg, .int vwk, .int db, .int dn, .int iv, .int qs], xAZ G oTr 20 tr, xAZ G oAk 10 ak, xAI G oWy 40 wy, xAI G oXe 100 xe, xAI G oSg 100 sg, xO aV 4 [.int vpo, .int vco, .int vgo, .ref vTr, .ref vAk, .ref vWy, .int vln, .ref vXe, .ref vSg, .int vwk, .int vdb, .int vdn, .int viv, .int vqs], xAZ G vTr 20 vtr, xAZ G vAk 10 vak, xAI G vWy 40 vwy, xAI G vXe 100 vxe, xAI G vSg 100 vsg] rfl rfl 9 (by decide) lkX4_become_f41 rfl rfl rfl rfl (Nat.le_of_ble_eq_true rfl) rfl dX4_become_37 (fun H locs hw => ?_)
  refine lv_aload_n hx hb dX4_become_40 rfl (lv_at hl 0 rfl) ?_
  refine lv_aload_n hx hb dX4_become_41 rfl (lv_at hl 1 rfl) ?_
  refine xget (C := RX4) (T := TX4) (N := 14) hc hw inX4_become_X4 6 rfl rfl 10 (by decide) lkX4_become_f44 rfl rfl dX4_become_42 ?_
  refine xput (C := RX4) (T := TX4) (N := 14) (ty := .int) hc hw inX4_become_X4 tyX4 tyX4_ok nmX4 0 [xO aO 4 [.int vpo, .int vco, .int vgo, .ref oTr, .ref oAk, .ref oWy, .int vln, .ref oXe, .ref oSg, .int vwk, .int vdb, .int dn, .int iv, .int qs], xAZ G oTr 20 tr, xAZ G oAk 10 ak, xAI G oWy 40 wy, xAI G oXe 100 xe, xAI G oSg 100 sg, xO aV 4 [.int vpo, .int vco, .int vgo, .ref vTr, .ref vAk, .ref vWy, .int vln, .ref vXe, .ref vSg, .int vwk, .int vdb, .int vdn, .int viv, .int vqs], xAZ G vTr 20 vtr, xAZ G vAk 10 vak, xAI G vWy 40 vwy, xAI G vXe 100 vxe, xAI G vSg 100 vsg] rfl rfl 10 (by decide) lkX4_become_f44 rfl rfl rfl rfl (Nat.le_of_ble_eq_true rfl) rfl dX4_become_45 (fun H locs hw => ?_)
  refine lv_aload_n hx hb dX4_become_48 rfl (lv_at hl 0 rfl) ?_
  refine lv_aload_n hx hb dX4_become_49 rfl (lv_at hl 1 rfl) ?_
  refine xget (C := RX4) (T := TX4) (N := 14) hc hw inX4_become_X4 6 rfl rfl 11 (by decide) lkX4_become_f47 rfl rfl dX4_become_50 ?_
  refine xput (C := RX4) (T := TX4) (N := 14) (ty := .int) hc hw inX4_become_X4 tyX4 tyX4_ok nmX4 0 [xO aO 4 [.int vpo, .int vco, .int vgo, .ref oTr, .ref oAk, .ref oWy, .int vln, .ref oXe, .ref oSg, .int vwk, .int vdb, .int vdn, .int iv, .int qs], xAZ G oTr 20 tr, xAZ G oAk 10 ak, xAI G oWy 40 wy, xAI G oXe 100 xe, xAI G oSg 100 sg, xO aV 4 [.int vpo, .int vco, .int vgo, .ref vTr, .ref vAk, .ref vWy, .int vln, .ref vXe, .ref vSg, .int vwk, .int vdb, .int vdn, .int viv, .int vqs], xAZ G vTr 20 vtr, xAZ G vAk 10 vak, xAI G vWy 40 vwy, xAI G vXe 100 vxe, xAI G vSg 100 vsg] rfl rfl 11 (by decide) lkX4_become_f47 rfl rfl rfl rfl (Nat.le_of_ble_eq_true rfl) rfl dX4_become_53 (fun H locs hw => ?_)
  refine lv_aload_n hx hb dX4_become_56 rfl (lv_at hl 0 rfl) ?_
  refine lv_aload_n hx hb dX4_become_57 rfl (lv_at hl 1 rfl) ?_
  refine xget (C := RX4) (T := TX4) (N := 14) hc hw inX4_become_X4 6 rfl rfl 12 (by decide) lkX4_become_f50 rfl rfl dX4_become_58 ?_
  refine xput (C := RX4) (T := TX4) (N := 14) (ty := .int) hc hw inX4_become_X4 tyX4 tyX4_ok nmX4 0 [xO aO 4 [.int vpo, .int vco, .int vgo, .ref oTr, .ref oAk, .ref oWy, .int vln, .ref oXe, .ref oSg, .int vwk, .int vdb, .int vdn, .int viv, .int qs], xAZ G oTr 20 tr, xAZ G oAk 10 ak, xAI G oWy 40 wy, xAI G oXe 100 xe, xAI G oSg 100 sg, xO aV 4 [.int vpo, .int vco, .int vgo, .ref vTr, .ref vAk, .ref vWy, .int vln, .ref vXe, .ref vSg, .int vwk, .int vdb, .int vdn, .int viv, .int vqs], xAZ G vTr 20 vtr, xAZ G vAk 10 vak, xAI G vWy 40 vwy, xAI G vXe 100 vxe, xAI G vSg 100 vsg] rfl rfl 12 (by decide) lkX4_become_f50 rfl rfl rfl rfl (Nat.le_of_ble_eq_true rfl) rfl dX4_become_61 (fun H locs hw => ?_)
  refine lv_aload_n hx hb dX4_become_64 rfl (lv_at hl 0 rfl) ?_
  refine lv_aload_n hx hb dX4_become_65 rfl (lv_at hl 1 rfl) ?_
  refine xget (C := RX4) (T := TX4) (N := 14) hc hw inX4_become_X4 6 rfl rfl 13 (by decide) lkX4_become_f53 rfl rfl dX4_become_66 ?_
  refine xput (C := RX4) (T := TX4) (N := 14) (ty := .int) hc hw inX4_become_X4 tyX4 tyX4_ok nmX4 0 [xO aO 4 [.int vpo, .int vco, .int vgo, .ref oTr, .ref oAk, .ref oWy, .int vln, .ref oXe, .ref oSg, .int vwk, .int vdb, .int vdn, .int viv, .int vqs], xAZ G oTr 20 tr, xAZ G oAk 10 ak, xAI G oWy 40 wy, xAI G oXe 100 xe, xAI G oSg 100 sg, xO aV 4 [.int vpo, .int vco, .int vgo, .ref vTr, .ref vAk, .ref vWy, .int vln, .ref vXe, .ref vSg, .int vwk, .int vdb, .int vdn, .int viv, .int vqs], xAZ G vTr 20 vtr, xAZ G vAk 10 vak, xAI G vWy 40 vwy, xAI G vXe 100 vxe, xAI G vSg 100 vsg] rfl rfl 13 (by decide) lkX4_become_f53 rfl rfl rfl rfl (Nat.le_of_ble_eq_true rfl) rfl dX4_become_69 (fun H locs hw => ?_)
  refine lv_aload_n hx hb dX4_become_72 rfl (lv_at hl 1 rfl) ?_
  refine xget (C := RX4) (T := TX4) (N := 14) hc hw inX4_become_X4 6 rfl rfl 3 (by decide) lkX4_become_f18 rfl rfl dX4_become_73 ?_
  refine lv_iconst (v := 0) hx hb dX4_become_76 (by decide) ?_
  refine lv_aload_n hx hb dX4_become_77 rfl (lv_at hl 0 rfl) ?_
  refine xget (C := RX4) (T := TX4) (N := 14) hc hw inX4_become_X4 0 rfl rfl 3 (by decide) lkX4_become_f18 rfl rfl dX4_become_78 ?_
  refine lv_iconst (v := 0) hx hb dX4_become_81 (by decide) ?_
  refine lv_bipush (v := 20) hx hb dX4_become_82 (by decide) ?_
  refine xcopyZ hc hw 7 1 [xO aO 4 [.int vpo, .int vco, .int vgo, .ref oTr, .ref oAk, .ref oWy, .int vln, .ref oXe, .ref oSg, .int vwk, .int vdb, .int vdn, .int viv, .int vqs], xAZ G oTr 20 (va_cpy vtr tr 0 0 20), xAZ G oAk 10 ak, xAI G oWy 40 wy, xAI G oXe 100 xe, xAI G oSg 100 sg, xO aV 4 [.int vpo, .int vco, .int vgo, .ref vTr, .ref vAk, .ref vWy, .int vln, .ref vXe, .ref vSg, .int vwk, .int vdb, .int vdn, .int viv, .int vqs], xAZ G vTr 20 vtr, xAZ G vAk 10 vak, xAI G vWy 40 vwy, xAI G vXe 100 vxe, xAI G vSg 100 vsg] lkX4_become_m56 lkX4_become_cn lkX4_become_cs lkX4_become_ci rfl rfl rfl (yfz hvtr) ⟨by decide, by decide, by decide⟩ hl.1 (Nat.le_of_ble_eq_true rfl) (Nat.le_of_ble_eq_true rfl) dX4_become_84 (fun H locs hw => ?_)
  refine lv_aload_n hx hb dX4_become_87 rfl (lv_at hl 1 rfl) ?_
  refine xget (C := RX4) (T := TX4) (N := 14) hc hw inX4_become_X4 6 rfl rfl 4 (by decide) lkX4_become_f22 rfl rfl dX4_become_88 ?_
  refine lv_iconst (v := 0) hx hb dX4_become_91 (by decide) ?_
  refine lv_aload_n hx hb dX4_become_92 rfl (lv_at hl 0 rfl) ?_
  refine xget (C := RX4) (T := TX4) (N := 14) hc hw inX4_become_X4 0 rfl rfl 4 (by decide) lkX4_become_f22 rfl rfl dX4_become_93 ?_
  refine lv_iconst (v := 0) hx hb dX4_become_96 (by decide) ?_
  refine lv_bipush (v := 10) hx hb dX4_become_97 (by decide) ?_
  refine xcopyZ hc hw 8 2 [xO aO 4 [.int vpo, .int vco, .int vgo, .ref oTr, .ref oAk, .ref oWy, .int vln, .ref oXe, .ref oSg, .int vwk, .int vdb, .int vdn, .int viv, .int vqs], xAZ G oTr 20 (va_cpy vtr tr 0 0 20), xAZ G oAk 10 (va_cpy vak ak 0 0 10), xAI G oWy 40 wy, xAI G oXe 100 xe, xAI G oSg 100 sg, xO aV 4 [.int vpo, .int vco, .int vgo, .ref vTr, .ref vAk, .ref vWy, .int vln, .ref vXe, .ref vSg, .int vwk, .int vdb, .int vdn, .int viv, .int vqs], xAZ G vTr 20 vtr, xAZ G vAk 10 vak, xAI G vWy 40 vwy, xAI G vXe 100 vxe, xAI G vSg 100 vsg] lkX4_become_m56 lkX4_become_cn lkX4_become_cs lkX4_become_ci rfl rfl rfl (yfz hvak) ⟨by decide, by decide, by decide⟩ hl.1 (Nat.le_of_ble_eq_true rfl) (Nat.le_of_ble_eq_true rfl) dX4_become_99 (fun H locs hw => ?_)
  refine lv_aload_n hx hb dX4_become_102 rfl (lv_at hl 1 rfl) ?_
  refine xget (C := RX4) (T := TX4) (N := 14) hc hw inX4_become_X4 6 rfl rfl 5 (by decide) lkX4_become_f25 rfl rfl dX4_become_103 ?_
  refine lv_iconst (v := 0) hx hb dX4_become_106 (by decide) ?_
  refine lv_aload_n hx hb dX4_become_107 rfl (lv_at hl 0 rfl) ?_
  refine xget (C := RX4) (T := TX4) (N := 14) hc hw inX4_become_X4 0 rfl rfl 5 (by decide) lkX4_become_f25 rfl rfl dX4_become_108 ?_
  refine lv_iconst (v := 0) hx hb dX4_become_111 (by decide) ?_
  refine lv_bipush (v := 40) hx hb dX4_become_112 (by decide) ?_
  refine xcopyI hc hw 9 3 [xO aO 4 [.int vpo, .int vco, .int vgo, .ref oTr, .ref oAk, .ref oWy, .int vln, .ref oXe, .ref oSg, .int vwk, .int vdb, .int vdn, .int viv, .int vqs], xAZ G oTr 20 (va_cpy vtr tr 0 0 20), xAZ G oAk 10 (va_cpy vak ak 0 0 10), xAI G oWy 40 (va_cpy vwy wy 0 0 40), xAI G oXe 100 xe, xAI G oSg 100 sg, xO aV 4 [.int vpo, .int vco, .int vgo, .ref vTr, .ref vAk, .ref vWy, .int vln, .ref vXe, .ref vSg, .int vwk, .int vdb, .int vdn, .int viv, .int vqs], xAZ G vTr 20 vtr, xAZ G vAk 10 vak, xAI G vWy 40 vwy, xAI G vXe 100 vxe, xAI G vSg 100 vsg] lkX4_become_m56 lkX4_become_cn lkX4_become_cs lkX4_become_ci rfl rfl rfl (fun _ _ => rfl) ⟨by decide, by decide, by decide⟩ hl.1 (Nat.le_of_ble_eq_true rfl) (Nat.le_of_ble_eq_true rfl) dX4_become_114 (fun H locs hw => ?_)
  refine lv_aload_n hx hb dX4_become_117 rfl (lv_at hl 1 rfl) ?_
  refine xget (C := RX4) (T := TX4) (N := 14) hc hw inX4_become_X4 6 rfl rfl 7 (by decide) lkX4_become_f29 rfl rfl dX4_become_118 ?_
  refine lv_iconst (v := 0) hx hb dX4_become_121 (by decide) ?_
  refine lv_aload_n hx hb dX4_become_122 rfl (lv_at hl 0 rfl) ?_
  refine xget (C := RX4) (T := TX4) (N := 14) hc hw inX4_become_X4 0 rfl rfl 7 (by decide) lkX4_become_f29 rfl rfl dX4_become_123 ?_
  refine lv_iconst (v := 0) hx hb dX4_become_126 (by decide) ?_
  refine lv_bipush (v := 100) hx hb dX4_become_127 (by decide) ?_
  refine xcopyI hc hw 10 4 [xO aO 4 [.int vpo, .int vco, .int vgo, .ref oTr, .ref oAk, .ref oWy, .int vln, .ref oXe, .ref oSg, .int vwk, .int vdb, .int vdn, .int viv, .int vqs], xAZ G oTr 20 (va_cpy vtr tr 0 0 20), xAZ G oAk 10 (va_cpy vak ak 0 0 10), xAI G oWy 40 (va_cpy vwy wy 0 0 40), xAI G oXe 100 (va_cpy vxe xe 0 0 100), xAI G oSg 100 sg, xO aV 4 [.int vpo, .int vco, .int vgo, .ref vTr, .ref vAk, .ref vWy, .int vln, .ref vXe, .ref vSg, .int vwk, .int vdb, .int vdn, .int viv, .int vqs], xAZ G vTr 20 vtr, xAZ G vAk 10 vak, xAI G vWy 40 vwy, xAI G vXe 100 vxe, xAI G vSg 100 vsg] lkX4_become_m56 lkX4_become_cn lkX4_become_cs lkX4_become_ci rfl rfl rfl (fun _ _ => rfl) ⟨by decide, by decide, by decide⟩ hl.1 (Nat.le_of_ble_eq_true rfl) (Nat.le_of_ble_eq_true rfl) dX4_become_129 (fun H locs hw => ?_)
  refine lv_aload_n hx hb dX4_become_132 rfl (lv_at hl 1 rfl) ?_
  refine xget (C := RX4) (T := TX4) (N := 14) hc hw inX4_become_X4 6 rfl rfl 8 (by decide) lkX4_become_f32 rfl rfl dX4_become_133 ?_
  refine lv_iconst (v := 0) hx hb dX4_become_136 (by decide) ?_
  refine lv_aload_n hx hb dX4_become_137 rfl (lv_at hl 0 rfl) ?_
  refine xget (C := RX4) (T := TX4) (N := 14) hc hw inX4_become_X4 0 rfl rfl 8 (by decide) lkX4_become_f32 rfl rfl dX4_become_138 ?_
  refine lv_iconst (v := 0) hx hb dX4_become_141 (by decide) ?_
  refine lv_bipush (v := 100) hx hb dX4_become_142 (by decide) ?_
  refine xcopyI hc hw 11 5 [xO aO 4 [.int vpo, .int vco, .int vgo, .ref oTr, .ref oAk, .ref oWy, .int vln, .ref oXe, .ref oSg, .int vwk, .int vdb, .int vdn, .int viv, .int vqs], xAZ G oTr 20 (va_cpy vtr tr 0 0 20), xAZ G oAk 10 (va_cpy vak ak 0 0 10), xAI G oWy 40 (va_cpy vwy wy 0 0 40), xAI G oXe 100 (va_cpy vxe xe 0 0 100), xAI G oSg 100 (va_cpy vsg sg 0 0 100), xO aV 4 [.int vpo, .int vco, .int vgo, .ref vTr, .ref vAk, .ref vWy, .int vln, .ref vXe, .ref vSg, .int vwk, .int vdb, .int vdn, .int viv, .int vqs], xAZ G vTr 20 vtr, xAZ G vAk 10 vak, xAI G vWy 40 vwy, xAI G vXe 100 vxe, xAI G vSg 100 vsg] lkX4_become_m56 lkX4_become_cn lkX4_become_cs lkX4_become_ci rfl rfl rfl (fun _ _ => rfl) ⟨by decide, by decide, by decide⟩ hl.1 (Nat.le_of_ble_eq_true rfl) (Nat.le_of_ble_eq_true rfl) dX4_become_144 (fun H locs hw => ?_)
  obtain ⟨u0, hu0⟩ : ∃ z : (Int32) × (Int32) × (Int32) × (Int32) × (Int32) × (Int32) × (Int32) × (Int32) × (Int32) × (Nat → Int32) × (Nat → Int32) × (Nat → Int32) × (Nat → Int32) × (Nat → Int32), z = (vpo, vco, vgo, vln, vwk, vdb, vdn, viv, vqs, va_cpy vtr tr 0 0 20, va_cpy vak ak 0 0 10, va_cpy vwy wy 0 0 40, va_cpy vxe xe 0 0 100, va_cpy vsg sg 0 0 100) := ⟨_, rfl⟩
  refine xret_v u0 hc ?_ ?_ ⟨Nat.le_of_ble_eq_true rfl, Nat.le_of_ble_eq_true rfl⟩ dX4_become_147
  · subst hu0; dsimp only; exact hw
  · subst hu0; exact Eq.symm rfl
