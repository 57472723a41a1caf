def FX5_addPlace (pl : Int32) (po : Int32) : Int32 × (Int32) × (Int32) × (Int32) :=
  if pl = 10 then (xbind2 (FX5_no 1) (fun r4 u3 => (r4, u3, pl, po))) else (if pl = 0 then (((pl + 1) - 1, 0, pl + 1, 0)) else (((pl + 1) - 1, 0, pl + 1, po)))
set_option maxHeartbeats 40000000 in
set_option maxRecDepth 100000 in
theorem metX5_addPlace (l : Launch) (G : xG) (sz : Nat) (aR : Nat) (rEx : Nat) (rRd : Nat) (rTo : Nat) (rMi : Nat) (rCl : Nat) (rSh : Nat) (rFa : Nat) (aS : Nat) (aH : Nat) (sTr : Nat) (sAk : Nat) (sWy : Nat) (sXe : Nat) (sSg : Nat) (th : Int32) (pl : Int32) (rs : Int32) (po : Int32) (co : Int32) (go : Int32) (ln : Int32) (wk : Int32) (db : Int32) (dn : Int32) (iv : Int32) (qs : Int32) : xM l yX5_addPlace wsX5_addPlace ⟨1, 0, 0, 21⟩ G [.ref aR] [xO aR 5 [.int th, .int pl, .ref rEx, .ref rRd, .ref rTo, .int rs, .ref rMi, .ref rCl, .ref rSh, .ref rFa, .ref aS, .ref aH], xO aS 4 [.int po, .int co, .int go, .ref sTr, .ref sAk, .ref sWy, .int ln, .ref sXe, .ref sSg, .int wk, .int db, .int dn, .int iv, .int qs]] sz (xQi G [xO aR 5 [.int th, .int pl, .ref rEx, .ref rRd, .ref rTo, .int rs, .ref rMi, .ref rCl, .ref rSh, .ref rFa, .ref aS, .ref aH], xO aS 4 [.int po, .int co, .int go, .ref sTr, .ref sAk, .ref sWy, .int ln, .ref sXe, .ref sSg, .int wk, .int db, .int dn, .int iv, .int qs]] sz (fun (r : Int32) (u : (Int32) × (Int32) × (Int32)) => r = (FX5_addPlace pl po).1 ∧ u = (FX5_addPlace pl po).2) (fun u : (Int32) × (Int32) × (Int32) => [xO aR 5 [.int u.1, .int u.2.1, .ref rEx, .ref rRd, .ref rTo, .int rs, .ref rMi, .ref rCl, .ref rSh, .ref rFa, .ref aS, .ref aH], xO aS 4 [.int u.2.2, .int co, .int go, .ref sTr, .ref sAk, .ref sWy, .int ln, .ref sXe, .ref sSg, .int wk, .int db, .int dn, .int iv, .int qs]])) := by
  refine xof (own := RX5) (cc := cX5_addPlace) (maxL := 1) (ret := (some .int)) rfl (by decide) rfl (Nat.le_of_ble_eq_true rfl) ?_
  intro pg en s mi below meth cd hc hnm hw ls hl
  obtain ⟨hx, hb, -, hown, hts, -⟩ := id hc
  have hl : lv_has ls 1 [(0, .ref aR)] := hl
  refine lv_aload_n hx hb dX5_addPlace_0 rfl (lv_at hl 0 rfl) ?_
  refine lv_iconst (v := 0) hx hb dX5_addPlace_1 (by decide) ?_
  refine xput (C := RX5) (T := TX5) (N := 12) (ty := .int) hc hw inX5_addPlace_X5 tyX5 tyX5_ok nmX5 0 [xO aR 5 [.int 0, .int pl, .ref rEx, .ref rRd, .ref rTo, .int rs, .ref rMi, .ref rCl, .ref rSh, .ref rFa, .ref aS, .ref aH], xO aS 4 [.int po, .int co, .int go, .ref sTr, .ref sAk, .ref sWy, .int ln, .ref sXe, .ref sSg, .int wk, .int db, .int dn, .int iv, .int qs]] rfl rfl 0 (by decide) lkX5_addPlace_f42 rfl rfl rfl rfl (Nat.le_of_ble_eq_true rfl) rfl dX5_addPlace_2 (fun H locs hw => ?_)
  refine lv_aload_n hx hb dX5_addPlace_5 rfl (lv_at hl 0 rfl) ?_
  refine xget (C := RX5) (T := TX5) (N := 12) hc hw inX5_addPlace_X5 0 rfl rfl 1 (by decide) lkX5_addPlace_f46 rfl rfl dX5_addPlace_6 ?_
  refine lv_bipush (v := 10) hx hb dX5_addPlace_9 (by decide) ?_
  refine lv_icmp_ne (tgt := 20) hx hb dX5_addPlace_11 (by decide) (fun c_1 => ?_) (fun c_1 => ?_)
  · refine lv_aload_n hx hb dX5_addPlace_20 rfl (lv_at hl 0 rfl) ?_
    refine xget (C := RX5) (T := TX5) (N := 12) hc hw inX5_addPlace_X5 0 rfl rfl 1 (by decide) lkX5_addPlace_f46 rfl rfl dX5_addPlace_21 ?_
    refine lv_if_ne (tgt := 35) hx hb dX5_addPlace_24 (by decide) (fun c_2 => ?_) (fun c_2 => ?_)
    · refine lv_aload_n hx hb dX5_addPlace_35 rfl (lv_at hl 0 rfl) ?_
      refine lv_dup hx hb dX5_addPlace_36 rfl ?_
      refine xget (C := RX5) (T := TX5) (N := 12) hc hw inX5_addPlace_X5 0 rfl rfl 1 (by decide) lkX5_addPlace_f46 rfl rfl dX5_addPlace_37 ?_
      refine lv_iconst (v := 1) hx hb dX5_addPlace_40 (by decide) ?_
      refine lv_iadd hx hb dX5_addPlace_41 ?_
      refine xput (C := RX5) (T := TX5) (N := 12) (ty := .int) hc hw inX5_addPlace_X5 tyX5 tyX5_ok nmX5 0 [xO aR 5 [.int 0, .int (pl + 1), .ref rEx, .ref rRd, .ref rTo, .int rs, .ref rMi, .ref rCl, .ref rSh, .ref rFa, .ref aS, .ref aH], xO aS 4 [.int po, .int co, .int go, .ref sTr, .ref sAk, .ref sWy, .int ln, .ref sXe, .ref sSg, .int wk, .int db, .int dn, .int iv, .int qs]] rfl rfl 1 (by decide) lkX5_addPlace_f46 rfl rfl rfl rfl (Nat.le_of_ble_eq_true rfl) rfl dX5_addPlace_42 (fun H locs hw => ?_)
      refine lv_aload_n hx hb dX5_addPlace_45 rfl (lv_at hl 0 rfl) ?_
      refine xget (C := RX5) (T := TX5) (N := 12) hc hw inX5_addPlace_X5 0 rfl rfl 1 (by decide) lkX5_addPlace_f46 rfl rfl dX5_addPlace_46 ?_
      refine lv_iconst (v := 1) hx hb dX5_addPlace_49 (by decide) ?_
      refine lv_isub hx hb dX5_addPlace_50 ?_
      obtain ⟨u0, hu0⟩ : ∃ z : (Int32) × (Int32) × (Int32), z = (0, pl + 1, po) := ⟨_, rfl⟩
      refine xret_i u0 hc ?_ ?_ ⟨Nat.le_of_ble_eq_true rfl, Nat.le_of_ble_eq_true rfl⟩ dX5_addPlace_51
      · subst hu0; dsimp only; exact hw
      · subst hu0; exact xe2 (Eq.trans (if_neg c_1) (if_neg c_2))
    · refine lv_aload_n hx hb dX5_addPlace_27 rfl (lv_at hl 0 rfl) ?_
      refine xget (C := RX5) (T := TX5) (N := 12) hc hw inX5_addPlace_X5 0 rfl rfl 10 (by decide) lkX5_addPlace_f35 rfl rfl dX5_addPlace_28 ?_
      refine lv_iconst (v := 0) hx hb dX5_addPlace_31 (by decide) ?_
      refine xputN (C := RX4) (T := TX4) (N := 14) (ty := .int) hc hw inX5_addPlace_X4 tyX4 tyX4_ok nmX4 1 [xO aR 5 [.int 0, .int pl, .ref rEx, .ref rRd, .ref rTo, .int rs, .ref rMi, .ref rCl, .ref rSh, .ref rFa, .ref aS, .ref aH], xO aS 4 [.int 0, .int co, .int go, .ref sTr, .ref sAk, .ref sWy, .int ln, .ref sXe, .ref sSg, .int wk, .int db, .int dn, .int iv, .int qs]] rfl rfl 0 (by decide) nkX5_61 rfl rfl rfl rfl (Nat.le_of_ble_eq_true rfl) rfl dX5_addPlace_32 (fun H locs hw => ?_)
      refine lv_aload_n hx hb dX5_addPlace_35 rfl (lv_at hl 0 rfl) ?_
      refine lv_dup hx hb dX5_addPlace_36 rfl ?_
      refine xget (C := RX5) (T := TX5) (N := 12) hc hw inX5_addPlace_X5 0 rfl rfl 1 (by decide) lkX5_addPlace_f46 rfl rfl dX5_addPlace_37 ?_
      refine lv_iconst (v := 1) hx hb dX5_addPlace_40 (by decide) ?_
      refine lv_iadd hx hb dX5_addPlace_41 ?_
      refine xput (C := RX5) (T := TX5) (N := 12) (ty := .int) hc hw inX5_addPlace_X5 tyX5 tyX5_ok nmX5 0 [xO aR 5 [.int 0, .int (pl + 1), .ref rEx, .ref rRd, .ref rTo, .int rs, .ref rMi, .ref rCl, .ref rSh, .ref rFa, .ref aS, .ref aH], xO aS 4 [.int 0, .int co, .int go, .ref sTr, .ref sAk, .ref sWy, .int ln, .ref sXe, .ref sSg, .int wk, .int db, .int dn, .int iv, .int qs]] rfl rfl 1 (by decide) lkX5_addPlace_f46 rfl rfl rfl rfl (Nat.le_of_ble_eq_true rfl) rfl dX5_addPlace_42 (fun H locs hw => ?_)
      refine lv_aload_n hx hb dX5_addPlace_45 rfl (lv_at hl 0 rfl) ?_
      refine xget (C := RX5) (T := TX5) (N := 12) hc hw inX5_addPlace_X5 0 rfl rfl 1 (by decide) lkX5_addPlace_f46 rfl rfl dX5_addPlace_46 ?_
      refine lv_iconst (v := 1) hx hb dX5_addPlace_49 (by decide) ?_
      refine lv_isub hx hb dX5_addPlace_50 ?_
      obtain ⟨u0, hu0⟩ : ∃ z : (Int32) × (Int32) × (Int32), z = (0, pl + 1, 0) := ⟨_, rfl⟩
      refine xret_i u0 hc ?_ ?_ ⟨Nat.le_of_ble_eq_true rfl, Nat.le_of_ble_eq_true rfl⟩ dX5_addPlace_51
      · subst hu0; dsimp only; exact hw
      · subst hu0; exact xe2 (Eq.trans (if_neg c_1) (if_pos c_2))
  · refine lv_aload_n hx hb dX5_addPlace_14 rfl (lv_at hl 0 rfl) ?_
    refine lv_iconst (v := 1) hx hb dX5_addPlace_15 (by decide) ?_
    refine xcall_i (isC := [0]) hc hw (xrunV (n := 1) (As := [.int 1]) (rest := []) hc hw [0] (metX5_no l G _ aR rEx rRd rTo rMi rCl rSh rFa aS aH 0 pl rs 1) gX5_addPlace_X5_no rfl (by decide +kernel) ⟨Nat.le_of_ble_eq_true rfl, Nat.le_of_ble_eq_true rfl⟩ 0 rfl rfl rfl rfl rfl rfl hl.1 (Nat.le_of_ble_eq_true rfl) dX5_addPlace_16 ⟨Nat.le_of_ble_eq_true rfl, Nat.le_of_ble_eq_true rfl⟩) rfl [1] [1, 0] (fun u3 => [xO aR 5 [.int u3, .int pl, .ref rEx, .ref rRd, .ref rTo, .int rs, .ref rMi, .ref rCl, .ref rSh, .ref rFa, .ref aS, .ref aH], xO aS 4 [.int po, .int co, .int go, .ref sTr, .ref sAk, .ref sWy, .int ln, .ref sXe, .ref sSg, .int wk, .int db, .int dn, .int iv, .int qs]]) (fun _ => rfl) rfl rfl rfl rfl (fun r4 u3 H locs hp5 hw => ?_)
    obtain ⟨u0, hu0⟩ : ∃ z : (Int32) × (Int32) × (Int32), z = (u3, pl, po) := ⟨_, rfl⟩
    refine xret_i u0 hc ?_ ?_ ⟨Nat.le_of_ble_eq_true rfl, Nat.le_of_ble_eq_true rfl⟩ dX5_addPlace_19
    · subst hu0; dsimp only; exact hw
    · subst hu0; exact xe2 (Eq.trans (if_pos c_1) (xb2 hp5 rfl))
def ysx : Nat → (Nat → Int32) → Int
  | 0, _ => 0
  | n + 1, f => ysx n f + (f n).toInt
theorem ysx_le {f : Nat → Int32} {a b : Nat} (hab : a ≠ b) (ha : (f a).toInt ≤ 3) (hb : (f b).toInt ≤ 3) : ∀ n, (∀ k, k < n → (f k).toInt ≤ 4) → ysx n f + (if a < n then 1 else 0) + (if b < n then 1 else 0) ≤ 4 * n
  | 0, _ => by
    rw [if_neg (by omega), if_neg (by omega)]
    unfold ysx
    omega
  | n + 1, h => by
    have h1 := ysx_le hab ha hb n (fun k hk => h k (by omega))
    have h2 := h n (by omega)
    unfold ysx
    by_cases e1 : a = n
    · subst e1
      rw [if_neg (by omega)] at h1
      rw [if_pos (by omega)]
      by_cases e3 : b < a
      · rw [if_pos e3] at h1; rw [if_pos (by omega)]; omega
      · rw [if_neg e3] at h1; rw [if_neg (by omega)]; omega
    · by_cases e2 : b = n
      · subst e2
        rw [if_neg (by omega : ¬ b < b)] at h1
        rw [if_pos (by omega : b < b + 1)]
        by_cases e3 : a < b
        · rw [if_pos e3] at h1; rw [if_pos (by omega)]; omega
        · rw [if_neg e3] at h1; rw [if_neg (by omega)]; omega
      · have q1 : (if a < n + 1 then (1 : Int) else 0) = if a < n then 1 else 0 := by
          by_cases e3 : a < n
          · rw [if_pos e3, if_pos (by omega)]
          · rw [if_neg e3, if_neg (by omega)]
        have q2 : (if b < n + 1 then (1 : Int) else 0) = if b < n then 1 else 0 := by
          by_cases e3 : b < n
          · rw [if_pos e3, if_pos (by omega)]
          · rw [if_neg e3, if_neg (by omega)]
        rw [q1, q2]
        omega
theorem yfree {ex : Nat → Int32} {q : Int32} (hex4 : ∀ k, k < 10 → 0 ≤ (ex k).toInt ∧ (ex k).toInt ≤ 4) (hq : 0 ≤ q.toInt ∧ q.toInt < 10) (c : ¬ ex q.toNatClampNeg = 4) : 0 ≤ (ex q.toNatClampNeg).toInt ∧ (ex q.toNatClampNeg).toInt < 4 := by
  have := hex4 _ (xcl hq)
  rw [xeqI, show (4 : Int32).toInt = 4 from rfl] at c
  omega
theorem ynat {q w : Int32} (hq : 0 ≤ q.toInt ∧ q.toInt < 10) (hw : 0 ≤ w.toInt ∧ w.toInt < 10) (c : ¬ q = w) : q.toNatClampNeg ≠ w.toNatClampNeg := by
  intro h
  obtain ⟨j, h1, h2, h3⟩ := xofI hq.1
  obtain ⟨k, k1, k2, k3⟩ := xofI hw.1
  apply c
  have e1 : q.toNatClampNeg = j := by show q.toInt.toNat = j; omega
  have e2 : w.toNatClampNeg = k := by show w.toInt.toNat = k; omega
  rw [h2, k2, ← e1, ← e2, h]
theorem yrs {ex : Nat → Int32} {rs q w : Int32} (hex4 : ∀ k, k < 10 → 0 ≤ (ex k).toInt ∧ (ex k).toInt ≤ 4) (hrs : 0 ≤ rs.toInt ∧ 2 * rs.toInt = ysx 10 ex) (hq : 0 ≤ q.toInt ∧ q.toInt < 10) (hw : 0 ≤ w.toInt ∧ w.toInt < 10) (c : ¬ q = w) (c1 : ¬ ex q.toNatClampNeg = 4) (c2 : ¬ ex w.toNatClampNeg = 4) : 0 ≤ rs.toInt ∧ rs.toInt < 20 := by
  have h1 := yfree hex4 hq c1
  have h2 := yfree hex4 hw c2
  have h3 := ysx_le (ynat hq hw c) (by omega) (by omega) 10 (fun k hk => (hex4 k hk).2)
  rw [if_pos (xcl hq), if_pos (xcl hw)] at h3
  omega
def FX5_addExit (rs : Int32) (ex : Nat → Int32) (rd : Nat → Int32) (tt : Nat → Int32) (q : Int32) (w : Int32) : (Nat → Int32) × (Nat → Int32) × (Nat → Int32) :=
  (upd ex q.toNatClampNeg ((ex q.toNatClampNeg) + 1), upd rd ((4 * q) + (ex q.toNatClampNeg)).toNatClampNeg rs, upd tt ((4 * q) + (ex q.toNatClampNeg)).toNatClampNeg w)
set_option maxHeartbeats 40000000 in
set_option maxRecDepth 100000 in
theorem metX5_addExit (l : Launch) (G : xG) (sz : Nat) (aR : Nat) (rEx : Nat) (rRd : Nat) (rTo : Nat) (rMi : Nat) (rCl : Nat) (rSh : Nat) (rFa : Nat) (aS : Nat) (aH : Nat) (th : Int32) (pl : Int32) (rs : Int32) (ex : Nat → Int32) (rd : Nat → Int32) (tt : Nat → Int32) (q : Int32) (w : Int32) (hq : 0 ≤ q.toInt ∧ q.toInt < 10) (hfr : 0 ≤ (ex q.toNatClampNeg).toInt ∧ (ex q.toNatClampNeg).toInt < 4) : xM l yX5_addExit wsX5_addExit ⟨0, 0, 0, 0⟩ G [.ref aR, .int q, .int w] [xO aR 5 [.int th, .int pl, .ref rEx, .ref rRd, .ref rTo, .int rs, .ref rMi, .ref rCl, .ref rSh, .ref rFa, .ref aS, .ref aH], xAI G rEx 10 ex, xAI G rRd 40 rd, xAI G rTo 40 tt] sz (xQv G [xO aR 5 [.int th, .int pl, .ref rEx, .ref rRd, .ref rTo, .int rs, .ref rMi, .ref rCl, .ref rSh, .ref rFa, .ref aS, .ref aH], xAI G rEx 10 ex, xAI G rRd 40 rd, xAI G rTo 40 tt] sz (fun (u : (Nat → Int32) × (Nat → Int32) × (Nat → Int32)) => u = FX5_addExit rs ex rd tt q w) (fun u : (Nat → Int32) × (Nat → Int32) × (Nat → Int32) => [xO aR 5 [.int th, .int pl, .ref rEx, .ref rRd, .ref rTo, .int rs, .ref rMi, .ref rCl, .ref rSh, .ref rFa, .ref aS, .ref aH], xAI G rEx 10 u.1, xAI G rRd 40 u.2.1, xAI G rTo 40 u.2.2])) := by
  refine xof (own := RX5) (cc := cX5_addExit) (maxL := 3) (ret := none) rfl (by decide) rfl (Nat.le_of_ble_eq_true rfl) ?_
  intro pg en s mi below meth cd hc hnm hw ls hl
  obtain ⟨hx, hb, -, hown, hts, -⟩ := id hc
  have hl : lv_has ls 3 [(0, .ref aR), (1, .int q), (2, .int w)] := hl
  refine lv_aload_n hx hb dX5_addExit_0 rfl (lv_at hl 0 rfl) ?_
  refine xget (C := RX5) (T := TX5) (N := 12) hc hw inX5_addExit_X5 0 rfl rfl 3 (by decide) lkX5_addExit_f13 rfl rfl dX5_addExit_1 ?_
  refine lv_iconst (v := 4) hx hb dX5_addExit_4 (by decide) ?_
  refine lv_iload_n hx hb dX5_addExit_5 rfl (lv_at hl 1 rfl) ?_
  refine lv_imul hx hb dX5_addExit_6 ?_
  refine lv_aload_n hx hb dX5_addExit_7 rfl (lv_at hl 0 rfl) ?_
  refine xget (C := RX5) (T := TX5) (N := 12) hc hw inX5_addExit_X5 0 rfl rfl 2 (by decide) lkX5_addExit_f9 rfl rfl dX5_addExit_8 ?_
  refine lv_iload_n hx hb dX5_addExit_11 rfl (lv_at hl 1 rfl) ?_
  refine xiald hc hw 1 rfl (xin hq) dX5_addExit_12 ?_
  refine lv_iadd hx hb dX5_addExit_13 ?_
  refine lv_aload_n hx hb dX5_addExit_14 rfl (lv_at hl 0 rfl) ?_
  refine xget (C := RX5) (T := TX5) (N := 12) hc hw inX5_addExit_X5 0 rfl rfl 5 (by decide) lkX5_addExit_f64 rfl rfl dX5_addExit_15 ?_
  refine xiast hc hw 2 [xO aR 5 [.int th, .int pl, .ref rEx, .ref rRd, .ref rTo, .int rs, .ref rMi, .ref rCl, .ref rSh, .ref rFa, .ref aS, .ref aH], xAI G rEx 10 ex, xAI G rRd 40 (upd rd ((4 * q) + (ex q.toNatClampNeg)).toNatClampNeg rs), xAI G rTo 40 tt] rfl (xin (yq4in hq hfr)) rfl dX5_addExit_18 (fun H locs hw => ?_)
  refine lv_aload_n hx hb dX5_addExit_19 rfl (lv_at hl 0 rfl) ?_
  refine xget (C := RX5) (T := TX5) (N := 12) hc hw inX5_addExit_X5 0 rfl rfl 4 (by decide) lkX5_addExit_f16 rfl rfl dX5_addExit_20 ?_
  refine lv_iconst (v := 4) hx hb dX5_addExit_23 (by decide) ?_
  refine lv_iload_n hx hb dX5_addExit_24 rfl (lv_at hl 1 rfl) ?_
  refine lv_imul hx hb dX5_addExit_25 ?_
  refine lv_aload_n hx hb dX5_addExit_26 rfl (lv_at hl 0 rfl) ?_
  refine xget (C := RX5) (T := TX5) (N := 12) hc hw inX5_addExit_X5 0 rfl rfl 2 (by decide) lkX5_addExit_f9 rfl rfl dX5_addExit_27 ?_
  refine lv_iload_n hx hb dX5_addExit_30 rfl (lv_at hl 1 rfl) ?_
  refine xiald hc hw 1 rfl (xin hq) dX5_addExit_31 ?_
  refine lv_iadd hx hb dX5_addExit_32 ?_
  refine lv_iload_n hx hb dX5_addExit_33 rfl (lv_at hl 2 rfl) ?_
  refine xiast hc hw 3 [xO aR 5 [.int th, .int pl, .ref rEx, .ref rRd, .ref rTo, .int rs, .ref rMi, .ref rCl, .ref rSh, .ref rFa, .ref aS, .ref aH], xAI G rEx 10 ex, xAI G rRd 40 (upd rd ((4 * q) + (ex q.toNatClampNeg)).toNatClampNeg rs), xAI G rTo 40 (upd tt ((4 * q) + (ex q.toNatClampNeg)).toNatClampNeg w)] rfl (xin (yq4in hq hfr)) rfl dX5_addExit_34 (fun H locs hw => ?_)
  refine lv_aload_n hx hb dX5_addExit_35 rfl (lv_at hl 0 rfl) ?_
  refine xget (C := RX5) (T := TX5) (N := 12) hc hw inX5_addExit_X5 0 rfl rfl 2 (by decide) lkX5_addExit_f9 rfl rfl dX5_addExit_36 ?_
  refine lv_iload_n hx hb dX5_addExit_39 rfl (lv_at hl 1 rfl) ?_
  refine lv_dup2_11 hx hb dX5_addExit_40 rfl rfl ?_
  refine xiald hc hw 1 rfl (xin hq) dX5_addExit_41 ?_
  refine lv_iconst (v := 1) hx hb dX5_addExit_42 (by decide) ?_
  refine lv_iadd hx hb dX5_addExit_43 ?_
  refine xiast hc hw 1 [xO aR 5 [.int th, .int pl, .ref rEx, .ref rRd, .ref rTo, .int rs, .ref rMi, .ref rCl, .ref rSh, .ref rFa, .ref aS, .ref aH], xAI G rEx 10 (upd ex q.toNatClampNeg ((ex q.toNatClampNeg) + 1)), xAI G rRd 40 (upd rd ((4 * q) + (ex q.toNatClampNeg)).toNatClampNeg rs), xAI G rTo 40 (upd tt ((4 * q) + (ex q.toNatClampNeg)).toNatClampNeg w)] rfl (xin hq) rfl dX5_addExit_44 (fun H locs hw => ?_)
  obtain ⟨u0, hu0⟩ : ∃ z : (Nat → Int32) × (Nat → Int32) × (Nat → Int32), z = (upd ex q.toNatClampNeg ((ex q.toNatClampNeg) + 1), upd rd ((4 * q) + (ex q.toNatClampNeg)).toNatClampNeg rs, upd tt ((4 * q) + (ex q.toNatClampNeg)).toNatClampNeg w) := ⟨_, rfl⟩
  refine xret_v u0 hc ?_ ?_ ⟨Nat.le_of_ble_eq_true rfl, Nat.le_of_ble_eq_true rfl⟩ dX5_addExit_45
  · subst hu0; dsimp only; exact hw
  · subst hu0; exact Eq.symm rfl
theorem pX5_addExit {rs : Int32} {ex : Nat → Int32} {rd : Nat → Int32} {tt : Nat → Int32} {q : Int32} {w : Int32} {u : (Nat → Int32) × (Nat → Int32) × (Nat → Int32)} (h : u = FX5_addExit rs ex rd tt q w) (k : Nat) (hk : q.toNatClampNeg ≠ k) : u.1 k = ex k := by
  rw [h]
  unfold FX5_addExit
  exact if_neg (Ne.symm hk)
def FX5_addRoad (pl : Int32) (rs : Int32) (ex : Nat → Int32) (rd : Nat → Int32) (tt : Nat → Int32) (ml : Nat → Int32) (cz : Nat → Int32) (tr : Nat → Int32) (q : Int32) (w : Int32) (x : Int32) : Int32 × (Int32) × (Int32) × (Nat → Int32) × (Nat → Int32) × (Nat → Int32) × (Nat → Int32) × (Nat → Int32) × (Nat → Int32) :=
  xbind (FX5_isPlace pl q) (fun r2 => if r2 = 0 then (xbind2 (FX5_no 1) (fun r7 u6 => (r7, u6, rs, ex, rd, tt, ml, cz, tr))) else (xbind (FX5_isPlace pl w) (fun r11 => if r11 = 0 then (xbind2 (FX5_no 1) (fun r48 u47 => (r48, u47, rs, ex, rd, tt, ml, cz, tr))) else (if q = w then (xbind2 (FX5_no 2) (fun r17 u16 => (r17, u16, rs, ex, rd, tt, ml, cz, tr))) else (xbind (FX5_isIn x 1 9) (fun r21 => if r21 = 0 then (xbind2 (FX5_no 2) (fun r44 u43 => (r44, u43, rs, ex, rd, tt, ml, cz, tr))) else (if (ex q.toNatClampNeg) = 4 then (xbind2 (FX5_no 3) (fun r27 u26 => (r27, u26, rs, ex, rd, tt, ml, cz, tr))) else (if (ex w.toNatClampNeg) = 4 then (xbind2 (FX5_no 3) (fun r40 u39 => (r40, u39, rs, ex, rd, tt, ml, cz, tr))) else (xbind (FX5_addExit rs ex rd tt q w) (fun u31 => xbind (FX5_addExit rs u31.1 u31.2.1 u31.2.2 w q) (fun u35 => ((u35.1 q.toNatClampNeg) - 1, 0, rs + 1, u35.1, u35.2.1, u35.2.2, upd ml rs.toNatClampNeg x, upd cz rs.toNatClampNeg 0, upd tr rs.toNatClampNeg 0))))))))))))
set_option maxHeartbeats 40000000 in
set_option maxRecDepth 100000 in
theorem metX5_addRoad (l : Launch) (G : xG) (sz : Nat) (aR : Nat) (rEx : Nat) (rRd : Nat) (rTo : Nat) (rMi : Nat) (rCl : Nat) (rSh : Nat) (rFa : Nat) (aS : Nat) (aH : Nat) (sTr : Nat) (sAk : Nat) (sWy : Nat) (sXe : Nat) (sSg : Nat) (th : Int32) (pl : Int32) (rs : Int32) (ex : Nat → Int32) (rd : Nat → Int32) (tt : Nat → Int32) (ml : Nat → Int32) (cz : Nat → Int32) (po : Int32) (co : Int32) (go : Int32) (ln : Int32) (wk : Int32) (db : Int32) (dn : Int32) (iv : Int32) (qs : Int32) (tr : Nat → Int32) (q : Int32) (w : Int32) (x : Int32) (hpl : 0 ≤ pl.toInt ∧ pl.toInt ≤ 10) (hex4 : ∀ k, k < 10 → 0 ≤ (ex k).toInt ∧ (ex k).toInt ≤ 4) (hrs : 0 ≤ rs.toInt ∧ 2 * rs.toInt = ysx 10 ex) : xM l yX5_addRoad wsX5_addRoad ⟨2, 0, 0, 43⟩ G [.ref aR, .int q, .int w, .int x] [xO aR 5 [.int th, .int pl, .ref rEx, .ref rRd, .ref rTo, .int rs, .ref rMi, .ref rCl, .ref rSh, .ref rFa, .ref aS, .ref aH], xAI G rEx 10 ex, xAI G rRd 40 rd, xAI G rTo 40 tt, xAI G rMi 20 ml, xAZ G rCl 20 cz, xO aS 4 [.int po, .int co, .int go, .ref sTr, .ref sAk, .ref sWy, .int ln, .ref sXe, .ref sSg, .int wk, .int db, .int dn, .int iv, .int qs], xAZ G sTr 20 tr] sz (xQi G [xO aR 5 [.int th, .int pl, .ref rEx, .ref rRd, .ref rTo, .int rs, .ref rMi, .ref rCl, .ref rSh, .ref rFa, .ref aS, .ref aH], xAI G rEx 10 ex, xAI G rRd 40 rd, xAI G rTo 40 tt, xAI G rMi 20 ml, xAZ G rCl 20 cz, xO aS 4 [.int po, .int co, .int go, .ref sTr, .ref sAk, .ref sWy, .int ln, .ref sXe, .ref sSg, .int wk, .int db, .int dn, .int iv, .int qs], xAZ G sTr 20 tr] sz (fun (r : Int32) (u : (Int32) × (Int32) × (Nat → Int32) × (Nat → Int32) × (Nat → Int32) × (Nat → Int32) × (Nat → Int32) × (Nat → Int32)) => r = (FX5_addRoad pl rs ex rd tt ml cz tr q w x).1 ∧ u = (FX5_addRoad pl rs ex rd tt ml cz tr q w x).2) (fun u : (Int32) × (Int32) × (Nat → Int32) × (Nat → Int32) × (Nat → Int32) × (Nat → Int32) × (Nat → Int32) × (Nat → Int32) => [xO aR 5 [.int u.1, .int pl, .ref rEx, .ref rRd, .ref rTo, .int u.2.1, .ref rMi, .ref rCl, .ref rSh, .ref rFa, .ref aS, .ref aH], xAI G rEx 10 u.2.2.1, xAI G rRd 40 u.2.2.2.1, xAI G rTo 40 u.2.2.2.2.1, xAI G rMi 20 u.2.2.2.2.2.1, xAZ G rCl 20 u.2.2.2.2.2.2.1, xO aS 4 [.int po, .int co, .int go, .ref sTr, .ref sAk, .ref sWy, .int ln, .ref sXe, .ref sSg, .int wk, .int db, .int dn, .int iv, .int qs], xAZ G sTr 20 u.2.2.2.2.2.2.2])) := by
  refine xof (own := RX5) (cc := cX5_addRoad) (maxL := 4) (ret := (some .int)) rfl (by decide) rfl (Nat.le_of_ble_eq_true rfl) ?_
  intro pg en s mi below meth cd hc hnm hw ls hl
  obtain ⟨hx, hb, -, hown, hts, -⟩ := id hc
  have hl : lv_has ls 4 [(0, .ref aR), (1, .int q), (2, .int w), (3, .int x)] := hl
  refine lv_aload_n hx hb dX5_addRoad_0 rfl (lv_at hl 0 rfl) ?_
  refine lv_iconst (v := 0) hx hb dX5_addRoad_1 (by decide) ?_
  refine xput (C := RX5) (T := TX5) (N := 12) (ty := .int) hc hw inX5_addRoad_X5 tyX5 tyX5_ok nmX5 0 [xO aR 5 [.int 0, .int pl, .ref rEx, .ref rRd, .ref rTo, .int rs, .ref rMi, .ref rCl, .ref rSh, .ref rFa, .ref aS, .ref aH], xAI G rEx 10 ex, xAI G rRd 40 rd, xAI G rTo 40 tt, xAI G rMi 20 ml, xAZ G rCl 20 cz, xO aS 4 [.int po, .int co, .int go, .ref sTr, .ref sAk, .ref sWy, .int ln, .ref sXe, .ref sSg, .int wk, .int db, .int dn, .int iv, .int qs], xAZ G sTr 20 tr] rfl rfl 0 (by decide) lkX5_addRoad_f42 rfl rfl rfl rfl (Nat.le_of_ble_eq_true rfl) rfl dX5_addRoad_2 (fun H locs hw => ?_)
  refine lv_aload_n hx hb dX5_addRoad_5 rfl (lv_at hl 0 rfl) ?_
  refine lv_iload_n hx hb dX5_addRoad_6 rfl (lv_at hl 1 rfl) ?_
  refine xcall_i (isC := [0]) hc hw (xrunV (n := 1) (As := [.int q]) (rest := []) hc hw [0] (metX5_isPlace l G _ aR rEx rRd rTo rMi rCl rSh rFa aS aH 0 pl rs q) gX5_addRoad_X5_isPlace rfl (by decide +kernel) ⟨Nat.le_of_ble_eq_true rfl, Nat.le_of_ble_eq_true rfl⟩ 0 rfl rfl rfl rfl rfl rfl hl.1 (Nat.le_of_ble_eq_true rfl) dX5_addRoad_7 ⟨Nat.le_of_ble_eq_true rfl, Nat.le_of_ble_eq_true rfl⟩) rfl [1, 2, 3, 4, 5, 6, 7] [7, 0, 1, 2, 3, 4, 5, 6] (fun u1 => [xO aR 5 [.int 0, .int pl, .ref rEx, .ref rRd, .ref rTo, .int rs, .ref rMi, .ref rCl, .ref rSh, .ref rFa, .ref aS, .ref aH], xAI G rEx 10 ex, xAI G rRd 40 rd, xAI G rTo 40 tt, xAI G rMi 20 ml, xAZ G rCl 20 cz, xO aS 4 [.int po, .int co, .int go, .ref sTr, .ref sAk, .ref sWy, .int ln, .ref sXe, .ref sSg, .int wk, .int db, .int dn, .int iv, .int qs], xAZ G sTr 20 tr]) (fun _ => rfl) rfl rfl rfl rfl (fun r2 u1 H locs hp3 hw => ?_)
  refine lv_if_eq (tgt := 21) hx hb dX5_addRoad_10 (by decide) (fun c_5 => ?_) (fun c_5 => ?_)
  · refine lv_aload_n hx hb dX5_addRoad_21 rfl (lv_at hl 0 rfl) ?_
    refine lv_iconst (v := 1) hx hb dX5_addRoad_22 (by decide) ?_
    refine xcall_i (isC := [0]) hc hw (xrunV (n := 1) (As := [.int 1]) (rest := []) hc hw [0] (metX5_no l G _ aR rEx rRd rTo rMi rCl rSh rFa aS aH 0 pl rs 1) gX5_addRoad_X5_no rfl (by decide +kernel) ⟨Nat.le_of_ble_eq_true rfl, Nat.le_of_ble_eq_true rfl⟩ 0 rfl rfl rfl rfl rfl rfl hl.1 (Nat.le_of_ble_eq_true rfl) dX5_addRoad_23 ⟨Nat.le_of_ble_eq_true rfl, Nat.le_of_ble_eq_true rfl⟩) rfl [1, 2, 3, 4, 5, 6, 7] [7, 0, 1, 2, 3, 4, 5, 6] (fun u6 => [xO aR 5 [.int u6, .int pl, .ref rEx, .ref rRd, .ref rTo, .int rs, .ref rMi, .ref rCl, .ref rSh, .ref rFa, .ref aS, .ref aH], xAI G rEx 10 ex, xAI G rRd 40 rd, xAI G rTo 40 tt, xAI G rMi 20 ml, xAZ G rCl 20 cz, xO aS 4 [.int po, .int co, .int go, .ref sTr, .ref sAk, .ref sWy, .int ln, .ref sXe, .ref sSg, .int wk, .int db, .int dn, .int iv, .int qs], xAZ G sTr 20 tr]) (fun _ => rfl) rfl rfl rfl rfl (fun r7 u6 H locs hp8 hw => ?_)
    obtain ⟨u0, hu0⟩ : ∃ z : (Int32) × (Int32) × (Nat → Int32) × (Nat → Int32) × (Nat → Int32) × (Nat → Int32) × (Nat → Int32) × (Nat → Int32), z = (u6, rs, ex, rd, tt, ml, cz, tr) := ⟨_, rfl⟩
    refine xret_i u0 hc ?_ ?_ ⟨Nat.le_of_ble_eq_true rfl, Nat.le_of_ble_eq_true rfl⟩ dX5_addRoad_26
    · subst hu0; dsimp only; exact hw
    · subst hu0; exact xe2 (xb hp3 (Eq.trans (if_pos c_5) (xb2 hp8 rfl)))
  · refine lv_aload_n hx hb dX5_addRoad_13 rfl (lv_at hl 0 rfl) ?_
    refine lv_iload_n hx hb dX5_addRoad_14 rfl (lv_at hl 2 rfl) ?_
    refine xcall_i (isC := [0]) hc hw (xrunV (n := 1) (As := [.int w]) (rest := []) hc hw [0] (metX5_isPlace l G _ aR rEx rRd rTo rMi rCl rSh rFa aS aH 0 pl rs w) gX5_addRoad_X5_isPlace rfl (by decide +kernel) ⟨Nat.le_of_ble_eq_true rfl, Nat.le_of_ble_eq_true rfl⟩ 0 rfl rfl rfl rfl rfl rfl hl.1 (Nat.le_of_ble_eq_true rfl) dX5_addRoad_15 ⟨Nat.le_of_ble_eq_true rfl, Nat.le_of_ble_eq_true rfl⟩) rfl [1, 2, 3, 4, 5, 6, 7] [7, 0, 1, 2, 3, 4, 5, 6] (fun u10 => [xO aR 5 [.int 0, .int pl, .ref rEx, .ref rRd, .ref rTo, .int rs, .ref rMi, .ref rCl, .ref rSh, .ref rFa, .ref aS, .ref aH], xAI G rEx 10 ex, xAI G rRd 40 rd, xAI G rTo 40 tt, xAI G rMi 20 ml, xAZ G rCl 20 cz, xO aS 4 [.int po, .int co, .int go, .ref sTr, .ref sAk, .ref sWy, .int ln, .ref sXe, .ref sSg, .int wk, .int db, .int dn, .int iv, .int qs], xAZ G sTr 20 tr]) (fun _ => rfl) rfl rfl rfl rfl (fun r11 u10 H locs hp12 hw => ?_)
    refine lv_if_ne (tgt := 27) hx hb dX5_addRoad_18 (by decide) (fun c_14 => ?_) (fun c_14 => ?_)
    · refine lv_iload_n hx hb dX5_addRoad_27 rfl (lv_at hl 1 rfl) ?_
      refine lv_iload_n hx hb dX5_addRoad_28 rfl (lv_at hl 2 rfl) ?_
      refine lv_icmp_eq (tgt := 42) hx hb dX5_addRoad_29 (by decide) (fun c_15 => ?_) (fun c_15 => ?_)
      · refine lv_aload_n hx hb dX5_addRoad_42 rfl (lv_at hl 0 rfl) ?_
        refine lv_iconst (v := 2) hx hb dX5_addRoad_43 (by decide) ?_
        refine xcall_i (isC := [0]) hc hw (xrunV (n := 1) (As := [.int 2]) (rest := []) hc hw [0] (metX5_no l G _ aR rEx rRd rTo rMi rCl rSh rFa aS aH 0 pl rs 2) gX5_addRoad_X5_no rfl (by decide +kernel) ⟨Nat.le_of_ble_eq_true rfl, Nat.le_of_ble_eq_true rfl⟩ 0 rfl rfl rfl rfl rfl rfl hl.1 (Nat.le_of_ble_eq_true rfl) dX5_addRoad_44 ⟨Nat.le_of_ble_eq_true rfl, Nat.le_of_ble_eq_true rfl⟩) rfl [1, 2, 3, 4, 5, 6, 7] [7, 0, 1, 2, 3, 4, 5, 6] (fun u16 => [xO aR 5 [.int u16, .int pl, .ref rEx, .ref rRd, .ref rTo, .int rs, .ref rMi, .ref rCl, .ref rSh, .ref rFa, .ref aS, .ref aH], xAI G rEx 10 ex, xAI G rRd 40 rd, xAI G rTo 40 tt, xAI G rMi 20 ml, xAZ G rCl 20 cz, xO aS 4 [.int po, .int co, .int go, .ref sTr, .ref sAk, .ref sWy, .int ln, .ref sXe, .ref sSg, .int wk, .int db, .int dn, .int iv, .int qs], xAZ G sTr 20 tr]) (fun _ => rfl) rfl rfl rfl rfl (fun r17 u16 H locs hp18 hw => ?_)
        obtain ⟨u0, hu0⟩ : ∃ z : (Int32) × (Int32) × (Nat → Int32) × (Nat → Int32) × (Nat → Int32) × (Nat → Int32) × (Nat → Int32) × (Nat → Int32), z = (u16, rs, ex, rd, tt, ml, cz, tr) := ⟨_, rfl⟩
        refine xret_i u0 hc ?_ ?_ ⟨Nat.le_of_ble_eq_true rfl, Nat.le_of_ble_eq_true rfl⟩ dX5_addRoad_47
        · subst hu0; dsimp only; exact hw
        · subst hu0; exact xe2 (xb hp3 (Eq.trans (if_neg c_5) (xb hp12 (Eq.trans (if_neg c_14) (Eq.trans (if_pos c_15) (xb2 hp18 rfl))))))
      · refine lv_iload_n hx hb dX5_addRoad_32 rfl (lv_at hl 3 rfl) ?_
        refine lv_iconst (v := 1) hx hb dX5_addRoad_33 (by decide) ?_
        refine lv_bipush (v := 9) hx hb dX5_addRoad_34 (by decide) ?_
        refine xcall_i (isC := []) hc hw (xrunS (n := 3) (As := [.int x, .int 1, .int 9]) (rest := []) hc hw [] (metX5_isIn l G _ x 1 9) gX5_addRoad_X5_isIn rfl (by decide +kernel) ⟨Nat.le_of_ble_eq_true rfl, Nat.le_of_ble_eq_true rfl⟩ rfl rfl rfl rfl hl.1 (Nat.le_of_ble_eq_true rfl) dX5_addRoad_36 ⟨Nat.le_of_ble_eq_true rfl, Nat.le_of_ble_eq_true rfl⟩) rfl [0, 1, 2, 3, 4, 5, 6, 7] [0, 1, 2, 3, 4, 5, 6, 7] (fun u20 => [xO aR 5 [.int 0, .int pl, .ref rEx, .ref rRd, .ref rTo, .int rs, .ref rMi, .ref rCl, .ref rSh, .ref rFa, .ref aS, .ref aH], xAI G rEx 10 ex, xAI G rRd 40 rd, xAI G rTo 40 tt, xAI G rMi 20 ml, xAZ G rCl 20 cz, xO aS 4 [.int po, .int co, .int go, .ref sTr, .ref sAk, .ref sWy, .int ln, .ref sXe, .ref sSg, .int wk, .int db, .int dn, .int iv, .int qs], xAZ G sTr 20 tr]) (fun _ => rfl) rfl rfl rfl rfl (fun r21 u20 H locs hp22 hw => ?_)
        refine lv_if_ne (tgt := 48) hx hb dX5_addRoad_39 (by decide) (fun c_24 => ?_) (fun c_24 => ?_)
        · refine lv_aload_n hx hb dX5_addRoad_48 rfl (lv_at hl 0 rfl) ?_
          refine xget (C := RX5) (T := TX5) (N := 12) hc hw inX5_addRoad_X5 0 rfl rfl 2 (by decide) lkX5_addRoad_f9 rfl rfl dX5_addRoad_49 ?_
          refine lv_iload_n hx hb dX5_addRoad_52 rfl (lv_at hl 1 rfl) ?_
          refine xiald hc hw 1 rfl (xin (pX5_isPlace10 hpl hp3 c_5)) dX5_addRoad_53 ?_
          refine lv_iconst (v := 4) hx hb dX5_addRoad_54 (by decide) ?_
          refine lv_icmp_eq (tgt := 68) hx hb dX5_addRoad_55 (by decide) (fun c_25 => ?_) (fun c_25 => ?_)
          · refine lv_aload_n hx hb dX5_addRoad_68 rfl (lv_at hl 0 rfl) ?_
            refine lv_iconst (v := 3) hx hb dX5_addRoad_69 (by decide) ?_
            refine xcall_i (isC := [0]) hc hw (xrunV (n := 1) (As := [.int 3]) (rest := []) hc hw [0] (metX5_no l G _ aR rEx rRd rTo rMi rCl rSh rFa aS aH 0 pl rs 3) gX5_addRoad_X5_no rfl (by decide +kernel) ⟨Nat.le_of_ble_eq_true rfl, Nat.le_of_ble_eq_true rfl⟩ 0 rfl rfl rfl rfl rfl rfl hl.1 (Nat.le_of_ble_eq_true rfl) dX5_addRoad_70 ⟨Nat.le_of_ble_eq_true rfl, Nat.le_of_ble_eq_true rfl⟩) rfl [1, 2, 3, 4, 5, 6, 7] [7, 0, 1, 2, 3, 4, 5, 6] (fun u26 => [xO aR 5 [.int u26, .int pl, .ref rEx, .ref rRd, .ref rTo, .int rs, .ref rMi, .ref rCl, .ref rSh, .ref rFa, .ref aS, .ref aH], xAI G rEx 10 ex, xAI G rRd 40 rd, xAI G rTo 40 tt, xAI G rMi 20 ml, xAZ G rCl 20 cz, xO aS 4 [.int po, .int co, .int go, .ref sTr, .ref sAk, .ref sWy, .int ln, .ref sXe, .ref sSg, .int wk, .int db, .int dn, .int iv, .int qs], xAZ G sTr 20 tr]) (fun _ => rfl) rfl rfl rfl rfl (fun r27 u26 H locs hp28 hw => ?_)
            obtain ⟨u0, hu0⟩ : ∃ z : (Int32) × (Int32) × (Nat → Int32) × (Nat → Int32) × (Nat → Int32) × (Nat → Int32) × (Nat → Int32) × (Nat → Int32), z = (u26, rs, ex, rd, tt, ml, cz, tr) := ⟨_, rfl⟩
            refine xret_i u0 hc ?_ ?_ ⟨Nat.le_of_ble_eq_true rfl, Nat.le_of_ble_eq_true rfl⟩ dX5_addRoad_73
            · subst hu0; dsimp only; exact hw
            · subst hu0; exact xe2 (xb hp3 (Eq.trans (if_neg c_5) (xb hp12 (Eq.trans (if_neg c_14) (Eq.trans (if_neg c_15) (xb hp22 (Eq.trans (if_neg c_24) (Eq.trans (if_pos c_25) (xb2 hp28 rfl)))))))))
          · refine lv_aload_n hx hb dX5_addRoad_58 rfl (lv_at hl 0 rfl) ?_
            refine xget (C := RX5) (T := TX5) (N := 12) hc hw inX5_addRoad_X5 0 rfl rfl 2 (by decide) lkX5_addRoad_f9 rfl rfl dX5_addRoad_59 ?_
            refine lv_iload_n hx hb dX5_addRoad_62 rfl (lv_at hl 2 rfl) ?_
            refine xiald hc hw 1 rfl (xin (pX5_isPlace10 hpl hp12 c_14)) dX5_addRoad_63 ?_
            refine lv_iconst (v := 4) hx hb dX5_addRoad_64 (by decide) ?_
            refine lv_icmp_ne (tgt := 74) hx hb dX5_addRoad_65 (by decide) (fun c_30 => ?_) (fun c_30 => ?_)
            · refine lv_aload_n hx hb dX5_addRoad_74 rfl (lv_at hl 0 rfl) ?_
              refine xget (C := RX5) (T := TX5) (N := 12) hc hw inX5_addRoad_X5 0 rfl rfl 6 (by decide) lkX5_addRoad_f19 rfl rfl dX5_addRoad_75 ?_
              refine lv_aload_n hx hb dX5_addRoad_78 rfl (lv_at hl 0 rfl) ?_
              refine xget (C := RX5) (T := TX5) (N := 12) hc hw inX5_addRoad_X5 0 rfl rfl 5 (by decide) lkX5_addRoad_f64 rfl rfl dX5_addRoad_79 ?_
              refine lv_iload_n hx hb dX5_addRoad_82 rfl (lv_at hl 3 rfl) ?_
              refine xiast hc hw 4 [xO aR 5 [.int 0, .int pl, .ref rEx, .ref rRd, .ref rTo, .int rs, .ref rMi, .ref rCl, .ref rSh, .ref rFa, .ref aS, .ref aH], xAI G rEx 10 ex, xAI G rRd 40 rd, xAI G rTo 40 tt, xAI G rMi 20 (upd ml rs.toNatClampNeg x), xAZ G rCl 20 cz, xO aS 4 [.int po, .int co, .int go, .ref sTr, .ref sAk, .ref sWy, .int ln, .ref sXe, .ref sSg, .int wk, .int db, .int dn, .int iv, .int qs], xAZ G sTr 20 tr] rfl (xin (yrs hex4 hrs (pX5_isPlace10 hpl hp3 c_5) (pX5_isPlace10 hpl hp12 c_14) c_15 c_25 c_30)) rfl dX5_addRoad_83 (fun H locs hw => ?_)
              refine lv_aload_n hx hb dX5_addRoad_84 rfl (lv_at hl 0 rfl) ?_
              refine xget (C := RX5) (T := TX5) (N := 12) hc hw inX5_addRoad_X5 0 rfl rfl 7 (by decide) lkX5_addRoad_f22 rfl rfl dX5_addRoad_85 ?_
              refine lv_aload_n hx hb dX5_addRoad_88 rfl (lv_at hl 0 rfl) ?_
              refine xget (C := RX5) (T := TX5) (N := 12) hc hw inX5_addRoad_X5 0 rfl rfl 5 (by decide) lkX5_addRoad_f64 rfl rfl dX5_addRoad_89 ?_
              refine lv_iconst (v := 0) hx hb dX5_addRoad_92 (by decide) ?_
              refine xzast hc hw 5 [xO aR 5 [.int 0, .int pl, .ref rEx, .ref rRd, .ref rTo, .int rs, .ref rMi, .ref rCl, .ref rSh, .ref rFa, .ref aS, .ref aH], xAI G rEx 10 ex, xAI G rRd 40 rd, xAI G rTo 40 tt, xAI G rMi 20 (upd ml rs.toNatClampNeg x), xAZ G rCl 20 (upd cz rs.toNatClampNeg 0), xO aS 4 [.int po, .int co, .int go, .ref sTr, .ref sAk, .ref sWy, .int ln, .ref sXe, .ref sSg, .int wk, .int db, .int dn, .int iv, .int qs], xAZ G sTr 20 tr] rfl (xin (yrs hex4 hrs (pX5_isPlace10 hpl hp3 c_5) (pX5_isPlace10 hpl hp12 c_14) c_15 c_25 c_30)) rfl rfl dX5_addRoad_93 (fun H locs hw => ?_)
              refine lv_aload_n hx hb dX5_addRoad_94 rfl (lv_at hl 0 rfl) ?_
              refine xget (C := RX5) (T := TX5) (N := 12) hc hw inX5_addRoad_X5 0 rfl rfl 10 (by decide) lkX5_addRoad_f35 rfl rfl dX5_addRoad_95 ?_
              refine xgetN (C := RX4) (T := TX4) (N := 14) hc hw inX5_addRoad_X4 6 rfl rfl 3 (by decide) nkX5_67 rfl rfl dX5_addRoad_98 ?_
              refine lv_aload_n hx hb dX5_addRoad_101 rfl (lv_at hl 0 rfl) ?_
              refine xget (C := RX5) (T := TX5) (N := 12) hc hw inX5_addRoad_X5 0 rfl rfl 5 (by decide) lkX5_addRoad_f64 rfl rfl dX5_addRoad_102 ?_
              refine lv_iconst (v := 0) hx hb dX5_addRoad_105 (by decide) ?_
              refine xzast hc hw 7 [xO aR 5 [.int 0, .int pl, .ref rEx, .ref rRd, .ref rTo, .int rs, .ref rMi, .ref rCl, .ref rSh, .ref rFa, .ref aS, .ref aH], xAI G rEx 10 ex, xAI G rRd 40 rd, xAI G rTo 40 tt, xAI G rMi 20 (upd ml rs.toNatClampNeg x), xAZ G rCl 20 (upd cz rs.toNatClampNeg 0), xO aS 4 [.int po, .int co, .int go, .ref sTr, .ref sAk, .ref sWy, .int ln, .ref sXe, .ref sSg, .int wk, .int db, .int dn, .int iv, .int qs], xAZ G sTr 20 (upd tr rs.toNatClampNeg 0)] rfl (xin (yrs hex4 hrs (pX5_isPlace10 hpl hp3 c_5) (pX5_isPlace10 hpl hp12 c_14) c_15 c_25 c_30)) rfl rfl dX5_addRoad_106 (fun H locs hw => ?_)
              refine lv_aload_n hx hb dX5_addRoad_107 rfl (lv_at hl 0 rfl) ?_
              refine lv_iload_n hx hb dX5_addRoad_108 rfl (lv_at hl 1 rfl) ?_
              refine lv_iload_n hx hb dX5_addRoad_109 rfl (lv_at hl 2 rfl) ?_
              refine xcall_v (isC := [0, 1, 2, 3]) hc hw (xrunV (n := 2) (As := [.int q, .int w]) (rest := []) hc hw [0, 1, 2, 3] (metX5_addExit l G _ aR rEx rRd rTo rMi rCl rSh rFa aS aH 0 pl rs ex rd tt q w (pX5_isPlace10 hpl hp3 c_5) (yfree hex4 (pX5_isPlace10 hpl hp3 c_5) c_25)) gX5_addRoad_X5_addExit rfl (by decide +kernel) ⟨Nat.le_of_ble_eq_true rfl, Nat.le_of_ble_eq_true rfl⟩ 0 rfl rfl rfl rfl rfl rfl hl.1 (Nat.le_of_ble_eq_true rfl) dX5_addRoad_110 ⟨Nat.le_of_ble_eq_true rfl, Nat.le_of_ble_eq_true rfl⟩) rfl [4, 5, 6, 7] [4, 5, 6, 7, 0, 1, 2, 3] (fun u31 => [xO aR 5 [.int 0, .int pl, .ref rEx, .ref rRd, .ref rTo, .int rs, .ref rMi, .ref rCl, .ref rSh, .ref rFa, .ref aS, .ref aH], xAI G rEx 10 u31.1, xAI G rRd 40 u31.2.1, xAI G rTo 40 u31.2.2, xAI G rMi 20 (upd ml rs.toNatClampNeg x), xAZ G rCl 20 (upd cz rs.toNatClampNeg 0), xO aS 4 [.int po, .int co, .int go, .ref sTr, .ref sAk, .ref sWy, .int ln, .ref sXe, .ref sSg, .int wk, .int db, .int dn, .int iv, .int qs], xAZ G sTr 20 (upd tr rs.toNatClampNeg 0)]) (fun _ => rfl) rfl rfl rfl rfl (fun u31 H locs hp33 hw => ?_)
              refine lv_aload_n hx hb dX5_addRoad_113 rfl (lv_at hl 0 rfl) ?_
              refine lv_iload_n hx hb dX5_addRoad_114 rfl (lv_at hl 2 rfl) ?_
              refine lv_iload_n hx hb dX5_addRoad_115 rfl (lv_at hl 1 rfl) ?_
              refine xcall_v (isC := [0, 1, 2, 3]) hc hw (xrunV (n := 2) (As := [.int w, .int q]) (rest := []) hc hw [0, 1, 2, 3] (metX5_addExit l G _ aR rEx rRd rTo rMi rCl rSh rFa aS aH 0 pl rs u31.1 u31.2.1 u31.2.2 w q (pX5_isPlace10 hpl hp12 c_14) (by rw [pX5_addExit hp33 _ (ynat (pX5_isPlace10 hpl hp3 c_5) (pX5_isPlace10 hpl hp12 c_14) c_15)]; exact yfree hex4 (pX5_isPlace10 hpl hp12 c_14) c_30)) gX5_addRoad_X5_addExit rfl (by decide +kernel) ⟨Nat.le_of_ble_eq_true rfl, Nat.le_of_ble_eq_true rfl⟩ 0 rfl rfl rfl rfl rfl rfl hl.1 (Nat.le_of_ble_eq_true rfl) dX5_addRoad_116 ⟨Nat.le_of_ble_eq_true rfl, Nat.le_of_ble_eq_true rfl⟩) rfl [4, 5, 6, 7] [4, 5, 6, 7, 0, 1, 2, 3] (fun u35 => [xO aR 5 [.int 0, .int pl, .ref rEx, .ref rRd, .ref rTo, .int rs, .ref rMi, .ref rCl, .ref rSh, .ref rFa, .ref aS, .ref aH], xAI G rEx 10 u35.1, xAI G rRd 40 u35.2.1, xAI G rTo 40 u35.2.2, xAI G rMi 20 (upd ml rs.toNatClampNeg x), xAZ G rCl 20 (upd cz rs.toNatClampNeg 0), xO aS 4 [.int po, .int co, .int go, .ref sTr, .ref sAk, .ref sWy, .int ln, .ref sXe, .ref sSg, .int wk, .int db, .int dn, .int iv, .int qs], xAZ G sTr 20 (upd tr rs.toNatClampNeg 0)]) (fun _ => rfl) rfl rfl rfl rfl (fun u35 H locs hp37 hw => ?_)
              refine lv_aload_n hx hb dX5_addRoad_119 rfl (lv_at hl 0 rfl) ?_
              refine lv_dup hx hb dX5_addRoad_120 rfl ?_
              refine xget (C := RX5) (T := TX5) (N := 12) hc hw inX5_addRoad_X5 0 rfl rfl 5 (by decide) lkX5_addRoad_f64 rfl rfl dX5_addRoad_121 ?_
              refine lv_iconst (v := 1) hx hb dX5_addRoad_124 (by decide) ?_
              refine lv_iadd hx hb dX5_addRoad_125 ?_
              refine xput (C := RX5) (T := TX5) (N := 12) (ty := .int) hc hw inX5_addRoad_X5 tyX5 tyX5_ok nmX5 0 [xO aR 5 [.int 0, .int pl, .ref rEx, .ref rRd, .ref rTo, .int (rs + 1), .ref rMi, .ref rCl, .ref rSh, .ref rFa, .ref aS, .ref aH], xAI G rEx 10 u35.1, xAI G rRd 40 u35.2.1, xAI G rTo 40 u35.2.2, xAI G rMi 20 (upd ml rs.toNatClampNeg x), xAZ G rCl 20 (upd cz rs.toNatClampNeg 0), xO aS 4 [.int po, .int co, .int go, .ref sTr, .ref sAk, .ref sWy, .int ln, .ref sXe, .ref sSg, .int wk, .int db, .int dn, .int iv, .int qs], xAZ G sTr 20 (upd tr rs.toNatClampNeg 0)] rfl rfl 5 (by decide) lkX5_addRoad_f64 rfl rfl rfl rfl (Nat.le_of_ble_eq_true rfl) rfl dX5_addRoad_126 (fun H locs hw => ?_)
              refine lv_aload_n hx hb dX5_addRoad_129 rfl (lv_at hl 0 rfl) ?_
              refine xget (C := RX5) (T := TX5) (N := 12) hc hw inX5_addRoad_X5 0 rfl rfl 2 (by decide) lkX5_addRoad_f9 rfl rfl dX5_addRoad_130 ?_
              refine lv_iload_n hx hb dX5_addRoad_133 rfl (lv_at hl 1 rfl) ?_
              refine xiald hc hw 1 rfl (xin (pX5_isPlace10 hpl hp3 c_5)) dX5_addRoad_134 ?_
              refine lv_iconst (v := 1) hx hb dX5_addRoad_135 (by decide) ?_
              refine lv_isub hx hb dX5_addRoad_136 ?_
              obtain ⟨u0, hu0⟩ : ∃ z : (Int32) × (Int32) × (Nat → Int32) × (Nat → Int32) × (Nat → Int32) × (Nat → Int32) × (Nat → Int32) × (Nat → Int32), z = (0, rs + 1, u35.1, u35.2.1, u35.2.2, upd ml rs.toNatClampNeg x, upd cz rs.toNatClampNeg 0, upd tr rs.toNatClampNeg 0) := ⟨_, rfl⟩
              refine xret_i u0 hc ?_ ?_ ⟨Nat.le_of_ble_eq_true rfl, Nat.le_of_ble_eq_true rfl⟩ dX5_addRoad_137
              · subst hu0; dsimp only; exact hw
              · subst hu0; exact xe2 (xb hp3 (Eq.trans (if_neg c_5) (xb hp12 (Eq.trans (if_neg c_14) (Eq.trans (if_neg c_15) (xb hp22 (Eq.trans (if_neg c_24) (Eq.trans (if_neg c_25) (Eq.trans (if_neg c_30) (xb hp33 (xb hp37 rfl)))))))))))
            · refine lv_aload_n hx hb dX5_addRoad_68 rfl (lv_at hl 0 rfl) ?_
              refine lv_iconst (v := 3) hx hb dX5_addRoad_69 (by decide) ?_
              refine xcall_i (isC := [0]) hc hw (xrunV (n := 1) (As := [.int 3]) (rest := []) hc hw [0] (metX5_no l G _ aR rEx rRd rTo rMi rCl rSh rFa aS aH 0 pl rs 3) gX5_addRoad_X5_no rfl (by decide +kernel) ⟨Nat.le_of_ble_eq_true rfl, Nat.le_of_ble_eq_true rfl⟩ 0 rfl rfl rfl rfl rfl rfl hl.1 (Nat.le_of_ble_eq_true rfl) dX5_addRoad_70 ⟨Nat.le_of_ble_eq_true rfl, Nat.le_of_ble_eq_true rfl⟩) rfl [1, 2, 3, 4, 5, 6, 7] [7, 0, 1, 2, 3, 4, 5, 6] (fun u39 => [xO aR 5 [.int u39, .int pl, .ref rEx, .ref rRd, .ref rTo, .int rs, .ref rMi, .ref rCl, .ref rSh, .ref rFa, .ref aS, .ref aH], xAI G rEx 10 ex, xAI G rRd 40 rd, xAI G rTo 40 tt, xAI G rMi 20 ml, xAZ G rCl 20 cz, xO aS 4 [.int po, .int co, .int go, .ref sTr, .ref sAk, .ref sWy, .int ln, .ref sXe, .ref sSg, .int wk, .int db, .int dn, .int iv, .int qs], xAZ G sTr 20 tr]) (fun _ => rfl) rfl rfl rfl rfl (fun r40 u39 H locs hp41 hw => ?_)
              obtain ⟨u0, hu0⟩ : ∃ z : (Int32) × (Int32) × (Nat → Int32) × (Nat → Int32) × (Nat → Int32) × (Nat → Int32) × (Nat → Int32) × (Nat → Int32), z = (u39, rs, ex, rd, tt, ml, cz, tr) := ⟨_, rfl⟩
              refine xret_i u0 hc ?_ ?_ ⟨Nat.le_of_ble_eq_true rfl, Nat.le_of_ble_eq_true rfl⟩ dX5_addRoad_73
              · subst hu0; dsimp only; exact hw
              · subst hu0; exact xe2 (xb hp3 (Eq.trans (if_neg c_5) (xb hp12 (Eq.trans (if_neg c_14) (Eq.trans (if_neg c_15) (xb hp22 (Eq.trans (if_neg c_24) (Eq.trans (if_neg c_25) (Eq.trans (if_pos c_30) (xb2 hp41 rfl))))))))))
        · refine lv_aload_n hx hb dX5_addRoad_42 rfl (lv_at hl 0 rfl) ?_
          refine lv_iconst (v := 2) hx hb dX5_addRoad_43 (by decide) ?_
          refine xcall_i (isC := [0]) hc hw (xrunV (n := 1) (As := [.int 2]) (rest := []) hc hw [0] (metX5_no l G _ aR rEx rRd rTo rMi rCl rSh rFa aS aH 0 pl rs 2) gX5_addRoad_X5_no rfl (by decide +kernel) ⟨Nat.le_of_ble_eq_true rfl, Nat.le_of_ble_eq_true rfl⟩ 0 rfl rfl rfl rfl rfl rfl hl.1 (Nat.le_of_ble_eq_true rfl) dX5_addRoad_44 ⟨Nat.le_of_ble_eq_true rfl, Nat.le_of_ble_eq_true rfl⟩) rfl [1, 2, 3, 4, 5, 6, 7] [7, 0, 1, 2, 3, 4, 5, 6] (fun u43 => [xO aR 5 [.int u43, .int pl, .ref rEx, .ref rRd, .ref rTo, .int rs, .ref rMi, .ref rCl, .ref rSh, .ref rFa, .ref aS, .ref aH], xAI G rEx 10 ex, xAI G rRd 40 rd, xAI G rTo 40 tt, xAI G rMi 20 ml, xAZ G rCl 20 cz, xO aS 4 [.int po, .int co, .int go, .ref sTr, .ref sAk, .ref sWy, .int ln, .ref sXe, .ref sSg, .int wk, .int db, .int dn, .int iv, .int qs], xAZ G sTr 20 tr]) (fun _ => rfl) rfl rfl rfl rfl (fun r44 u43 H locs hp45 hw => ?_)
          obtain ⟨u0, hu0⟩ : ∃ z : (Int32) × (Int32) × (Nat → Int32) × (Nat → Int32) × (Nat → Int32) × (Nat → Int32) × (Nat → Int32) × (Nat → Int32), z = (u43, rs, ex, rd, tt, ml, cz, tr) := ⟨_, rfl⟩
          refine xret_i u0 hc ?_ ?_ ⟨Nat.le_of_ble_eq_true rfl, Nat.le_of_ble_eq_true rfl⟩ dX5_addRoad_47
          · subst hu0; dsimp only; exact hw
          · subst hu0; exact xe2 (xb hp3 (Eq.trans (if_neg c_5) (xb hp12 (Eq.trans (if_neg c_14) (Eq.trans (if_neg c_15) (xb hp22 (Eq.trans (if_pos c_24) (xb2 hp45 rfl))))))))
    · refine lv_aload_n hx hb dX5_addRoad_21 rfl (lv_at hl 0 rfl) ?_
      refine lv_iconst (v := 1) hx hb dX5_addRoad_22 (by decide) ?_
      refine xcall_i (isC := [0]) hc hw (xrunV (n := 1) (As := [.int 1]) (rest := []) hc hw [0] (metX5_no l G _ aR rEx rRd rTo rMi rCl rSh rFa aS aH 0 pl rs 1) gX5_addRoad_X5_no rfl (by decide +kernel) ⟨Nat.le_of_ble_eq_true rfl, Nat.le_of_ble_eq_true rfl⟩ 0 rfl rfl rfl rfl rfl rfl hl.1 (Nat.le_of_ble_eq_true rfl) dX5_addRoad_23 ⟨Nat.le_of_ble_eq_true rfl, Nat.le_of_ble_eq_true rfl⟩) rfl [1, 2, 3, 4, 5, 6, 7] [7, 0, 1, 2, 3, 4, 5, 6] (fun u47 => [xO aR 5 [.int u47, .int pl, .ref rEx, .ref rRd, .ref rTo, .int rs, .ref rMi, .ref rCl, .ref rSh, .ref rFa, .ref aS, .ref aH], xAI G rEx 10 ex, xAI G rRd 40 rd, xAI G rTo 40 tt, xAI G rMi 20 ml, xAZ G rCl 20 cz, xO aS 4 [.int po, .int co, .int go, .ref sTr, .ref sAk, .ref sWy, .int ln, .ref sXe, .ref sSg, .int wk, .int db, .int dn, .int iv, .int qs], xAZ G sTr 20 tr]) (fun _ => rfl) rfl rfl rfl rfl (fun r48 u47 H locs hp49 hw => ?_)
      obtain ⟨u0, hu0⟩ : ∃ z : (Int32) × (Int32) × (Nat → Int32) × (Nat → Int32) × (Nat → Int32) × (Nat → Int32) × (Nat → Int32) × (Nat → Int32), z = (u47, rs, ex, rd, tt, ml, cz, tr) := ⟨_, rfl⟩
      refine xret_i u0 hc ?_ ?_ ⟨Nat.le_of_ble_eq_true rfl, Nat.le_of_ble_eq_true rfl⟩ dX5_addRoad_26
      · subst hu0; dsimp only; exact hw
      · subst hu0; exact xe2 (xb hp3 (Eq.trans (if_neg c_5) (xb hp12 (Eq.trans (if_pos c_14) (xb2 hp49 rfl)))))
