theorem pX5_isExit {pl q x r : Int32} {ex : Nat → Int32} (hpl : 0 ≤ pl.toInt ∧ pl.toInt ≤ 10) (hex4 : ∀ k, k < 10 → 0 ≤ (ex k).toInt ∧ (ex k).toInt ≤ 4) (h : r = FX5_isExit pl ex q x) (c : ¬ r = 0) : (0 ≤ q.toInt ∧ q.toInt < 10) ∧ 0 ≤ x.toInt ∧ x.toInt < 4 ∧ x.toInt < (ex q.toNatClampNeg).toInt ∧ q.toInt < pl.toInt := by
  subst h
  unfold FX5_isExit at c
  dsimp only [xbind, xbind2] at c
  split at c
  · exact absurd rfl c
  · rename_i h1
    split at c
    · exact absurd rfl c
    · rename_i h2
      have h3 := pX5_isPlace10 hpl rfl h1
      have h5 := pX5_isPlace hpl rfl h1
      have h4 := hex4 _ (xcl h3)
      have h6 := pX5_isIn rfl h2
      rw [xsub1 (by omega), show (0 : Int32).toInt = 0 from rfl] at h6
      omega
theorem yd4 {x : Int32} (h : 0 ≤ x.toInt ∧ x.toInt < 40) : (x / 4).toInt = x.toInt / 4 := by
  obtain ⟨j, h1, h2, h3⟩ := xofI h.1
  rw [h2, show (4 : Int32) = nI 4 from rfl, pk_div h1 (by decide) (by decide), nI_toInt (by omega), nI_toInt (by omega)]
  omega
theorem yd4in {x : Int32} (h : 0 ≤ x.toInt ∧ x.toInt < 40) : 0 ≤ (x / 4).toInt ∧ (x / 4).toInt < 10 := by
  rw [yd4 h]; omega
theorem y4pl {pl : Int32} (h : 0 ≤ pl.toInt ∧ pl.toInt ≤ 10) : (4 * pl).toInt = 4 * pl.toInt := by
  obtain ⟨j, h1, h2, h3⟩ := xofI h.1
  rw [h2, show (4 : Int32) = nI 4 from rfl, pk_mul, nI_toInt (by omega), nI_toInt (by omega)]
  omega
theorem yi40 {pl : Int32} {i : Nat} (hpl : 0 ≤ pl.toInt ∧ pl.toInt ≤ 10) (hlo : ((i : Nat) : Int) ≤ (4 * pl : Int32).toInt) (h : ¬ 4 * pl ≤ nI i) : 0 ≤ (nI i).toInt ∧ (nI i).toInt < 40 := by
  have h2 := xlt2 hlo h
  rw [y4pl hpl] at h2
  omega
def FX5_turnRoad (pl : Int32) (ex : Nat → Int32) (rd : Nat → Int32) (cz : Nat → Int32) (q : Int32) (x : Int32) : Int32 × (Int32) × (Nat → Int32) :=
  xbind (FX5_isExit pl ex q x) (fun r2 => if r2 = 0 then (xbind2 (FX5_isNot 1) (fun r10 u9 => (r10, u9, cz))) else (if (cz (rd ((4 * q) + x).toNatClampNeg).toNatClampNeg) = 0 then (if ((upd cz (rd ((4 * q) + x).toNatClampNeg).toNatClampNeg 1) (rd ((4 * q) + x).toNatClampNeg).toNatClampNeg) = 0 then ((1, 0, upd cz (rd ((4 * q) + x).toNatClampNeg).toNatClampNeg 1)) else ((0, 0, upd cz (rd ((4 * q) + x).toNatClampNeg).toNatClampNeg 1))) else (if ((upd cz (rd ((4 * q) + x).toNatClampNeg).toNatClampNeg 0) (rd ((4 * q) + x).toNatClampNeg).toNatClampNeg) = 0 then ((1, 0, upd cz (rd ((4 * q) + x).toNatClampNeg).toNatClampNeg 0)) else ((0, 0, upd cz (rd ((4 * q) + x).toNatClampNeg).toNatClampNeg 0)))))
set_option maxHeartbeats 40000000 in
set_option maxRecDepth 100000 in
theorem metX5_turnRoad (l : Launch) (G : xG) (sz : Nat) (aR : Nat) (rEx : Nat) (rRd : Nat) (rTo : Nat) (rMi : Nat) (rCl : Nat) (rSh : Nat) (rFa : Nat) (aS : Nat) (aH : Nat) (th : Int32) (pl : Int32) (rs : Int32) (ex : Nat → Int32) (rd : Nat → Int32) (cz : Nat → Int32) (q : Int32) (x : Int32) (hpl : 0 ≤ pl.toInt ∧ pl.toInt ≤ 10) (hex4 : ∀ k, k < 10 → 0 ≤ (ex k).toInt ∧ (ex k).toInt ≤ 4) (hrd : ∀ k, k < 40 → 0 ≤ (rd k).toInt ∧ (rd k).toInt < 20) : xM l yX5_turnRoad wsX5_turnRoad ⟨3, 0, 0, 65⟩ G [.ref aR, .int q, .int x] [xO aR 5 [.int th, .int pl, .ref rEx, .ref rRd, .ref rTo, .int rs, .ref rMi, .ref rCl, .ref rSh, .ref rFa, .ref aS, .ref aH], xAI G rEx 10 ex, xAI G rRd 40 rd, xAZ G rCl 20 cz] sz (xQi G [xO aR 5 [.int th, .int pl, .ref rEx, .ref rRd, .ref rTo, .int rs, .ref rMi, .ref rCl, .ref rSh, .ref rFa, .ref aS, .ref aH], xAI G rEx 10 ex, xAI G rRd 40 rd, xAZ G rCl 20 cz] sz (fun (r : Int32) (u : (Int32) × (Nat → Int32)) => r = (FX5_turnRoad pl ex rd cz q x).1 ∧ u = (FX5_turnRoad pl ex rd cz q x).2) (fun u : (Int32) × (Nat → Int32) => [xO aR 5 [.int u.1, .int pl, .ref rEx, .ref rRd, .ref rTo, .int rs, .ref rMi, .ref rCl, .ref rSh, .ref rFa, .ref aS, .ref aH], xAI G rEx 10 ex, xAI G rRd 40 rd, xAZ G rCl 20 u.2])) := by
  refine xof (own := RX5) (cc := cX5_turnRoad) (maxL := 4) (ret := (some .boolean)) rfl (by decide) rfl (Nat.le_of_ble_eq_true rfl) ?_
  intro pg en s mi below meth cd hc hnm hw ls hl
  obtain ⟨hx, hb, -, hown, hts, -⟩ := id hc
  have hl : lv_has ls 4 [(0, .ref aR), (1, .int q), (2, .int x)] := hl
  refine lv_aload_n hx hb dX5_turnRoad_0 rfl (lv_at hl 0 rfl) ?_
  refine lv_iconst (v := 0) hx hb dX5_turnRoad_1 (by decide) ?_
  refine xput (C := RX5) (T := TX5) (N := 12) (ty := .int) hc hw inX5_turnRoad_X5 tyX5 tyX5_ok nmX5 0 [xO aR 5 [.int 0, .int pl, .ref rEx, .ref rRd, .ref rTo, .int rs, .ref rMi, .ref rCl, .ref rSh, .ref rFa, .ref aS, .ref aH], xAI G rEx 10 ex, xAI G rRd 40 rd, xAZ G rCl 20 cz] rfl rfl 0 (by decide) lkX5_turnRoad_f42 rfl rfl rfl rfl (Nat.le_of_ble_eq_true rfl) rfl dX5_turnRoad_2 (fun H locs hw => ?_)
  refine lv_aload_n hx hb dX5_turnRoad_5 rfl (lv_at hl 0 rfl) ?_
  refine lv_iload_n hx hb dX5_turnRoad_6 rfl (lv_at hl 1 rfl) ?_
  refine lv_iload_n hx hb dX5_turnRoad_7 rfl (lv_at hl 2 rfl) ?_
  refine xcall_i (isC := [0, 1]) hc hw (xrunV (n := 2) (As := [.int q, .int x]) (rest := []) hc hw [0, 1] (metX5_isExit l G _ aR rEx rRd rTo rMi rCl rSh rFa aS aH 0 pl rs ex q x hpl) gX5_turnRoad_X5_isExit rfl (by decide +kernel) ⟨Nat.le_of_ble_eq_true rfl, Nat.le_of_ble_eq_true rfl⟩ 0 rfl rfl rfl rfl rfl rfl hl.1 (Nat.le_of_ble_eq_true rfl) dX5_turnRoad_8 ⟨Nat.le_of_ble_eq_true rfl, Nat.le_of_ble_eq_true rfl⟩) rfl [2, 3] [2, 3, 0, 1] (fun u1 => [xO aR 5 [.int 0, .int pl, .ref rEx, .ref rRd, .ref rTo, .int rs, .ref rMi, .ref rCl, .ref rSh, .ref rFa, .ref aS, .ref aH], xAI G rEx 10 ex, xAI G rRd 40 rd, xAZ G rCl 20 cz]) (fun _ => rfl) rfl rfl rfl rfl (fun r2 u1 H locs hp3 hw => ?_)
  refine lv_if_ne (tgt := 20) hx hb dX5_turnRoad_11 (by decide) (fun c_5 => ?_) (fun c_5 => ?_)
  · refine lv_aload_n hx hb dX5_turnRoad_20 rfl (lv_at hl 0 rfl) ?_
    refine xget (C := RX5) (T := TX5) (N := 12) hc hw inX5_turnRoad_X5 0 rfl rfl 3 (by decide) lkX5_turnRoad_f13 rfl rfl dX5_turnRoad_21 ?_
    refine lv_iconst (v := 4) hx hb dX5_turnRoad_24 (by decide) ?_
    refine lv_iload_n hx hb dX5_turnRoad_25 rfl (lv_at hl 1 rfl) ?_
    refine lv_imul hx hb dX5_turnRoad_26 ?_
    refine lv_iload_n hx hb dX5_turnRoad_27 rfl (lv_at hl 2 rfl) ?_
    refine lv_iadd hx hb dX5_turnRoad_28 ?_
    refine xiald hc hw 2 rfl (xin (yq4in (pX5_isExit hpl hex4 hp3 c_5).1 ⟨(pX5_isExit hpl hex4 hp3 c_5).2.1, (pX5_isExit hpl hex4 hp3 c_5).2.2.1⟩)) dX5_turnRoad_29 ?_
    refine lv_istore_n (lv' := [(3, .int (rd ((4 * q) + x).toNatClampNeg)), (0, .ref aR), (1, .int q), (2, .int x)]) hx hb dX5_turnRoad_30 rfl hl (by decide) rfl (fun ls hl => ?_)
    refine lv_aload_n hx hb dX5_turnRoad_31 rfl (lv_at hl 1 rfl) ?_
    refine xget (C := RX5) (T := TX5) (N := 12) hc hw inX5_turnRoad_X5 0 rfl rfl 7 (by decide) lkX5_turnRoad_f22 rfl rfl dX5_turnRoad_32 ?_
    refine lv_iload_n hx hb dX5_turnRoad_35 rfl (lv_at hl 0 rfl) ?_
    refine lv_aload_n hx hb dX5_turnRoad_36 rfl (lv_at hl 1 rfl) ?_
    refine xget (C := RX5) (T := TX5) (N := 12) hc hw inX5_turnRoad_X5 0 rfl rfl 7 (by decide) lkX5_turnRoad_f22 rfl rfl dX5_turnRoad_37 ?_
    refine lv_iload_n hx hb dX5_turnRoad_40 rfl (lv_at hl 0 rfl) ?_
    refine xzald hc hw 3 rfl (xin (hrd _ (xcl (yq4in (pX5_isExit hpl hex4 hp3 c_5).1 ⟨(pX5_isExit hpl hex4 hp3 c_5).2.1, (pX5_isExit hpl hex4 hp3 c_5).2.2.1⟩)))) dX5_turnRoad_41 ?_
    refine lv_if_ne (tgt := 49) hx hb dX5_turnRoad_42 (by decide) (fun c_6 => ?_) (fun c_6 => ?_)
    · refine lv_iconst (v := 0) hx hb dX5_turnRoad_49 (by decide) ?_
      refine xzast hc hw 3 [xO aR 5 [.int 0, .int pl, .ref rEx, .ref rRd, .ref rTo, .int rs, .ref rMi, .ref rCl, .ref rSh, .ref rFa, .ref aS, .ref aH], xAI G rEx 10 ex, xAI G rRd 40 rd, xAZ G rCl 20 (upd cz (rd ((4 * q) + x).toNatClampNeg).toNatClampNeg 0)] rfl (xin (hrd _ (xcl (yq4in (pX5_isExit hpl hex4 hp3 c_5).1 ⟨(pX5_isExit hpl hex4 hp3 c_5).2.1, (pX5_isExit hpl hex4 hp3 c_5).2.2.1⟩)))) rfl rfl dX5_turnRoad_50 (fun H locs hw => ?_)
      refine lv_aload_n hx hb dX5_turnRoad_51 rfl (lv_at hl 1 rfl) ?_
      refine xget (C := RX5) (T := TX5) (N := 12) hc hw inX5_turnRoad_X5 0 rfl rfl 7 (by decide) lkX5_turnRoad_f22 rfl rfl dX5_turnRoad_52 ?_
      refine lv_iload_n hx hb dX5_turnRoad_55 rfl (lv_at hl 0 rfl) ?_
      refine xzald hc hw 3 rfl (xin (hrd _ (xcl (yq4in (pX5_isExit hpl hex4 hp3 c_5).1 ⟨(pX5_isExit hpl hex4 hp3 c_5).2.1, (pX5_isExit hpl hex4 hp3 c_5).2.2.1⟩)))) dX5_turnRoad_56 ?_
      refine lv_if_ne (tgt := 64) hx hb dX5_turnRoad_57 (by decide) (fun c_7 => ?_) (fun c_7 => ?_)
      · refine lv_iconst (v := 0) hx hb dX5_turnRoad_64 (by decide) ?_
        obtain ⟨u0, hu0⟩ : ∃ z : (Int32) × (Nat → Int32), z = (0, upd cz (rd ((4 * q) + x).toNatClampNeg).toNatClampNeg 0) := ⟨_, rfl⟩
        refine xret_z u0 hc ?_ rfl ?_ ⟨Nat.le_of_ble_eq_true rfl, Nat.le_of_ble_eq_true rfl⟩ dX5_turnRoad_65
        · subst hu0; dsimp only; exact hw
        · subst hu0; exact xe2 (xb hp3 (Eq.trans (if_neg c_5) (Eq.trans (if_neg c_6) (if_neg c_7))))
      · refine lv_iconst (v := 1) hx hb dX5_turnRoad_60 (by decide) ?_
        refine lv_goto (tgt := 65) hx hb dX5_turnRoad_61 (by decide) ?_
        obtain ⟨u0, hu0⟩ : ∃ z : (Int32) × (Nat → Int32), z = (0, upd cz (rd ((4 * q) + x).toNatClampNeg).toNatClampNeg 0) := ⟨_, rfl⟩
        refine xret_z u0 hc ?_ rfl ?_ ⟨Nat.le_of_ble_eq_true rfl, Nat.le_of_ble_eq_true rfl⟩ dX5_turnRoad_65
        · subst hu0; dsimp only; exact hw
        · subst hu0; exact xe2 (xb hp3 (Eq.trans (if_neg c_5) (Eq.trans (if_neg c_6) (if_pos c_7))))
    · refine lv_iconst (v := 1) hx hb dX5_turnRoad_45 (by decide) ?_
      refine lv_goto (tgt := 50) hx hb dX5_turnRoad_46 (by decide) ?_
      refine xzast hc hw 3 [xO aR 5 [.int 0, .int pl, .ref rEx, .ref rRd, .ref rTo, .int rs, .ref rMi, .ref rCl, .ref rSh, .ref rFa, .ref aS, .ref aH], xAI G rEx 10 ex, xAI G rRd 40 rd, xAZ G rCl 20 (upd cz (rd ((4 * q) + x).toNatClampNeg).toNatClampNeg 1)] rfl (xin (hrd _ (xcl (yq4in (pX5_isExit hpl hex4 hp3 c_5).1 ⟨(pX5_isExit hpl hex4 hp3 c_5).2.1, (pX5_isExit hpl hex4 hp3 c_5).2.2.1⟩)))) rfl rfl dX5_turnRoad_50 (fun H locs hw => ?_)
      refine lv_aload_n hx hb dX5_turnRoad_51 rfl (lv_at hl 1 rfl) ?_
      refine xget (C := RX5) (T := TX5) (N := 12) hc hw inX5_turnRoad_X5 0 rfl rfl 7 (by decide) lkX5_turnRoad_f22 rfl rfl dX5_turnRoad_52 ?_
      refine lv_iload_n hx hb dX5_turnRoad_55 rfl (lv_at hl 0 rfl) ?_
      refine xzald hc hw 3 rfl (xin (hrd _ (xcl (yq4in (pX5_isExit hpl hex4 hp3 c_5).1 ⟨(pX5_isExit hpl hex4 hp3 c_5).2.1, (pX5_isExit hpl hex4 hp3 c_5).2.2.1⟩)))) dX5_turnRoad_56 ?_
      refine lv_if_ne (tgt := 64) hx hb dX5_turnRoad_57 (by decide) (fun c_8 => ?_) (fun c_8 => ?_)
      · refine lv_iconst (v := 0) hx hb dX5_turnRoad_64 (by decide) ?_
        obtain ⟨u0, hu0⟩ : ∃ z : (Int32) × (Nat → Int32), z = (0, upd cz (rd ((4 * q) + x).toNatClampNeg).toNatClampNeg 1) := ⟨_, rfl⟩
        refine xret_z u0 hc ?_ rfl ?_ ⟨Nat.le_of_ble_eq_true rfl, Nat.le_of_ble_eq_true rfl⟩ dX5_turnRoad_65
        · subst hu0; dsimp only; exact hw
        · subst hu0; exact xe2 (xb hp3 (Eq.trans (if_neg c_5) (Eq.trans (if_pos c_6) (if_neg c_8))))
      · refine lv_iconst (v := 1) hx hb dX5_turnRoad_60 (by decide) ?_
        refine lv_goto (tgt := 65) hx hb dX5_turnRoad_61 (by decide) ?_
        obtain ⟨u0, hu0⟩ : ∃ z : (Int32) × (Nat → Int32), z = (0, upd cz (rd ((4 * q) + x).toNatClampNeg).toNatClampNeg 1) := ⟨_, rfl⟩
        refine xret_z u0 hc ?_ rfl ?_ ⟨Nat.le_of_ble_eq_true rfl, Nat.le_of_ble_eq_true rfl⟩ dX5_turnRoad_65
        · subst hu0; dsimp only; exact hw
        · subst hu0; exact xe2 (xb hp3 (Eq.trans (if_neg c_5) (Eq.trans (if_pos c_6) (if_pos c_8))))
  · refine lv_aload_n hx hb dX5_turnRoad_14 rfl (lv_at hl 0 rfl) ?_
    refine lv_iconst (v := 1) hx hb dX5_turnRoad_15 (by decide) ?_
    refine xcall_i (isC := [0]) hc hw (xrunV (n := 1) (As := [.int 1]) (rest := []) hc hw [0] (metX5_isNot l G _ aR rEx rRd rTo rMi rCl rSh rFa aS aH 0 pl rs 1) gX5_turnRoad_X5_isNot rfl (by decide +kernel) ⟨Nat.le_of_ble_eq_true rfl, Nat.le_of_ble_eq_true rfl⟩ 0 rfl rfl rfl rfl rfl rfl hl.1 (Nat.le_of_ble_eq_true rfl) dX5_turnRoad_16 ⟨Nat.le_of_ble_eq_true rfl, Nat.le_of_ble_eq_true rfl⟩) rfl [1, 2, 3] [3, 0, 1, 2] (fun u9 => [xO aR 5 [.int u9, .int pl, .ref rEx, .ref rRd, .ref rTo, .int rs, .ref rMi, .ref rCl, .ref rSh, .ref rFa, .ref aS, .ref aH], xAI G rEx 10 ex, xAI G rRd 40 rd, xAZ G rCl 20 cz]) (fun _ => rfl) rfl rfl rfl rfl (fun r10 u9 H locs hp11 hw => ?_)
    obtain ⟨u0, hu0⟩ : ∃ z : (Int32) × (Nat → Int32), z = (u9, cz) := ⟨_, rfl⟩
    refine xret_z u0 hc ?_ (by exact ynot hp11.1) ?_ ⟨Nat.le_of_ble_eq_true rfl, Nat.le_of_ble_eq_true rfl⟩ dX5_turnRoad_19
    · subst hu0; dsimp only; exact hw
    · subst hu0; exact xe2 (xb hp3 (Eq.trans (if_pos c_5) (xb2 hp11 rfl)))
def FX5_turnShepherd (pl : Int32) (sh : Nat → Int32) (q : Int32) : Int32 × (Int32) × (Nat → Int32) :=
  xbind (FX5_isPlace pl q) (fun r2 => if r2 = 0 then (xbind2 (FX5_isNot 1) (fun r8 u7 => (r8, u7, sh))) else (if (sh q.toNatClampNeg) = 0 then (((upd sh q.toNatClampNeg 1) q.toNatClampNeg, 0, upd sh q.toNatClampNeg 1)) else (((upd sh q.toNatClampNeg 0) q.toNatClampNeg, 0, upd sh q.toNatClampNeg 0))))
set_option maxHeartbeats 40000000 in
set_option maxRecDepth 100000 in
theorem metX5_turnShepherd (l : Launch) (G : xG) (sz : Nat) (aR : Nat) (rEx : Nat) (rRd : Nat) (rTo : Nat) (rMi : Nat) (rCl : Nat) (rSh : Nat) (rFa : Nat) (aS : Nat) (aH : Nat) (th : Int32) (pl : Int32) (rs : Int32) (sh : Nat → Int32) (q : Int32) (hpl : 0 ≤ pl.toInt ∧ pl.toInt ≤ 10) : xM l yX5_turnShepherd wsX5_turnShepherd ⟨2, 0, 0, 43⟩ G [.ref aR, .int q] [xO aR 5 [.int th, .int pl, .ref rEx, .ref rRd, .ref rTo, .int rs, .ref rMi, .ref rCl, .ref rSh, .ref rFa, .ref aS, .ref aH], xAZ G rSh 10 sh] sz (xQi G [xO aR 5 [.int th, .int pl, .ref rEx, .ref rRd, .ref rTo, .int rs, .ref rMi, .ref rCl, .ref rSh, .ref rFa, .ref aS, .ref aH], xAZ G rSh 10 sh] sz (fun (r : Int32) (u : (Int32) × (Nat → Int32)) => r = (FX5_turnShepherd pl sh q).1 ∧ u = (FX5_turnShepherd pl sh q).2) (fun u : (Int32) × (Nat → Int32) => [xO aR 5 [.int u.1, .int pl, .ref rEx, .ref rRd, .ref rTo, .int rs, .ref rMi, .ref rCl, .ref rSh, .ref rFa, .ref aS, .ref aH], xAZ G rSh 10 u.2])) := by
  refine xof (own := RX5) (cc := cX5_turnShepherd) (maxL := 2) (ret := (some .boolean)) rfl (by decide) rfl (Nat.le_of_ble_eq_true rfl) ?_
  intro pg en s mi below meth cd hc hnm hw ls hl
  obtain ⟨hx, hb, -, hown, hts, -⟩ := id hc
  have hl : lv_has ls 2 [(0, .ref aR), (1, .int q)] := hl
  refine lv_aload_n hx hb dX5_turnShepherd_0 rfl (lv_at hl 0 rfl) ?_
  refine lv_iconst (v := 0) hx hb dX5_turnShepherd_1 (by decide) ?_
  refine xput (C := RX5) (T := TX5) (N := 12) (ty := .int) hc hw inX5_turnShepherd_X5 tyX5 tyX5_ok nmX5 0 [xO aR 5 [.int 0, .int pl, .ref rEx, .ref rRd, .ref rTo, .int rs, .ref rMi, .ref rCl, .ref rSh, .ref rFa, .ref aS, .ref aH], xAZ G rSh 10 sh] rfl rfl 0 (by decide) lkX5_turnShepherd_f42 rfl rfl rfl rfl (Nat.le_of_ble_eq_true rfl) rfl dX5_turnShepherd_2 (fun H locs hw => ?_)
  refine lv_aload_n hx hb dX5_turnShepherd_5 rfl (lv_at hl 0 rfl) ?_
  refine lv_iload_n hx hb dX5_turnShepherd_6 rfl (lv_at hl 1 rfl) ?_
  refine xcall_i (isC := [0]) hc hw (xrunV (n := 1) (As := [.int q]) (rest := []) hc hw [0] (metX5_isPlace l G _ aR rEx rRd rTo rMi rCl rSh rFa aS aH 0 pl rs q) gX5_turnShepherd_X5_isPlace rfl (by decide +kernel) ⟨Nat.le_of_ble_eq_true rfl, Nat.le_of_ble_eq_true rfl⟩ 0 rfl rfl rfl rfl rfl rfl hl.1 (Nat.le_of_ble_eq_true rfl) dX5_turnShepherd_7 ⟨Nat.le_of_ble_eq_true rfl, Nat.le_of_ble_eq_true rfl⟩) rfl [1] [1, 0] (fun u1 => [xO aR 5 [.int 0, .int pl, .ref rEx, .ref rRd, .ref rTo, .int rs, .ref rMi, .ref rCl, .ref rSh, .ref rFa, .ref aS, .ref aH], xAZ G rSh 10 sh]) (fun _ => rfl) rfl rfl rfl rfl (fun r2 u1 H locs hp3 hw => ?_)
  refine lv_if_ne (tgt := 19) hx hb dX5_turnShepherd_10 (by decide) (fun c_5 => ?_) (fun c_5 => ?_)
  · refine lv_aload_n hx hb dX5_turnShepherd_19 rfl (lv_at hl 0 rfl) ?_
    refine xget (C := RX5) (T := TX5) (N := 12) hc hw inX5_turnShepherd_X5 0 rfl rfl 8 (by decide) lkX5_turnShepherd_f26 rfl rfl dX5_turnShepherd_20 ?_
    refine lv_iload_n hx hb dX5_turnShepherd_23 rfl (lv_at hl 1 rfl) ?_
    refine lv_aload_n hx hb dX5_turnShepherd_24 rfl (lv_at hl 0 rfl) ?_
    refine xget (C := RX5) (T := TX5) (N := 12) hc hw inX5_turnShepherd_X5 0 rfl rfl 8 (by decide) lkX5_turnShepherd_f26 rfl rfl dX5_turnShepherd_25 ?_
    refine lv_iload_n hx hb dX5_turnShepherd_28 rfl (lv_at hl 1 rfl) ?_
    refine xzald hc hw 1 rfl (xin (pX5_isPlace10 hpl hp3 c_5)) dX5_turnShepherd_29 ?_
    refine lv_if_ne (tgt := 37) hx hb dX5_turnShepherd_30 (by decide) (fun c_6 => ?_) (fun c_6 => ?_)
    · refine lv_iconst (v := 0) hx hb dX5_turnShepherd_37 (by decide) ?_
      refine xzast hc hw 1 [xO aR 5 [.int 0, .int pl, .ref rEx, .ref rRd, .ref rTo, .int rs, .ref rMi, .ref rCl, .ref rSh, .ref rFa, .ref aS, .ref aH], xAZ G rSh 10 (upd sh q.toNatClampNeg 0)] rfl (xin (pX5_isPlace10 hpl hp3 c_5)) rfl rfl dX5_turnShepherd_38 (fun H locs hw => ?_)
      refine lv_aload_n hx hb dX5_turnShepherd_39 rfl (lv_at hl 0 rfl) ?_
      refine xget (C := RX5) (T := TX5) (N := 12) hc hw inX5_turnShepherd_X5 0 rfl rfl 8 (by decide) lkX5_turnShepherd_f26 rfl rfl dX5_turnShepherd_40 ?_
      refine lv_iload_n hx hb dX5_turnShepherd_43 rfl (lv_at hl 1 rfl) ?_
      refine xzald hc hw 1 rfl (xin (pX5_isPlace10 hpl hp3 c_5)) dX5_turnShepherd_44 ?_
      obtain ⟨u0, hu0⟩ : ∃ z : (Int32) × (Nat → Int32), z = (0, upd sh q.toNatClampNeg 0) := ⟨_, rfl⟩
      refine xret_z u0 hc ?_ (by exact xz01 (by simp [upd])) ?_ ⟨Nat.le_of_ble_eq_true rfl, Nat.le_of_ble_eq_true rfl⟩ dX5_turnShepherd_45
      · subst hu0; dsimp only; exact hw
      · subst hu0; exact xe2 (xb hp3 (Eq.trans (if_neg c_5) (if_neg c_6)))
    · refine lv_iconst (v := 1) hx hb dX5_turnShepherd_33 (by decide) ?_
      refine lv_goto (tgt := 38) hx hb dX5_turnShepherd_34 (by decide) ?_
      refine xzast hc hw 1 [xO aR 5 [.int 0, .int pl, .ref rEx, .ref rRd, .ref rTo, .int rs, .ref rMi, .ref rCl, .ref rSh, .ref rFa, .ref aS, .ref aH], xAZ G rSh 10 (upd sh q.toNatClampNeg 1)] rfl (xin (pX5_isPlace10 hpl hp3 c_5)) rfl rfl dX5_turnShepherd_38 (fun H locs hw => ?_)
      refine lv_aload_n hx hb dX5_turnShepherd_39 rfl (lv_at hl 0 rfl) ?_
      refine xget (C := RX5) (T := TX5) (N := 12) hc hw inX5_turnShepherd_X5 0 rfl rfl 8 (by decide) lkX5_turnShepherd_f26 rfl rfl dX5_turnShepherd_40 ?_
      refine lv_iload_n hx hb dX5_turnShepherd_43 rfl (lv_at hl 1 rfl) ?_
      refine xzald hc hw 1 rfl (xin (pX5_isPlace10 hpl hp3 c_5)) dX5_turnShepherd_44 ?_
      obtain ⟨u0, hu0⟩ : ∃ z : (Int32) × (Nat → Int32), z = (0, upd sh q.toNatClampNeg 1) := ⟨_, rfl⟩
      refine xret_z u0 hc ?_ (by exact xz01 (by simp [upd])) ?_ ⟨Nat.le_of_ble_eq_true rfl, Nat.le_of_ble_eq_true rfl⟩ dX5_turnShepherd_45
      · subst hu0; dsimp only; exact hw
      · subst hu0; exact xe2 (xb hp3 (Eq.trans (if_neg c_5) (if_pos c_6)))
  · refine lv_aload_n hx hb dX5_turnShepherd_13 rfl (lv_at hl 0 rfl) ?_
    refine lv_iconst (v := 1) hx hb dX5_turnShepherd_14 (by decide) ?_
    refine xcall_i (isC := [0]) hc hw (xrunV (n := 1) (As := [.int 1]) (rest := []) hc hw [0] (metX5_isNot l G _ aR rEx rRd rTo rMi rCl rSh rFa aS aH 0 pl rs 1) gX5_turnShepherd_X5_isNot rfl (by decide +kernel) ⟨Nat.le_of_ble_eq_true rfl, Nat.le_of_ble_eq_true rfl⟩ 0 rfl rfl rfl rfl rfl rfl hl.1 (Nat.le_of_ble_eq_true rfl) dX5_turnShepherd_15 ⟨Nat.le_of_ble_eq_true rfl, Nat.le_of_ble_eq_true rfl⟩) rfl [1] [1, 0] (fun u7 => [xO aR 5 [.int u7, .int pl, .ref rEx, .ref rRd, .ref rTo, .int rs, .ref rMi, .ref rCl, .ref rSh, .ref rFa, .ref aS, .ref aH], xAZ G rSh 10 sh]) (fun _ => rfl) rfl rfl rfl rfl (fun r8 u7 H locs hp9 hw => ?_)
    obtain ⟨u0, hu0⟩ : ∃ z : (Int32) × (Nat → Int32), z = (u7, sh) := ⟨_, rfl⟩
    refine xret_z u0 hc ?_ (by exact ynot hp9.1) ?_ ⟨Nat.le_of_ble_eq_true rfl, Nat.le_of_ble_eq_true rfl⟩ dX5_turnShepherd_18
    · subst hu0; dsimp only; exact hw
    · subst hu0; exact xe2 (xb hp3 (Eq.trans (if_pos c_5) (xb2 hp9 rfl)))
def FX5_canTake (rd : Nat → Int32) (cz : Nat → Int32) (tr : Nat → Int32) (e1 : Int32) : Int32 :=
  if (cz (rd e1.toNatClampNeg).toNatClampNeg) = 0 then (if (tr (rd e1.toNatClampNeg).toNatClampNeg) = 0 then (1) else (0)) else (0)
set_option maxHeartbeats 40000000 in
set_option maxRecDepth 100000 in
theorem metX5_canTake (l : Launch) (G : xG) (sz : Nat) (aR : Nat) (rEx : Nat) (rRd : Nat) (rTo : Nat) (rMi : Nat) (rCl : Nat) (rSh : Nat) (rFa : Nat) (aS : Nat) (aH : Nat) (aO : Nat) (oTr : Nat) (oAk : Nat) (oWy : Nat) (oXe : Nat) (oSg : Nat) (th : Int32) (pl : Int32) (rs : Int32) (rd : Nat → Int32) (cz : Nat → Int32) (po : Int32) (co : Int32) (go : Int32) (ln : Int32) (wk : Int32) (db : Int32) (dn : Int32) (iv : Int32) (qs : Int32) (tr : Nat → Int32) (e1 : Int32) (hrd : ∀ k, k < 40 → 0 ≤ (rd k).toInt ∧ (rd k).toInt < 20) (he : 0 ≤ e1.toInt ∧ e1.toInt < 40) : xM l yX5_canTake wsX5_canTake ⟨0, 0, 0, 0⟩ G [.ref aR, .ref aO, .int e1] [xO aR 5 [.int th, .int pl, .ref rEx, .ref rRd, .ref rTo, .int rs, .ref rMi, .ref rCl, .ref rSh, .ref rFa, .ref aS, .ref aH], xAI G rRd 40 rd, xAZ G rCl 20 cz, xO aO 4 [.int po, .int co, .int go, .ref oTr, .ref oAk, .ref oWy, .int ln, .ref oXe, .ref oSg, .int wk, .int db, .int dn, .int iv, .int qs], xAZ G oTr 20 tr] sz (xQi G [xO aR 5 [.int th, .int pl, .ref rEx, .ref rRd, .ref rTo, .int rs, .ref rMi, .ref rCl, .ref rSh, .ref rFa, .ref aS, .ref aH], xAI G rRd 40 rd, xAZ G rCl 20 cz, xO aO 4 [.int po, .int co, .int go, .ref oTr, .ref oAk, .ref oWy, .int ln, .ref oXe, .ref oSg, .int wk, .int db, .int dn, .int iv, .int qs], xAZ G oTr 20 tr] sz (fun (r : Int32) (_ : Unit) => r = FX5_canTake rd cz tr e1) (fun u : Unit => [xO aR 5 [.int th, .int pl, .ref rEx, .ref rRd, .ref rTo, .int rs, .ref rMi, .ref rCl, .ref rSh, .ref rFa, .ref aS, .ref aH], xAI G rRd 40 rd, xAZ G rCl 20 cz, xO aO 4 [.int po, .int co, .int go, .ref oTr, .ref oAk, .ref oWy, .int ln, .ref oXe, .ref oSg, .int wk, .int db, .int dn, .int iv, .int qs], xAZ G oTr 20 tr])) := by
  refine xof (own := RX5) (cc := cX5_canTake) (maxL := 3) (ret := (some .boolean)) rfl (by decide) rfl (Nat.le_of_ble_eq_true rfl) ?_
  intro pg en s mi below meth cd hc hnm hw ls hl
  obtain ⟨hx, hb, -, hown, hts, -⟩ := id hc
  have hl : lv_has ls 3 [(0, .ref aR), (1, .ref aO), (2, .int e1)] := hl
  refine lv_aload_n hx hb dX5_canTake_0 rfl (lv_at hl 0 rfl) ?_
  refine xget (C := RX5) (T := TX5) (N := 12) hc hw inX5_canTake_X5 0 rfl rfl 7 (by decide) lkX5_canTake_f22 rfl rfl dX5_canTake_1 ?_
  refine lv_aload_n hx hb dX5_canTake_4 rfl (lv_at hl 0 rfl) ?_
  refine xget (C := RX5) (T := TX5) (N := 12) hc hw inX5_canTake_X5 0 rfl rfl 3 (by decide) lkX5_canTake_f13 rfl rfl dX5_canTake_5 ?_
  refine lv_iload_n hx hb dX5_canTake_8 rfl (lv_at hl 2 rfl) ?_
  refine xiald hc hw 1 rfl (xin he) dX5_canTake_9 ?_
  refine xzald hc hw 2 rfl (xin (hrd _ (xcl he))) dX5_canTake_10 ?_
  refine lv_if_ne (tgt := 32) hx hb dX5_canTake_11 (by decide) (fun c_1 => ?_) (fun c_1 => ?_)
  · refine lv_iconst (v := 0) hx hb dX5_canTake_32 (by decide) ?_
    exact xret_z () hc hw rfl (Eq.symm (if_neg c_1)) ⟨Nat.le_of_ble_eq_true rfl, Nat.le_of_ble_eq_true rfl⟩ dX5_canTake_33
  · refine lv_aload_n hx hb dX5_canTake_14 rfl (lv_at hl 1 rfl) ?_
    refine xgetN (C := RX4) (T := TX4) (N := 14) hc hw inX5_canTake_X4 3 rfl rfl 3 (by decide) nkX5_67 rfl rfl dX5_canTake_15 ?_
    refine lv_aload_n hx hb dX5_canTake_18 rfl (lv_at hl 0 rfl) ?_
    refine xget (C := RX5) (T := TX5) (N := 12) hc hw inX5_canTake_X5 0 rfl rfl 3 (by decide) lkX5_canTake_f13 rfl rfl dX5_canTake_19 ?_
    refine lv_iload_n hx hb dX5_canTake_22 rfl (lv_at hl 2 rfl) ?_
    refine xiald hc hw 1 rfl (xin he) dX5_canTake_23 ?_
    refine xzald hc hw 4 rfl (xin (hrd _ (xcl he))) dX5_canTake_24 ?_
    refine lv_if_ne (tgt := 32) hx hb dX5_canTake_25 (by decide) (fun c_2 => ?_) (fun c_2 => ?_)
    · refine lv_iconst (v := 0) hx hb dX5_canTake_32 (by decide) ?_
      exact xret_z () hc hw rfl (Eq.symm (Eq.trans (if_pos c_1) (if_neg c_2))) ⟨Nat.le_of_ble_eq_true rfl, Nat.le_of_ble_eq_true rfl⟩ dX5_canTake_33
    · refine lv_iconst (v := 1) hx hb dX5_canTake_28 (by decide) ?_
      refine lv_goto (tgt := 33) hx hb dX5_canTake_29 (by decide) ?_
      exact xret_z () hc hw rfl (Eq.symm (Eq.trans (if_pos c_1) (if_pos c_2))) ⟨Nat.le_of_ble_eq_true rfl, Nat.le_of_ble_eq_true rfl⟩ dX5_canTake_33
def FX5_take (rd : Nat → Int32) (tt : Nat → Int32) (ml : Nat → Int32) (ln : Int32) (wk : Int32) (tr : Nat → Int32) (wy : Nat → Int32) (e1 : Int32) : (Int32) × (Int32) × (Int32) × (Nat → Int32) × (Nat → Int32) :=
  (tt e1.toNatClampNeg, ln + 1, wk + (ml (rd e1.toNatClampNeg).toNatClampNeg), upd tr (rd e1.toNatClampNeg).toNatClampNeg 1, upd wy ln.toNatClampNeg e1)
set_option maxHeartbeats 40000000 in
set_option maxRecDepth 100000 in
theorem metX5_take (l : Launch) (G : xG) (sz : Nat) (aR : Nat) (rEx : Nat) (rRd : Nat) (rTo : Nat) (rMi : Nat) (rCl : Nat) (rSh : Nat) (rFa : Nat) (aS : Nat) (aH : Nat) (aO : Nat) (oTr : Nat) (oAk : Nat) (oWy : Nat) (oXe : Nat) (oSg : Nat) (th : Int32) (pl : Int32) (rs : Int32) (rd : Nat → Int32) (tt : Nat → Int32) (ml : Nat → Int32) (po : Int32) (co : Int32) (go : Int32) (ln : Int32) (wk : Int32) (db : Int32) (dn : Int32) (iv : Int32) (qs : Int32) (tr : Nat → Int32) (wy : Nat → Int32) (e1 : Int32) (hrd : ∀ k, k < 40 → 0 ≤ (rd k).toInt ∧ (rd k).toInt < 20) (he : 0 ≤ e1.toInt ∧ e1.toInt < 40) (hln : 0 ≤ ln.toInt ∧ ln.toInt < 40) : xM l yX5_take wsX5_take ⟨0, 0, 0, 0⟩ G [.ref aR, .ref aO, .int e1] [xO aR 5 [.int th, .int pl, .ref rEx, .ref rRd, .ref rTo, .int rs, .ref rMi, .ref rCl, .ref rSh, .ref rFa, .ref aS, .ref aH], xAI G rRd 40 rd, xAI G rTo 40 tt, xAI G rMi 20 ml, xO aO 4 [.int po, .int co, .int go, .ref oTr, .ref oAk, .ref oWy, .int ln, .ref oXe, .ref oSg, .int wk, .int db, .int dn, .int iv, .int qs], xAZ G oTr 20 tr, xAI G oWy 40 wy] sz (xQv G [xO aR 5 [.int th, .int pl, .ref rEx, .ref rRd, .ref rTo, .int rs, .ref rMi, .ref rCl, .ref rSh, .ref rFa, .ref aS, .ref aH], xAI G rRd 40 rd, xAI G rTo 40 tt, xAI G rMi 20 ml, xO aO 4 [.int po, .int co, .int go, .ref oTr, .ref oAk, .ref oWy, .int ln, .ref oXe, .ref oSg, .int wk, .int db, .int dn, .int iv, .int qs], xAZ G oTr 20 tr, xAI G oWy 40 wy] sz (fun (u : (Int32) × (Int32) × (Int32) × (Nat → Int32) × (Nat → Int32)) => u = FX5_take rd tt ml ln wk tr wy e1) (fun u : (Int32) × (Int32) × (Int32) × (Nat → Int32) × (Nat → Int32) => [xO aR 5 [.int th, .int pl, .ref rEx, .ref rRd, .ref rTo, .int rs, .ref rMi, .ref rCl, .ref rSh, .ref rFa, .ref aS, .ref aH], xAI G rRd 40 rd, xAI G rTo 40 tt, xAI G rMi 20 ml, xO aO 4 [.int u.1, .int co, .int go, .ref oTr, .ref oAk, .ref oWy, .int u.2.1, .ref oXe, .ref oSg, .int u.2.2.1, .int db, .int dn, .int iv, .int qs], xAZ G oTr 20 u.2.2.2.1, xAI G oWy 40 u.2.2.2.2])) := by
  refine xof (own := RX5) (cc := cX5_take) (maxL := 3) (ret := none) rfl (by decide) rfl (Nat.le_of_ble_eq_true rfl) ?_
  intro pg en s mi below meth cd hc hnm hw ls hl
  obtain ⟨hx, hb, -, hown, hts, -⟩ := id hc
  have hl : lv_has ls 3 [(0, .ref aR), (1, .ref aO), (2, .int e1)] := hl
  refine lv_aload_n hx hb dX5_take_0 rfl (lv_at hl 1 rfl) ?_
  refine xgetN (C := RX4) (T := TX4) (N := 14) hc hw inX5_take_X4 4 rfl rfl 3 (by decide) nkX5_67 rfl rfl dX5_take_1 ?_
  refine lv_aload_n hx hb dX5_take_4 rfl (lv_at hl 0 rfl) ?_
  refine xget (C := RX5) (T := TX5) (N := 12) hc hw inX5_take_X5 0 rfl rfl 3 (by decide) lkX5_take_f13 rfl rfl dX5_take_5 ?_
  refine lv_iload_n hx hb dX5_take_8 rfl (lv_at hl 2 rfl) ?_
  refine xiald hc hw 1 rfl (xin he) dX5_take_9 ?_
  refine lv_iconst (v := 1) hx hb dX5_take_10 (by decide) ?_
  refine xzast hc hw 5 [xO aR 5 [.int th, .int pl, .ref rEx, .ref rRd, .ref rTo, .int rs, .ref rMi, .ref rCl, .ref rSh, .ref rFa, .ref aS, .ref aH], xAI G rRd 40 rd, xAI G rTo 40 tt, xAI G rMi 20 ml, xO aO 4 [.int po, .int co, .int go, .ref oTr, .ref oAk, .ref oWy, .int ln, .ref oXe, .ref oSg, .int wk, .int db, .int dn, .int iv, .int qs], xAZ G oTr 20 (upd tr (rd e1.toNatClampNeg).toNatClampNeg 1), xAI G oWy 40 wy] rfl (xin (hrd _ (xcl he))) rfl rfl dX5_take_11 (fun H locs hw => ?_)
  refine lv_aload_n hx hb dX5_take_12 rfl (lv_at hl 1 rfl) ?_
  refine xgetN (C := RX4) (T := TX4) (N := 14) hc hw inX5_take_X4 4 rfl rfl 5 (by decide) nkX5_81 rfl rfl dX5_take_13 ?_
  refine lv_aload_n hx hb dX5_take_16 rfl (lv_at hl 1 rfl) ?_
  refine xgetN (C := RX4) (T := TX4) (N := 14) hc hw inX5_take_X4 4 rfl rfl 6 (by decide) nkX5_84 rfl rfl dX5_take_17 ?_
  refine lv_iload_n hx hb dX5_take_20 rfl (lv_at hl 2 rfl) ?_
  refine xiast hc hw 6 [xO aR 5 [.int th, .int pl, .ref rEx, .ref rRd, .ref rTo, .int rs, .ref rMi, .ref rCl, .ref rSh, .ref rFa, .ref aS, .ref aH], xAI G rRd 40 rd, xAI G rTo 40 tt, xAI G rMi 20 ml, xO aO 4 [.int po, .int co, .int go, .ref oTr, .ref oAk, .ref oWy, .int ln, .ref oXe, .ref oSg, .int wk, .int db, .int dn, .int iv, .int qs], xAZ G oTr 20 (upd tr (rd e1.toNatClampNeg).toNatClampNeg 1), xAI G oWy 40 (upd wy ln.toNatClampNeg e1)] rfl (xin hln) rfl dX5_take_21 (fun H locs hw => ?_)
  refine lv_aload_n hx hb dX5_take_22 rfl (lv_at hl 1 rfl) ?_
  refine lv_dup hx hb dX5_take_23 rfl ?_
  refine xgetN (C := RX4) (T := TX4) (N := 14) hc hw inX5_take_X4 4 rfl rfl 6 (by decide) nkX5_84 rfl rfl dX5_take_24 ?_
  refine lv_iconst (v := 1) hx hb dX5_take_27 (by decide) ?_
  refine lv_iadd hx hb dX5_take_28 ?_
  refine xputN (C := RX4) (T := TX4) (N := 14) (ty := .int) hc hw inX5_take_X4 tyX4 tyX4_ok nmX4 4 [xO aR 5 [.int th, .int pl, .ref rEx, .ref rRd, .ref rTo, .int rs, .ref rMi, .ref rCl, .ref rSh, .ref rFa, .ref aS, .ref aH], xAI G rRd 40 rd, xAI G rTo 40 tt, xAI G rMi 20 ml, xO aO 4 [.int po, .int co, .int go, .ref oTr, .ref oAk, .ref oWy, .int (ln + 1), .ref oXe, .ref oSg, .int wk, .int db, .int dn, .int iv, .int qs], xAZ G oTr 20 (upd tr (rd e1.toNatClampNeg).toNatClampNeg 1), xAI G oWy 40 (upd wy ln.toNatClampNeg e1)] rfl rfl 6 (by decide) nkX5_84 rfl rfl rfl rfl (Nat.le_of_ble_eq_true rfl) rfl dX5_take_29 (fun H locs hw => ?_)
  refine lv_aload_n hx hb dX5_take_32 rfl (lv_at hl 1 rfl) ?_
  refine lv_aload_n hx hb dX5_take_33 rfl (lv_at hl 0 rfl) ?_
  refine xget (C := RX5) (T := TX5) (N := 12) hc hw inX5_take_X5 0 rfl rfl 4 (by decide) lkX5_take_f16 rfl rfl dX5_take_34 ?_
  refine lv_iload_n hx hb dX5_take_37 rfl (lv_at hl 2 rfl) ?_
  refine xiald hc hw 2 rfl (xin he) dX5_take_38 ?_
  refine xputN (C := RX4) (T := TX4) (N := 14) (ty := .int) hc hw inX5_take_X4 tyX4 tyX4_ok nmX4 4 [xO aR 5 [.int th, .int pl, .ref rEx, .ref rRd, .ref rTo, .int rs, .ref rMi, .ref rCl, .ref rSh, .ref rFa, .ref aS, .ref aH], xAI G rRd 40 rd, xAI G rTo 40 tt, xAI G rMi 20 ml, xO aO 4 [.int (tt e1.toNatClampNeg), .int co, .int go, .ref oTr, .ref oAk, .ref oWy, .int (ln + 1), .ref oXe, .ref oSg, .int wk, .int db, .int dn, .int iv, .int qs], xAZ G oTr 20 (upd tr (rd e1.toNatClampNeg).toNatClampNeg 1), xAI G oWy 40 (upd wy ln.toNatClampNeg e1)] rfl rfl 0 (by decide) nkX5_61 rfl rfl rfl rfl (Nat.le_of_ble_eq_true rfl) rfl dX5_take_39 (fun H locs hw => ?_)
  refine lv_aload_n hx hb dX5_take_42 rfl (lv_at hl 1 rfl) ?_
  refine lv_dup hx hb dX5_take_43 rfl ?_
  refine xgetN (C := RX4) (T := TX4) (N := 14) hc hw inX5_take_X4 4 rfl rfl 9 (by decide) nkX5_87 rfl rfl dX5_take_44 ?_
  refine lv_aload_n hx hb dX5_take_47 rfl (lv_at hl 0 rfl) ?_
  refine xget (C := RX5) (T := TX5) (N := 12) hc hw inX5_take_X5 0 rfl rfl 6 (by decide) lkX5_take_f19 rfl rfl dX5_take_48 ?_
  refine lv_aload_n hx hb dX5_take_51 rfl (lv_at hl 0 rfl) ?_
  refine xget (C := RX5) (T := TX5) (N := 12) hc hw inX5_take_X5 0 rfl rfl 3 (by decide) lkX5_take_f13 rfl rfl dX5_take_52 ?_
  refine lv_iload_n hx hb dX5_take_55 rfl (lv_at hl 2 rfl) ?_
  refine xiald hc hw 1 rfl (xin he) dX5_take_56 ?_
  refine xiald hc hw 3 rfl (xin (hrd _ (xcl he))) dX5_take_57 ?_
  refine lv_iadd hx hb dX5_take_58 ?_
  refine xputN (C := RX4) (T := TX4) (N := 14) (ty := .int) hc hw inX5_take_X4 tyX4 tyX4_ok nmX4 4 [xO aR 5 [.int th, .int pl, .ref rEx, .ref rRd, .ref rTo, .int rs, .ref rMi, .ref rCl, .ref rSh, .ref rFa, .ref aS, .ref aH], xAI G rRd 40 rd, xAI G rTo 40 tt, xAI G rMi 20 ml, xO aO 4 [.int (tt e1.toNatClampNeg), .int co, .int go, .ref oTr, .ref oAk, .ref oWy, .int (ln + 1), .ref oXe, .ref oSg, .int (wk + (ml (rd e1.toNatClampNeg).toNatClampNeg)), .int db, .int dn, .int iv, .int qs], xAZ G oTr 20 (upd tr (rd e1.toNatClampNeg).toNatClampNeg 1), xAI G oWy 40 (upd wy ln.toNatClampNeg e1)] rfl rfl 9 (by decide) nkX5_87 rfl rfl rfl rfl (Nat.le_of_ble_eq_true rfl) rfl dX5_take_59 (fun H locs hw => ?_)
  obtain ⟨u0, hu0⟩ : ∃ z : (Int32) × (Int32) × (Int32) × (Nat → Int32) × (Nat → Int32), z = (tt e1.toNatClampNeg, ln + 1, wk + (ml (rd e1.toNatClampNeg).toNatClampNeg), upd tr (rd e1.toNatClampNeg).toNatClampNeg 1, upd wy ln.toNatClampNeg e1) := ⟨_, rfl⟩
  refine xret_v u0 hc ?_ ?_ ⟨Nat.le_of_ble_eq_true rfl, Nat.le_of_ble_eq_true rfl⟩ dX5_take_62
  · subst hu0; dsimp only; exact hw
  · subst hu0; exact Eq.symm rfl
