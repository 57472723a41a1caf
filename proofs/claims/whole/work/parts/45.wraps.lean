def FL_addPlace (pl : Int32) (ot : Nat → Int64) : Int32 × (Int32) × (Nat → Int64) :=
  yc3 (FX3_addPlace pl) (fun k => ((1, pl, ot))) (fun r2 u1 => (0, u1, vp_updL ot (0 : Int32).toNatClampNeg r2.toInt64))
set_option maxHeartbeats 40000000 in
set_option maxRecDepth 100000 in
theorem metL_addPlace (l : Launch) (G : xG) (hst : l.stackTraces = false) (sz : Nat) (aX : Nat) (aL : Nat) (aC : Nat) (aT : Nat) (aEx : Nat) (aSh : Nat) (aLd : Nat) (aTw : Nat) (aLe : Nat) (aOp : Nat) (aFa : Nat) (aB : Nat) (pl : Int32) (ot : Nat → Int64) : xM l yL_addPlace wsL_addPlace ⟨7, 1, 6, 102⟩ G [.ref aX, .ref aB] [xO aX 3 [.ref aL, .ref aC, .ref aT], xO aL 1 [.int pl, .ref aEx, .ref aSh, .ref aLd, .ref aTw, .ref aLe, .ref aOp, .ref aFa], xAJ G aB 1 ot] sz (xQi G [xO aX 3 [.ref aL, .ref aC, .ref aT], xO aL 1 [.int pl, .ref aEx, .ref aSh, .ref aLd, .ref aTw, .ref aLe, .ref aOp, .ref aFa], xAJ G aB 1 ot] sz (fun (r : Int32) (u : (Int32) × (Nat → Int64)) => r = (FL_addPlace pl ot).1 ∧ u = (FL_addPlace pl ot).2) (fun u : (Int32) × (Nat → Int64) => [xO aX 3 [.ref aL, .ref aC, .ref aT], xO aL 1 [.int u.1, .ref aEx, .ref aSh, .ref aLd, .ref aTw, .ref aLe, .ref aOp, .ref aFa], xAJ G aB 1 u.2])) := by
  refine xofW (own := RL) (cc := cL_addPlace) (maxL := 3) (ret := (some .int)) (hh := [(0, 8, 11, 13)]) rfl (by decide) rfl (Nat.le_of_ble_eq_true rfl) ?_
  intro pg en s mi below meth cd hc ht hw ls hl
  obtain ⟨hx, hb, -, hown, hts, -⟩ := id hc
  have hl : lv_has ls 3 [(0, .ref aX), (1, .ref aB)] := hl
  refine lv_aload_n hx hb dL_addPlace_0 rfl (lv_at hl 1 rfl) ?_
  refine lv_iconst (v := 0) hx hb dL_addPlace_1 (by decide) ?_
  refine lv_aload_n hx hb dL_addPlace_2 rfl (lv_at hl 0 rfl) ?_
  refine xcallX_i (isC := [0, 1]) hc hw (xrunVX (n := 0) (As := []) (rest := [.int 0, .ref aB]) hc hw [0, 1] (metX3_addPlace l G hst _ aX aL aC aT aEx aSh aLd aTw aLe aOp aFa pl) gL_addPlace_X3_addPlace rfl (by decide +kernel) ⟨Nat.le_of_ble_eq_true rfl, Nat.le_of_ble_eq_true rfl⟩ 0 rfl rfl rfl rfl rfl rfl hl.1 (Nat.le_of_ble_eq_true rfl) dL_addPlace_3 ⟨Nat.le_of_ble_eq_true rfl, Nat.le_of_ble_eq_true rfl⟩) rfl [2] [1, 2, 0] [1, 2, 0] (fun u1 => [xO aX 3 [.ref aL, .ref aC, .ref aT], xO aL 1 [.int u1, .ref aEx, .ref aSh, .ref aLd, .ref aTw, .ref aLe, .ref aOp, .ref aFa], xAJ G aB 1 ot]) (fun _ => rfl) rfl rfl rfl rfl rfl rfl (fun E ce q9 H locs hpx hw h9 hv9 hc9 => ?_) (fun r2 u1 H locs hp3 hw => ?_)
  · rcases ycase hpx.2 with hE | hE | hE
    · subst hE
      exact absurd hpx.1 (by rcases cdX3_addPlace with h9 | h9 | h9 <;> rw [h9] <;> decide +kernel)
    · subst hE
      exact absurd hpx.1 (by rcases cdX3_addPlace with h9 | h9 | h9 <;> rw [h9] <;> decide +kernel)
    · subst hE
      refine ycatch (own := RL) (nms := []) hc [] ⟨0, 8, 11, 13⟩ [] ht rfl rfl (by intro z hz; cases hz) (by intro z hz; cases hz) rfl (by decide) lkL_addPlace_c13 (by decide +kernel) h9 hv9 hc9 ?_
      refine lv_astore_n (lv' := [(2, .ref q9), (0, .ref aX), (1, .ref aB)]) hx hb dL_addPlace_11 rfl hl (by decide) rfl (fun ls hl => ?_)
      refine lv_iconst (v := 1) hx hb dL_addPlace_12 (by decide) ?_
      obtain ⟨u0, hu0⟩ : ∃ z : (Int32) × (Nat → Int64), z = (pl, ot) := ⟨_, rfl⟩
      refine xret_i u0 hc ?_ ?_ ⟨Nat.le_of_ble_eq_true rfl, Nat.le_of_ble_eq_true rfl⟩ dL_addPlace_13
      · subst hu0; dsimp only; exact hw
      · subst hu0; exact xe2 (yh3 (hpx.1.trans xcode_IS) (by decide) rfl)
  refine lv_i2l hx hb dL_addPlace_6 rfl ?_
  refine xlast hc hw 2 [xO aX 3 [.ref aL, .ref aC, .ref aT], xO aL 1 [.int u1, .ref aEx, .ref aSh, .ref aLd, .ref aTw, .ref aLe, .ref aOp, .ref aFa], xAJ G aB 1 (vp_updL ot (0 : Int32).toNatClampNeg r2.toInt64)] rfl (xin ⟨by decide, by decide⟩) rfl dL_addPlace_7 (fun H locs hw => ?_)
  refine lv_goto (tgt := 14) hx hb dL_addPlace_8 (by decide) ?_
  refine lv_iconst (v := 0) hx hb dL_addPlace_14 (by decide) ?_
  obtain ⟨u0, hu0⟩ : ∃ z : (Int32) × (Nat → Int64), z = (u1, vp_updL ot (0 : Int32).toNatClampNeg r2.toInt64) := ⟨_, rfl⟩
  refine xret_i u0 hc ?_ ?_ ⟨Nat.le_of_ble_eq_true rfl, Nat.le_of_ble_eq_true rfl⟩ dL_addPlace_15
  · subst hu0; dsimp only; exact hw
  · subst hu0; exact xe2 (yt3 hp3 rfl)
def FL_turnRoad (pl : Int32) (ex : Nat → Int32) (tw : Nat → Int32) (op : Nat → Int32) (q : Int32) (x : Int32) (ot : Nat → Int64) : Int32 × (Nat → Int32) × (Nat → Int64) :=
  yc3 (FX3_turnRoad pl ex tw op q x) (fun k => ((1, op, ot))) (fun r2 u1 => if r2 = 0 then ((0, u1, vp_updL ot (0 : Int32).toNatClampNeg 0)) else ((0, u1, vp_updL ot (0 : Int32).toNatClampNeg 1)))
set_option maxHeartbeats 40000000 in
set_option maxRecDepth 100000 in
theorem metL_turnRoad (l : Launch) (G : xG) (hst : l.stackTraces = false) (sz : Nat) (aX : Nat) (aL : Nat) (aC : Nat) (aT : Nat) (aEx : Nat) (aSh : Nat) (aLd : Nat) (aTw : Nat) (aLe : Nat) (aOp : Nat) (aFa : Nat) (aB : Nat) (pl : Int32) (ex : Nat → Int32) (tw : Nat → Int32) (op : Nat → Int32) (q : Int32) (x : Int32) (ot : Nat → Int64) (hpl : 0 ≤ pl.toInt ∧ pl.toInt ≤ 10) (htw : ∀ k, k < 40 → 0 ≤ (tw k).toInt ∧ (tw k).toInt < 40) : xM l yL_turnRoad wsL_turnRoad ⟨8, 1, 6, 127⟩ G [.ref aX, .int q, .int x, .ref aB] [xO aX 3 [.ref aL, .ref aC, .ref aT], xO aL 1 [.int pl, .ref aEx, .ref aSh, .ref aLd, .ref aTw, .ref aLe, .ref aOp, .ref aFa], xAI G aEx 10 ex, xAI G aTw 40 tw, xAZ G aOp 40 op, xAJ G aB 1 ot] sz (xQi G [xO aX 3 [.ref aL, .ref aC, .ref aT], xO aL 1 [.int pl, .ref aEx, .ref aSh, .ref aLd, .ref aTw, .ref aLe, .ref aOp, .ref aFa], xAI G aEx 10 ex, xAI G aTw 40 tw, xAZ G aOp 40 op, xAJ G aB 1 ot] sz (fun (r : Int32) (u : (Nat → Int32) × (Nat → Int64)) => r = (FL_turnRoad pl ex tw op q x ot).1 ∧ u = (FL_turnRoad pl ex tw op q x ot).2) (fun u : (Nat → Int32) × (Nat → Int64) => [xO aX 3 [.ref aL, .ref aC, .ref aT], xO aL 1 [.int pl, .ref aEx, .ref aSh, .ref aLd, .ref aTw, .ref aLe, .ref aOp, .ref aFa], xAI G aEx 10 ex, xAI G aTw 40 tw, xAZ G aOp 40 u.1, xAJ G aB 1 u.2])) := by
  refine xofW (own := RL) (cc := cL_turnRoad) (maxL := 5) (ret := (some .int)) (hh := [(0, 17, 20, 19)]) rfl (by decide) rfl (Nat.le_of_ble_eq_true rfl) ?_
  intro pg en s mi below meth cd hc ht hw ls hl
  obtain ⟨hx, hb, -, hown, hts, -⟩ := id hc
  have hl : lv_has ls 5 [(0, .ref aX), (1, .int q), (2, .int x), (3, .ref aB)] := hl
  refine lv_aload_n hx hb dL_turnRoad_0 rfl (lv_at hl 3 rfl) ?_
  refine lv_iconst (v := 0) hx hb dL_turnRoad_1 (by decide) ?_
  refine lv_aload_n hx hb dL_turnRoad_2 rfl (lv_at hl 0 rfl) ?_
  refine lv_iload_n hx hb dL_turnRoad_3 rfl (lv_at hl 1 rfl) ?_
  refine lv_iload_n hx hb dL_turnRoad_4 rfl (lv_at hl 2 rfl) ?_
  refine xcallX_i (isC := [0, 1, 2, 3, 4]) hc hw (xrunVX (n := 2) (As := [.int q, .int x]) (rest := [.int 0, .ref aB]) hc hw [0, 1, 2, 3, 4] (metX3_turnRoad l G hst _ aX aL aC aT aEx aSh aLd aTw aLe aOp aFa pl ex tw op q x hpl htw) gL_turnRoad_X3_turnRoad rfl (by decide +kernel) ⟨Nat.le_of_ble_eq_true rfl, Nat.le_of_ble_eq_true rfl⟩ 0 rfl rfl rfl rfl rfl rfl hl.1 (Nat.le_of_ble_eq_true rfl) dL_turnRoad_5 ⟨Nat.le_of_ble_eq_true rfl, Nat.le_of_ble_eq_true rfl⟩) rfl [5] [1, 2, 3, 4, 5, 0] [1, 2, 3, 4, 5, 0] (fun u1 => [xO aX 3 [.ref aL, .ref aC, .ref aT], xO aL 1 [.int pl, .ref aEx, .ref aSh, .ref aLd, .ref aTw, .ref aLe, .ref aOp, .ref aFa], xAI G aEx 10 ex, xAI G aTw 40 tw, xAZ G aOp 40 u1, xAJ G aB 1 ot]) (fun _ => rfl) rfl rfl rfl rfl rfl rfl (fun E ce q9 H locs hpx hw h9 hv9 hc9 => ?_) (fun r2 u1 H locs hp3 hw => ?_)
  · rcases ycase hpx.2 with hE | hE | hE
    · subst hE
      refine ycatch (own := RL) (nms := []) hc [] ⟨0, 17, 20, 19⟩ [] ht rfl rfl (by intro z hz; cases hz) (by intro z hz; cases hz) rfl (by decide) lkL_turnRoad_c19 (by decide +kernel) h9 hv9 hc9 ?_
      refine lv_astore (lv' := [(4, .ref q9), (0, .ref aX), (1, .int q), (2, .int x), (3, .ref aB)]) hx hb dL_turnRoad_20 hl (by decide) rfl (fun ls hl => ?_)
      refine lv_iconst (v := 1) hx hb dL_turnRoad_22 (by decide) ?_
      obtain ⟨u0, hu0⟩ : ∃ z : (Nat → Int32) × (Nat → Int64), z = (op, ot) := ⟨_, rfl⟩
      refine xret_i u0 hc ?_ ?_ ⟨Nat.le_of_ble_eq_true rfl, Nat.le_of_ble_eq_true rfl⟩ dL_turnRoad_23
      · subst hu0; dsimp only; exact hw
      · subst hu0; exact xe2 (yh3 (hpx.1.trans xcode_IO) (by decide) rfl)
    · subst hE
      exact absurd hpx.1 (by rcases cdX3_turnRoad with h9 | h9 | h9 <;> rw [h9] <;> decide +kernel)
    · subst hE
      exact absurd hpx.1 (by rcases cdX3_turnRoad with h9 | h9 | h9 <;> rw [h9] <;> decide +kernel)
  refine lv_if_eq (tgt := 15) hx hb dL_turnRoad_8 (by decide) (fun c_5 => ?_) (fun c_5 => ?_)
  · refine lv_lconst (v := 0) hx hb dL_turnRoad_15 rfl ?_
    refine xlast hc hw 5 [xO aX 3 [.ref aL, .ref aC, .ref aT], xO aL 1 [.int pl, .ref aEx, .ref aSh, .ref aLd, .ref aTw, .ref aLe, .ref aOp, .ref aFa], xAI G aEx 10 ex, xAI G aTw 40 tw, xAZ G aOp 40 u1, xAJ G aB 1 (vp_updL ot (0 : Int32).toNatClampNeg 0)] rfl (xin ⟨by decide, by decide⟩) rfl dL_turnRoad_16 (fun H locs hw => ?_)
    refine lv_goto (tgt := 24) hx hb dL_turnRoad_17 (by decide) ?_
    refine lv_iconst (v := 0) hx hb dL_turnRoad_24 (by decide) ?_
    obtain ⟨u0, hu0⟩ : ∃ z : (Nat → Int32) × (Nat → Int64), z = (u1, vp_updL ot (0 : Int32).toNatClampNeg 0) := ⟨_, rfl⟩
    refine xret_i u0 hc ?_ ?_ ⟨Nat.le_of_ble_eq_true rfl, Nat.le_of_ble_eq_true rfl⟩ dL_turnRoad_25
    · subst hu0; dsimp only; exact hw
    · subst hu0; exact xe2 (yt3 hp3 (if_pos c_5))
  · refine lv_lconst (v := 1) hx hb dL_turnRoad_11 rfl ?_
    refine lv_goto (tgt := 16) hx hb dL_turnRoad_12 (by decide) ?_
    refine xlast hc hw 5 [xO aX 3 [.ref aL, .ref aC, .ref aT], xO aL 1 [.int pl, .ref aEx, .ref aSh, .ref aLd, .ref aTw, .ref aLe, .ref aOp, .ref aFa], xAI G aEx 10 ex, xAI G aTw 40 tw, xAZ G aOp 40 u1, xAJ G aB 1 (vp_updL ot (0 : Int32).toNatClampNeg 1)] rfl (xin ⟨by decide, by decide⟩) rfl dL_turnRoad_16 (fun H locs hw => ?_)
    refine lv_goto (tgt := 24) hx hb dL_turnRoad_17 (by decide) ?_
    refine lv_iconst (v := 0) hx hb dL_turnRoad_24 (by decide) ?_
    obtain ⟨u0, hu0⟩ : ∃ z : (Nat → Int32) × (Nat → Int64), z = (u1, vp_updL ot (0 : Int32).toNatClampNeg 1) := ⟨_, rfl⟩
    refine xret_i u0 hc ?_ ?_ ⟨Nat.le_of_ble_eq_true rfl, Nat.le_of_ble_eq_true rfl⟩ dL_turnRoad_25
    · subst hu0; dsimp only; exact hw
    · subst hu0; exact xe2 (yt3 hp3 (if_neg c_5))
def FL_turnShepherd (pl : Int32) (sh : Nat → Int32) (q : Int32) (ot : Nat → Int64) : Int32 × (Nat → Int32) × (Nat → Int64) :=
  yc3 (FX3_turnShepherd pl sh q) (fun k => ((1, sh, ot))) (fun r2 u1 => if r2 = 0 then ((0, u1, vp_updL ot (0 : Int32).toNatClampNeg 0)) else ((0, u1, vp_updL ot (0 : Int32).toNatClampNeg 1)))
set_option maxHeartbeats 40000000 in
set_option maxRecDepth 100000 in
theorem metL_turnShepherd (l : Launch) (G : xG) (hst : l.stackTraces = false) (sz : Nat) (aX : Nat) (aL : Nat) (aC : Nat) (aT : Nat) (aEx : Nat) (aSh : Nat) (aLd : Nat) (aTw : Nat) (aLe : Nat) (aOp : Nat) (aFa : Nat) (aB : Nat) (pl : Int32) (sh : Nat → Int32) (q : Int32) (ot : Nat → Int64) (hpl : 0 ≤ pl.toInt ∧ pl.toInt ≤ 10) : xM l yL_turnShepherd wsL_turnShepherd ⟨8, 1, 6, 124⟩ G [.ref aX, .int q, .ref aB] [xO aX 3 [.ref aL, .ref aC, .ref aT], xO aL 1 [.int pl, .ref aEx, .ref aSh, .ref aLd, .ref aTw, .ref aLe, .ref aOp, .ref aFa], xAZ G aSh 10 sh, xAJ G aB 1 ot] sz (xQi G [xO aX 3 [.ref aL, .ref aC, .ref aT], xO aL 1 [.int pl, .ref aEx, .ref aSh, .ref aLd, .ref aTw, .ref aLe, .ref aOp, .ref aFa], xAZ G aSh 10 sh, xAJ G aB 1 ot] sz (fun (r : Int32) (u : (Nat → Int32) × (Nat → Int64)) => r = (FL_turnShepherd pl sh q ot).1 ∧ u = (FL_turnShepherd pl sh q ot).2) (fun u : (Nat → Int32) × (Nat → Int64) => [xO aX 3 [.ref aL, .ref aC, .ref aT], xO aL 1 [.int pl, .ref aEx, .ref aSh, .ref aLd, .ref aTw, .ref aLe, .ref aOp, .ref aFa], xAZ G aSh 10 u.1, xAJ G aB 1 u.2])) := by
  refine xofW (own := RL) (cc := cL_turnShepherd) (maxL := 4) (ret := (some .int)) (hh := [(0, 16, 19, 19)]) rfl (by decide) rfl (Nat.le_of_ble_eq_true rfl) ?_
  intro pg en s mi below meth cd hc ht hw ls hl
  obtain ⟨hx, hb, -, hown, hts, -⟩ := id hc
  have hl : lv_has ls 4 [(0, .ref aX), (1, .int q), (2, .ref aB)] := hl
  refine lv_aload_n hx hb dL_turnShepherd_0 rfl (lv_at hl 2 rfl) ?_
  refine lv_iconst (v := 0) hx hb dL_turnShepherd_1 (by decide) ?_
  refine lv_aload_n hx hb dL_turnShepherd_2 rfl (lv_at hl 0 rfl) ?_
  refine lv_iload_n hx hb dL_turnShepherd_3 rfl (lv_at hl 1 rfl) ?_
  refine xcallX_i (isC := [0, 1, 2]) hc hw (xrunVX (n := 1) (As := [.int q]) (rest := [.int 0, .ref aB]) hc hw [0, 1, 2] (metX3_turnShepherd l G hst _ aX aL aC aT aEx aSh aLd aTw aLe aOp aFa pl sh q hpl) gL_turnShepherd_X3_turnShepherd rfl (by decide +kernel) ⟨Nat.le_of_ble_eq_true rfl, Nat.le_of_ble_eq_true rfl⟩ 0 rfl rfl rfl rfl rfl rfl hl.1 (Nat.le_of_ble_eq_true rfl) dL_turnShepherd_4 ⟨Nat.le_of_ble_eq_true rfl, Nat.le_of_ble_eq_true rfl⟩) rfl [3] [1, 2, 3, 0] [1, 2, 3, 0] (fun u1 => [xO aX 3 [.ref aL, .ref aC, .ref aT], xO aL 1 [.int pl, .ref aEx, .ref aSh, .ref aLd, .ref aTw, .ref aLe, .ref aOp, .ref aFa], xAZ G aSh 10 u1, xAJ G aB 1 ot]) (fun _ => rfl) rfl rfl rfl rfl rfl rfl (fun E ce q9 H locs hpx hw h9 hv9 hc9 => ?_) (fun r2 u1 H locs hp3 hw => ?_)
  · rcases ycase hpx.2 with hE | hE | hE
    · subst hE
      refine ycatch (own := RL) (nms := []) hc [] ⟨0, 16, 19, 19⟩ [] ht rfl rfl (by intro z hz; cases hz) (by intro z hz; cases hz) rfl (by decide) lkL_turnShepherd_c19 (by decide +kernel) h9 hv9 hc9 ?_
      refine lv_astore_n (lv' := [(3, .ref q9), (0, .ref aX), (1, .int q), (2, .ref aB)]) hx hb dL_turnShepherd_19 rfl hl (by decide) rfl (fun ls hl => ?_)
      refine lv_iconst (v := 1) hx hb dL_turnShepherd_20 (by decide) ?_
      obtain ⟨u0, hu0⟩ : ∃ z : (Nat → Int32) × (Nat → Int64), z = (sh, ot) := ⟨_, rfl⟩
      refine xret_i u0 hc ?_ ?_ ⟨Nat.le_of_ble_eq_true rfl, Nat.le_of_ble_eq_true rfl⟩ dL_turnShepherd_21
      · subst hu0; dsimp only; exact hw
      · subst hu0; exact xe2 (yh3 (hpx.1.trans xcode_IO) (by decide) rfl)
    · subst hE
      exact absurd hpx.1 (by rcases cdX3_turnShepherd with h9 | h9 | h9 <;> rw [h9] <;> decide +kernel)
    · subst hE
      exact absurd hpx.1 (by rcases cdX3_turnShepherd with h9 | h9 | h9 <;> rw [h9] <;> decide +kernel)
  refine lv_if_eq (tgt := 14) hx hb dL_turnShepherd_7 (by decide) (fun c_5 => ?_) (fun c_5 => ?_)
  · refine lv_lconst (v := 0) hx hb dL_turnShepherd_14 rfl ?_
    refine xlast hc hw 3 [xO aX 3 [.ref aL, .ref aC, .ref aT], xO aL 1 [.int pl, .ref aEx, .ref aSh, .ref aLd, .ref aTw, .ref aLe, .ref aOp, .ref aFa], xAZ G aSh 10 u1, xAJ G aB 1 (vp_updL ot (0 : Int32).toNatClampNeg 0)] rfl (xin ⟨by decide, by decide⟩) rfl dL_turnShepherd_15 (fun H locs hw => ?_)
    refine lv_goto (tgt := 22) hx hb dL_turnShepherd_16 (by decide) ?_
    refine lv_iconst (v := 0) hx hb dL_turnShepherd_22 (by decide) ?_
    obtain ⟨u0, hu0⟩ : ∃ z : (Nat → Int32) × (Nat → Int64), z = (u1, vp_updL ot (0 : Int32).toNatClampNeg 0) := ⟨_, rfl⟩
    refine xret_i u0 hc ?_ ?_ ⟨Nat.le_of_ble_eq_true rfl, Nat.le_of_ble_eq_true rfl⟩ dL_turnShepherd_23
    · subst hu0; dsimp only; exact hw
    · subst hu0; exact xe2 (yt3 hp3 (if_pos c_5))
  · refine lv_lconst (v := 1) hx hb dL_turnShepherd_10 rfl ?_
    refine lv_goto (tgt := 15) hx hb dL_turnShepherd_11 (by decide) ?_
    refine xlast hc hw 3 [xO aX 3 [.ref aL, .ref aC, .ref aT], xO aL 1 [.int pl, .ref aEx, .ref aSh, .ref aLd, .ref aTw, .ref aLe, .ref aOp, .ref aFa], xAZ G aSh 10 u1, xAJ G aB 1 (vp_updL ot (0 : Int32).toNatClampNeg 1)] rfl (xin ⟨by decide, by decide⟩) rfl dL_turnShepherd_15 (fun H locs hw => ?_)
    refine lv_goto (tgt := 22) hx hb dL_turnShepherd_16 (by decide) ?_
    refine lv_iconst (v := 0) hx hb dL_turnShepherd_22 (by decide) ?_
    obtain ⟨u0, hu0⟩ : ∃ z : (Nat → Int32) × (Nat → Int64), z = (u1, vp_updL ot (0 : Int32).toNatClampNeg 1) := ⟨_, rfl⟩
    refine xret_i u0 hc ?_ ?_ ⟨Nat.le_of_ble_eq_true rfl, Nat.le_of_ble_eq_true rfl⟩ dL_turnShepherd_23
    · subst hu0; dsimp only; exact hw
    · subst hu0; exact xe2 (yt3 hp3 (if_neg c_5))
def FL_pay (co : Int32) (nn : Int32) (ot : Nat → Int64) : Int32 × (Int32) × (Nat → Int64) :=
  yc3 (FX3_pay co nn) (fun k => ((1, co, ot))) (fun r2 u1 => (0, u1, vp_updL ot (0 : Int32).toNatClampNeg r2.toInt64))
set_option maxHeartbeats 40000000 in
set_option maxRecDepth 100000 in
theorem metL_pay (l : Launch) (G : xG) (hst : l.stackTraces = false) (sz : Nat) (aX : Nat) (aL : Nat) (aC : Nat) (aT : Nat) (aM : Nat) (aWy : Nat) (aTr : Nat) (aAk : Nat) (aB : Nat) (po : Int32) (co : Int32) (go : Int32) (wl : Int32) (gu : Int32) (wk : Int32) (db : Int32) (dn : Int32) (iv : Int32) (qs : Int32) (nn : Int32) (ot : Nat → Int64) : xM l yL_pay wsL_pay ⟨8, 1, 6, 125⟩ G [.ref aX, .int nn, .ref aB] [xO aX 3 [.ref aL, .ref aC, .ref aT], xO aC 0 [.ref aL, .ref aM, .int po, .int co, .int go, .ref aWy, .int wl, .ref aTr, .ref aAk, .int gu, .int wk, .int db, .int dn, .int iv, .int qs], xAJ G aB 1 ot] sz (xQi G [xO aX 3 [.ref aL, .ref aC, .ref aT], xO aC 0 [.ref aL, .ref aM, .int po, .int co, .int go, .ref aWy, .int wl, .ref aTr, .ref aAk, .int gu, .int wk, .int db, .int dn, .int iv, .int qs], xAJ G aB 1 ot] sz (fun (r : Int32) (u : (Int32) × (Nat → Int64)) => r = (FL_pay co nn ot).1 ∧ u = (FL_pay co nn ot).2) (fun u : (Int32) × (Nat → Int64) => [xO aX 3 [.ref aL, .ref aC, .ref aT], xO aC 0 [.ref aL, .ref aM, .int po, .int u.1, .int go, .ref aWy, .int wl, .ref aTr, .ref aAk, .int gu, .int wk, .int db, .int dn, .int iv, .int qs], xAJ G aB 1 u.2])) := by
  refine xofW (own := RL) (cc := cL_pay) (maxL := 4) (ret := (some .int)) (hh := [(0, 9, 12, 21)]) rfl (by decide) rfl (Nat.le_of_ble_eq_true rfl) ?_
  intro pg en s mi below meth cd hc ht hw ls hl
  obtain ⟨hx, hb, -, hown, hts, -⟩ := id hc
  have hl : lv_has ls 4 [(0, .ref aX), (1, .int nn), (2, .ref aB)] := hl
  refine lv_aload_n hx hb dL_pay_0 rfl (lv_at hl 2 rfl) ?_
  refine lv_iconst (v := 0) hx hb dL_pay_1 (by decide) ?_
  refine lv_aload_n hx hb dL_pay_2 rfl (lv_at hl 0 rfl) ?_
  refine lv_iload_n hx hb dL_pay_3 rfl (lv_at hl 1 rfl) ?_
  refine xcallX_i (isC := [0, 1]) hc hw (xrunVX (n := 1) (As := [.int nn]) (rest := [.int 0, .ref aB]) hc hw [0, 1] (metX3_pay l G hst _ aX aL aC aT aM aWy aTr aAk po co go wl gu wk db dn iv qs nn) gL_pay_X3_pay rfl (by decide +kernel) ⟨Nat.le_of_ble_eq_true rfl, Nat.le_of_ble_eq_true rfl⟩ 0 rfl rfl rfl rfl rfl rfl hl.1 (Nat.le_of_ble_eq_true rfl) dL_pay_4 ⟨Nat.le_of_ble_eq_true rfl, Nat.le_of_ble_eq_true rfl⟩) rfl [2] [1, 2, 0] [1, 2, 0] (fun u1 => [xO aX 3 [.ref aL, .ref aC, .ref aT], xO aC 0 [.ref aL, .ref aM, .int po, .int u1, .int go, .ref aWy, .int wl, .ref aTr, .ref aAk, .int gu, .int wk, .int db, .int dn, .int iv, .int qs], xAJ G aB 1 ot]) (fun _ => rfl) rfl rfl rfl rfl rfl rfl (fun E ce q9 H locs hpx hw h9 hv9 hc9 => ?_) (fun r2 u1 H locs hp3 hw => ?_)
  · rcases ycase hpx.2 with hE | hE | hE
    · subst hE
      exact absurd hpx.1 (by rcases cdX3_pay with h9 | h9 | h9 <;> rw [h9] <;> decide +kernel)
    · subst hE
      refine ycatch (own := RL) (nms := []) hc [] ⟨0, 9, 12, 21⟩ [] ht rfl rfl (by intro z hz; cases hz) (by intro z hz; cases hz) rfl (by decide) lkL_pay_c21 (by decide +kernel) h9 hv9 hc9 ?_
      refine lv_astore_n (lv' := [(3, .ref q9), (0, .ref aX), (1, .int nn), (2, .ref aB)]) hx hb dL_pay_12 rfl hl (by decide) rfl (fun ls hl => ?_)
      refine lv_iconst (v := 1) hx hb dL_pay_13 (by decide) ?_
      obtain ⟨u0, hu0⟩ : ∃ z : (Int32) × (Nat → Int64), z = (co, ot) := ⟨_, rfl⟩
      refine xret_i u0 hc ?_ ?_ ⟨Nat.le_of_ble_eq_true rfl, Nat.le_of_ble_eq_true rfl⟩ dL_pay_14
      · subst hu0; dsimp only; exact hw
      · subst hu0; exact xe2 (yh3 (hpx.1.trans xcode_IA) (by decide) rfl)
    · subst hE
      exact absurd hpx.1 (by rcases cdX3_pay with h9 | h9 | h9 <;> rw [h9] <;> decide +kernel)
  refine lv_i2l hx hb dL_pay_7 rfl ?_
  refine xlast hc hw 2 [xO aX 3 [.ref aL, .ref aC, .ref aT], xO aC 0 [.ref aL, .ref aM, .int po, .int u1, .int go, .ref aWy, .int wl, .ref aTr, .ref aAk, .int gu, .int wk, .int db, .int dn, .int iv, .int qs], xAJ G aB 1 (vp_updL ot (0 : Int32).toNatClampNeg r2.toInt64)] rfl (xin ⟨by decide, by decide⟩) rfl dL_pay_8 (fun H locs hw => ?_)
  refine lv_goto (tgt := 15) hx hb dL_pay_9 (by decide) ?_
  refine lv_iconst (v := 0) hx hb dL_pay_15 (by decide) ?_
  obtain ⟨u0, hu0⟩ : ∃ z : (Int32) × (Nat → Int64), z = (u1, vp_updL ot (0 : Int32).toNatClampNeg r2.toInt64) := ⟨_, rfl⟩
  refine xret_i u0 hc ?_ ?_ ⟨Nat.le_of_ble_eq_true rfl, Nat.le_of_ble_eq_true rfl⟩ dL_pay_16
  · subst hu0; dsimp only; exact hw
  · subst hu0; exact xe2 (yt3 hp3 rfl)
def FL_beginErrand (po : Int32) (go : Int32) (wl : Int32) (dn : Int32) (tr : Nat → Int32) (ak : Nat → Int32) (pl : Int32) (ld : Nat → Int32) (le : Nat → Int32) (op : Nat → Int32) (fa : Nat → Int32) (g : Int32) (ot : Nat → Int64) : Int32 × (Int32) × (Int32) × (Int32) × (Nat → Int32) × (Nat → Int32) × (Nat → Int32) × (Nat → Int64) :=
  yc3 (FX3_beginErrand po go wl dn tr ak pl ld le op fa g) (fun k => if k = 1 then ((1, go, wl, dn, tr, ak, fa, ot)) else ((2, go, wl, dn, tr, ak, fa, ot))) (fun r2 u1 => (0, u1.1, u1.2.1, u1.2.2.1, u1.2.2.2.1, u1.2.2.2.2.1, u1.2.2.2.2.2, vp_updL ot (0 : Int32).toNatClampNeg r2.toInt64))
set_option maxHeartbeats 40000000 in
set_option maxRecDepth 100000 in
theorem metL_beginErrand (l : Launch) (G : xG) (hst : l.stackTraces = false) (sz : Nat) (aX : Nat) (aL : Nat) (aC : Nat) (aT : Nat) (aM : Nat) (aWy : Nat) (aTr : Nat) (aAk : Nat) (aEx : Nat) (aSh : Nat) (aLd : Nat) (aTw : Nat) (aLe : Nat) (aOp : Nat) (aFa : Nat) (aB : Nat) (po : Int32) (co : Int32) (go : Int32) (wl : Int32) (gu : Int32) (wk : Int32) (db : Int32) (dn : Int32) (iv : Int32) (qs : Int32) (tr : Nat → Int32) (ak : Nat → Int32) (pl : Int32) (ld : Nat → Int32) (le : Nat → Int32) (op : Nat → Int32) (fa : Nat → Int32) (g : Int32) (ot : Nat → Int64) (hpl : 0 ≤ pl.toInt ∧ pl.toInt ≤ 10) (hld : ∀ k, k < 40 → 0 ≤ (ld k).toInt ∧ (ld k).toInt < 10) : xM l yL_beginErrand wsL_beginErrand ⟨8, 2, 12, 125⟩ G [.ref aX, .int g, .ref aB] [xO aX 3 [.ref aL, .ref aC, .ref aT], xO aC 0 [.ref aL, .ref aM, .int po, .int co, .int go, .ref aWy, .int wl, .ref aTr, .ref aAk, .int gu, .int wk, .int db, .int dn, .int iv, .int qs], xAZ G aTr 40 tr, xAZ G aAk 10 ak, xO aL 1 [.int pl, .ref aEx, .ref aSh, .ref aLd, .ref aTw, .ref aLe, .ref aOp, .ref aFa], xAI G aLd 40 ld, xAI G aLe 40 le, xAZ G aOp 40 op, xAI G aFa 10 fa, xAJ G aB 1 ot] sz (xQi G [xO aX 3 [.ref aL, .ref aC, .ref aT], xO aC 0 [.ref aL, .ref aM, .int po, .int co, .int go, .ref aWy, .int wl, .ref aTr, .ref aAk, .int gu, .int wk, .int db, .int dn, .int iv, .int qs], xAZ G aTr 40 tr, xAZ G aAk 10 ak, xO aL 1 [.int pl, .ref aEx, .ref aSh, .ref aLd, .ref aTw, .ref aLe, .ref aOp, .ref aFa], xAI G aLd 40 ld, xAI G aLe 40 le, xAZ G aOp 40 op, xAI G aFa 10 fa, xAJ G aB 1 ot] sz (fun (r : Int32) (u : (Int32) × (Int32) × (Int32) × (Nat → Int32) × (Nat → Int32) × (Nat → Int32) × (Nat → Int64)) => r = (FL_beginErrand po go wl dn tr ak pl ld le op fa g ot).1 ∧ u = (FL_beginErrand po go wl dn tr ak pl ld le op fa g ot).2) (fun u : (Int32) × (Int32) × (Int32) × (Nat → Int32) × (Nat → Int32) × (Nat → Int32) × (Nat → Int64) => [xO aX 3 [.ref aL, .ref aC, .ref aT], xO aC 0 [.ref aL, .ref aM, .int po, .int co, .int u.1, .ref aWy, .int u.2.1, .ref aTr, .ref aAk, .int gu, .int wk, .int db, .int u.2.2.1, .int iv, .int qs], xAZ G aTr 40 u.2.2.2.1, xAZ G aAk 10 u.2.2.2.2.1, xO aL 1 [.int pl, .ref aEx, .ref aSh, .ref aLd, .ref aTw, .ref aLe, .ref aOp, .ref aFa], xAI G aLd 40 ld, xAI G aLe 40 le, xAZ G aOp 40 op, xAI G aFa 10 u.2.2.2.2.2.1, xAJ G aB 1 u.2.2.2.2.2.2])) := by
  refine xofW (own := RL) (cc := cL_beginErrand) (maxL := 4) (ret := (some .int)) (hh := [(0, 9, 12, 19), (0, 9, 15, 13)]) rfl (by decide) rfl (Nat.le_of_ble_eq_true rfl) ?_
  intro pg en s mi below meth cd hc ht hw ls hl
  obtain ⟨hx, hb, -, hown, hts, -⟩ := id hc
  have hl : lv_has ls 4 [(0, .ref aX), (1, .int g), (2, .ref aB)] := hl
  refine lv_aload_n hx hb dL_beginErrand_0 rfl (lv_at hl 2 rfl) ?_
  refine lv_iconst (v := 0) hx hb dL_beginErrand_1 (by decide) ?_
  refine lv_aload_n hx hb dL_beginErrand_2 rfl (lv_at hl 0 rfl) ?_
  refine lv_iload_n hx hb dL_beginErrand_3 rfl (lv_at hl 1 rfl) ?_
  refine xcallX_i (isC := [0, 1, 2, 3, 4, 5, 6, 7, 8]) hc hw (xrunVX (n := 1) (As := [.int g]) (rest := [.int 0, .ref aB]) hc hw [0, 1, 2, 3, 4, 5, 6, 7, 8] (metX3_beginErrand l G hst _ aX aL aC aT aM aWy aTr aAk aEx aSh aLd aTw aLe aOp aFa po co go wl gu wk db dn iv qs tr ak pl ld le op fa g hpl hld) gL_beginErrand_X3_beginErrand rfl (by decide +kernel) ⟨Nat.le_of_ble_eq_true rfl, Nat.le_of_ble_eq_true rfl⟩ 0 rfl rfl rfl rfl rfl rfl hl.1 (Nat.le_of_ble_eq_true rfl) dL_beginErrand_4 ⟨Nat.le_of_ble_eq_true rfl, Nat.le_of_ble_eq_true rfl⟩) rfl [9] [1, 2, 3, 4, 5, 6, 7, 8, 9, 0] [1, 2, 3, 4, 5, 6, 7, 8, 9, 0] (fun u1 => [xO aX 3 [.ref aL, .ref aC, .ref aT], xO aC 0 [.ref aL, .ref aM, .int po, .int co, .int u1.1, .ref aWy, .int u1.2.1, .ref aTr, .ref aAk, .int gu, .int wk, .int db, .int u1.2.2.1, .int iv, .int qs], xAZ G aTr 40 u1.2.2.2.1, xAZ G aAk 10 u1.2.2.2.2.1, xO aL 1 [.int pl, .ref aEx, .ref aSh, .ref aLd, .ref aTw, .ref aLe, .ref aOp, .ref aFa], xAI G aLd 40 ld, xAI G aLe 40 le, xAZ G aOp 40 op, xAI G aFa 10 u1.2.2.2.2.2, xAJ G aB 1 ot]) (fun _ => rfl) rfl rfl rfl rfl rfl rfl (fun E ce q9 H locs hpx hw h9 hv9 hc9 => ?_) (fun r2 u1 H locs hp3 hw => ?_)
  · rcases ycase hpx.2 with hE | hE | hE
    · subst hE
      refine ycatch (own := RL) (nms := []) hc [] ⟨0, 9, 12, 19⟩ [⟨0, 9, 15, 13⟩] ht rfl rfl (by intro z hz; cases hz) (by intro z hz; cases hz) rfl (by decide) lkL_beginErrand_c19 (by decide +kernel) h9 hv9 hc9 ?_
      refine lv_astore_n (lv' := [(3, .ref q9), (0, .ref aX), (1, .int g), (2, .ref aB)]) hx hb dL_beginErrand_12 rfl hl (by decide) rfl (fun ls hl => ?_)
      refine lv_iconst (v := 1) hx hb dL_beginErrand_13 (by decide) ?_
      obtain ⟨u0, hu0⟩ : ∃ z : (Int32) × (Int32) × (Int32) × (Nat → Int32) × (Nat → Int32) × (Nat → Int32) × (Nat → Int64), z = (go, wl, dn, tr, ak, fa, ot) := ⟨_, rfl⟩
      refine xret_i u0 hc ?_ ?_ ⟨Nat.le_of_ble_eq_true rfl, Nat.le_of_ble_eq_true rfl⟩ dL_beginErrand_14
      · subst hu0; dsimp only; exact hw
      · subst hu0; exact xe2 (yh3 (hpx.1.trans xcode_IO) (by decide) (if_pos rfl))
    · subst hE
      exact absurd hpx.1 (by rcases cdX3_beginErrand with h9 | h9 | h9 <;> rw [h9] <;> decide +kernel)
    · subst hE
      refine ycatch (own := RL) (nms := [(19, xIO)]) hc [⟨0, 9, 12, 19⟩] ⟨0, 9, 15, 13⟩ [] ht rfl rfl (by intro z hz; cases hz with | head => exact lkL_beginErrand_c19 | tail _ hz => (cases hz)) (by intro z hz; cases hz with | head => exact (by decide +kernel) | tail _ hz => (cases hz)) rfl (by decide) lkL_beginErrand_c13 (by decide +kernel) h9 hv9 hc9 ?_
      refine lv_astore_n (lv' := [(3, .ref q9), (0, .ref aX), (1, .int g), (2, .ref aB)]) hx hb dL_beginErrand_15 rfl hl (by decide) rfl (fun ls hl => ?_)
      refine lv_iconst (v := 2) hx hb dL_beginErrand_16 (by decide) ?_
      obtain ⟨u0, hu0⟩ : ∃ z : (Int32) × (Int32) × (Int32) × (Nat → Int32) × (Nat → Int32) × (Nat → Int32) × (Nat → Int64), z = (go, wl, dn, tr, ak, fa, ot) := ⟨_, rfl⟩
      refine xret_i u0 hc ?_ ?_ ⟨Nat.le_of_ble_eq_true rfl, Nat.le_of_ble_eq_true rfl⟩ dL_beginErrand_17
      · subst hu0; dsimp only; exact hw
      · subst hu0; exact xe2 (yh3 (hpx.1.trans xcode_IS) (by decide) (if_neg (by decide)))
  refine lv_i2l hx hb dL_beginErrand_7 rfl ?_
  refine xlast hc hw 9 [xO aX 3 [.ref aL, .ref aC, .ref aT], xO aC 0 [.ref aL, .ref aM, .int po, .int co, .int u1.1, .ref aWy, .int u1.2.1, .ref aTr, .ref aAk, .int gu, .int wk, .int db, .int u1.2.2.1, .int iv, .int qs], xAZ G aTr 40 u1.2.2.2.1, xAZ G aAk 10 u1.2.2.2.2.1, xO aL 1 [.int pl, .ref aEx, .ref aSh, .ref aLd, .ref aTw, .ref aLe, .ref aOp, .ref aFa], xAI G aLd 40 ld, xAI G aLe 40 le, xAZ G aOp 40 op, xAI G aFa 10 u1.2.2.2.2.2, xAJ G aB 1 (vp_updL ot (0 : Int32).toNatClampNeg r2.toInt64)] rfl (xin ⟨by decide, by decide⟩) rfl dL_beginErrand_8 (fun H locs hw => ?_)
  refine lv_goto (tgt := 18) hx hb dL_beginErrand_9 (by decide) ?_
  refine lv_iconst (v := 0) hx hb dL_beginErrand_18 (by decide) ?_
  obtain ⟨u0, hu0⟩ : ∃ z : (Int32) × (Int32) × (Int32) × (Nat → Int32) × (Nat → Int32) × (Nat → Int32) × (Nat → Int64), z = (u1.1, u1.2.1, u1.2.2.1, u1.2.2.2.1, u1.2.2.2.2.1, u1.2.2.2.2.2, vp_updL ot (0 : Int32).toNatClampNeg r2.toInt64) := ⟨_, rfl⟩
  refine xret_i u0 hc ?_ ?_ ⟨Nat.le_of_ble_eq_true rfl, Nat.le_of_ble_eq_true rfl⟩ dL_beginErrand_19
  · subst hu0; dsimp only; exact hw
  · subst hu0; exact xe2 (yt3 hp3 rfl)
def FL_goOn (po : Int32) (co : Int32) (go : Int32) (wl : Int32) (gu : Int32) (wk : Int32) (db : Int32) (dn : Int32) (iv : Int32) (qs : Int32) (wy : Nat → Int32) (tr : Nat → Int32) (ak : Nat → Int32) (mx : Nat → Int32) (ms : Nat → Int32) (pl : Int32) (ex : Nat → Int32) (sh : Nat → Int32) (ld : Nat → Int32) (tw : Nat → Int32) (le : Nat → Int32) (op : Nat → Int32) (fa : Nat → Int32) (nst : Int32) (ot : Nat → Int64) : Int32 × (Int32) × (Int32) × (Int32) × (Int32) × (Int32) × (Int32) × (Int32) × (Int32) × (Int32) × (Nat → Int32) × (Nat → Int32) × (Nat → Int32) × (Nat → Int32) × (Nat → Int32) × (Nat → Int32) × (Nat → Int64) :=
  yc3 (FX3_goOn po co go wl gu wk db dn iv qs wy tr ak mx ms pl ex sh ld tw le op fa nst) (fun k => if k = 2 then ((1, po, co, go, wl, wk, db, dn, iv, qs, wy, tr, ak, mx, ms, fa, ot)) else ((2, po, co, go, wl, wk, db, dn, iv, qs, wy, tr, ak, mx, ms, fa, ot))) (fun r2 u1 => (0, u1.1, u1.2.1, u1.2.2.1, u1.2.2.2.1, u1.2.2.2.2.1, u1.2.2.2.2.2.1, u1.2.2.2.2.2.2.1, u1.2.2.2.2.2.2.2.1, u1.2.2.2.2.2.2.2.2.1, u1.2.2.2.2.2.2.2.2.2.1, u1.2.2.2.2.2.2.2.2.2.2.1, u1.2.2.2.2.2.2.2.2.2.2.2.1, u1.2.2.2.2.2.2.2.2.2.2.2.2.1, u1.2.2.2.2.2.2.2.2.2.2.2.2.2.1, u1.2.2.2.2.2.2.2.2.2.2.2.2.2.2, vp_updL ot (0 : Int32).toNatClampNeg r2.toInt64))
set_option maxHeartbeats 40000000 in
set_option maxRecDepth 100000 in
theorem metL_goOn (l : Launch) (G : xG) (hst : l.stackTraces = false) (sz : Nat) (aX : Nat) (aL : Nat) (aC : Nat) (aT : Nat) (aM : Nat) (aWy : Nat) (aTr : Nat) (aAk : Nat) (aMx : Nat) (aMs : Nat) (aEx : Nat) (aSh : Nat) (aLd : Nat) (aTw : Nat) (aLe : Nat) (aOp : Nat) (aFa : Nat) (aB : Nat) (po : Int32) (co : Int32) (go : Int32) (wl : Int32) (gu : Int32) (wk : Int32) (db : Int32) (dn : Int32) (iv : Int32) (qs : Int32) (wy : Nat → Int32) (tr : Nat → Int32) (ak : Nat → Int32) (mx : Nat → Int32) (ms : Nat → Int32) (pl : Int32) (ex : Nat → Int32) (sh : Nat → Int32) (ld : Nat → Int32) (tw : Nat → Int32) (le : Nat → Int32) (op : Nat → Int32) (fa : Nat → Int32) (nst : Int32) (ot : Nat → Int64) (hpl : 0 ≤ pl.toInt ∧ pl.toInt ≤ 10) (hex4 : ∀ k, k < 10 → 0 ≤ (ex k).toInt ∧ (ex k).toInt ≤ 4) (hld : ∀ k, k < 40 → 0 ≤ (ld k).toInt ∧ (ld k).toInt < 10) (hwl : 0 ≤ wl.toInt ∧ wl.toInt ≤ 20) : xM l yL_goOn wsL_goOn ⟨8, 2, 12, 137⟩ G [.ref aX, .int nst, .ref aB] [xO aX 3 [.ref aL, .ref aC, .ref aT], xO aC 0 [.ref aL, .ref aM, .int po, .int co, .int go, .ref aWy, .int wl, .ref aTr, .ref aAk, .int gu, .int wk, .int db, .int dn, .int iv, .int qs], xAI G aWy 20 wy, xAZ G aTr 40 tr, xAZ G aAk 10 ak, xO aM 2 [.ref aMx, .ref aMs], xAI G aMx 100 mx, xAI G aMs 100 ms, xO aL 1 [.int pl, .ref aEx, .ref aSh, .ref aLd, .ref aTw, .ref aLe, .ref aOp, .ref aFa], xAI G aEx 10 ex, xAZ G aSh 10 sh, xAI G aLd 40 ld, xAI G aTw 40 tw, xAI G aLe 40 le, xAZ G aOp 40 op, xAI G aFa 10 fa, xAJ G aB 1 ot] sz (xQi G [xO aX 3 [.ref aL, .ref aC, .ref aT], xO aC 0 [.ref aL, .ref aM, .int po, .int co, .int go, .ref aWy, .int wl, .ref aTr, .ref aAk, .int gu, .int wk, .int db, .int dn, .int iv, .int qs], xAI G aWy 20 wy, xAZ G aTr 40 tr, xAZ G aAk 10 ak, xO aM 2 [.ref aMx, .ref aMs], xAI G aMx 100 mx, xAI G aMs 100 ms, xO aL 1 [.int pl, .ref aEx, .ref aSh, .ref aLd, .ref aTw, .ref aLe, .ref aOp, .ref aFa], xAI G aEx 10 ex, xAZ G aSh 10 sh, xAI G aLd 40 ld, xAI G aTw 40 tw, xAI G aLe 40 le, xAZ G aOp 40 op, xAI G aFa 10 fa, xAJ G aB 1 ot] sz (fun (r : Int32) (u : (Int32) × (Int32) × (Int32) × (Int32) × (Int32) × (Int32) × (Int32) × (Int32) × (Int32) × (Nat → Int32) × (Nat → Int32) × (Nat → Int32) × (Nat → Int32) × (Nat → Int32) × (Nat → Int32) × (Nat → Int64)) => r = (FL_goOn po co go wl gu wk db dn iv qs wy tr ak mx ms pl ex sh ld tw le op fa nst ot).1 ∧ u = (FL_goOn po co go wl gu wk db dn iv qs wy tr ak mx ms pl ex sh ld tw le op fa nst ot).2) (fun u : (Int32) × (Int32) × (Int32) × (Int32) × (Int32) × (Int32) × (Int32) × (Int32) × (Int32) × (Nat → Int32) × (Nat → Int32) × (Nat → Int32) × (Nat → Int32) × (Nat → Int32) × (Nat → Int32) × (Nat → Int64) => [xO aX 3 [.ref aL, .ref aC, .ref aT], xO aC 0 [.ref aL, .ref aM, .int u.1, .int u.2.1, .int u.2.2.1, .ref aWy, .int u.2.2.2.1, .ref aTr, .ref aAk, .int gu, .int u.2.2.2.2.1, .int u.2.2.2.2.2.1, .int u.2.2.2.2.2.2.1, .int u.2.2.2.2.2.2.2.1, .int u.2.2.2.2.2.2.2.2.1], xAI G aWy 20 u.2.2.2.2.2.2.2.2.2.1, xAZ G aTr 40 u.2.2.2.2.2.2.2.2.2.2.1, xAZ G aAk 10 u.2.2.2.2.2.2.2.2.2.2.2.1, xO aM 2 [.ref aMx, .ref aMs], xAI G aMx 100 u.2.2.2.2.2.2.2.2.2.2.2.2.1, xAI G aMs 100 u.2.2.2.2.2.2.2.2.2.2.2.2.2.1, xO aL 1 [.int pl, .ref aEx, .ref aSh, .ref aLd, .ref aTw, .ref aLe, .ref aOp, .ref aFa], xAI G aEx 10 ex, xAZ G aSh 10 sh, xAI G aLd 40 ld, xAI G aTw 40 tw, xAI G aLe 40 le, xAZ G aOp 40 op, xAI G aFa 10 u.2.2.2.2.2.2.2.2.2.2.2.2.2.2.1, xAJ G aB 1 u.2.2.2.2.2.2.2.2.2.2.2.2.2.2.2])) := by
  refine xofW (own := RL) (cc := cL_goOn) (maxL := 4) (ret := (some .int)) (hh := [(0, 9, 12, 21), (0, 9, 15, 13)]) rfl (by decide) rfl (Nat.le_of_ble_eq_true rfl) ?_
  intro pg en s mi below meth cd hc ht hw ls hl
  obtain ⟨hx, hb, -, hown, hts, -⟩ := id hc
  have hl : lv_has ls 4 [(0, .ref aX), (1, .int nst), (2, .ref aB)] := hl
  refine lv_aload_n hx hb dL_goOn_0 rfl (lv_at hl 2 rfl) ?_
  refine lv_iconst (v := 0) hx hb dL_goOn_1 (by decide) ?_
  refine lv_aload_n hx hb dL_goOn_2 rfl (lv_at hl 0 rfl) ?_
  refine lv_iload_n hx hb dL_goOn_3 rfl (lv_at hl 1 rfl) ?_
  refine xcallX_i (isC := [0, 1, 2, 3, 4, 5, 6, 7, 8, 9, 10, 11, 12, 13, 14, 15]) hc hw (xrunVX (n := 1) (As := [.int nst]) (rest := [.int 0, .ref aB]) hc hw [0, 1, 2, 3, 4, 5, 6, 7, 8, 9, 10, 11, 12, 13, 14, 15] (metX3_goOn l G hst _ aX aL aC aT aM aWy aTr aAk aMx aMs aEx aSh aLd aTw aLe aOp aFa po co go wl gu wk db dn iv qs wy tr ak mx ms pl ex sh ld tw le op fa nst hpl hex4 hld hwl) gL_goOn_X3_goOn rfl (by decide +kernel) ⟨Nat.le_of_ble_eq_true rfl, Nat.le_of_ble_eq_true rfl⟩ 0 rfl rfl rfl rfl rfl rfl hl.1 (Nat.le_of_ble_eq_true rfl) dL_goOn_4 ⟨Nat.le_of_ble_eq_true rfl, Nat.le_of_ble_eq_true rfl⟩) rfl [16] [1, 2, 3, 4, 5, 6, 7, 8, 9, 10, 11, 12, 13, 14, 15, 16, 0] [1, 2, 3, 4, 5, 6, 7, 8, 9, 10, 11, 12, 13, 14, 15, 16, 0] (fun u1 => [xO aX 3 [.ref aL, .ref aC, .ref aT], xO aC 0 [.ref aL, .ref aM, .int u1.1, .int u1.2.1, .int u1.2.2.1, .ref aWy, .int u1.2.2.2.1, .ref aTr, .ref aAk, .int gu, .int u1.2.2.2.2.1, .int u1.2.2.2.2.2.1, .int u1.2.2.2.2.2.2.1, .int u1.2.2.2.2.2.2.2.1, .int u1.2.2.2.2.2.2.2.2.1], xAI G aWy 20 u1.2.2.2.2.2.2.2.2.2.1, xAZ G aTr 40 u1.2.2.2.2.2.2.2.2.2.2.1, xAZ G aAk 10 u1.2.2.2.2.2.2.2.2.2.2.2.1, xO aM 2 [.ref aMx, .ref aMs], xAI G aMx 100 u1.2.2.2.2.2.2.2.2.2.2.2.2.1, xAI G aMs 100 u1.2.2.2.2.2.2.2.2.2.2.2.2.2.1, xO aL 1 [.int pl, .ref aEx, .ref aSh, .ref aLd, .ref aTw, .ref aLe, .ref aOp, .ref aFa], xAI G aEx 10 ex, xAZ G aSh 10 sh, xAI G aLd 40 ld, xAI G aTw 40 tw, xAI G aLe 40 le, xAZ G aOp 40 op, xAI G aFa 10 u1.2.2.2.2.2.2.2.2.2.2.2.2.2.2, xAJ G aB 1 ot]) (fun _ => rfl) rfl rfl rfl rfl rfl rfl (fun E ce q9 H locs hpx hw h9 hv9 hc9 => ?_) (fun r2 u1 H locs hp3 hw => ?_)
  · rcases ycase hpx.2 with hE | hE | hE
    · subst hE
      exact absurd hpx.1 (by rcases cdX3_goOn with h9 | h9 | h9 <;> rw [h9] <;> decide +kernel)
    · subst hE
      refine ycatch (own := RL) (nms := []) hc [] ⟨0, 9, 12, 21⟩ [⟨0, 9, 15, 13⟩] ht rfl rfl (by intro z hz; cases hz) (by intro z hz; cases hz) rfl (by decide) lkL_goOn_c21 (by decide +kernel) h9 hv9 hc9 ?_
      refine lv_astore_n (lv' := [(3, .ref q9), (0, .ref aX), (1, .int nst), (2, .ref aB)]) hx hb dL_goOn_12 rfl hl (by decide) rfl (fun ls hl => ?_)
      refine lv_iconst (v := 1) hx hb dL_goOn_13 (by decide) ?_
      obtain ⟨u0, hu0⟩ : ∃ z : (Int32) × (Int32) × (Int32) × (Int32) × (Int32) × (Int32) × (Int32) × (Int32) × (Int32) × (Nat → Int32) × (Nat → Int32) × (Nat → Int32) × (Nat → Int32) × (Nat → Int32) × (Nat → Int32) × (Nat → Int64), z = (po, co, go, wl, wk, db, dn, iv, qs, wy, tr, ak, mx, ms, fa, ot) := ⟨_, rfl⟩
      refine xret_i u0 hc ?_ ?_ ⟨Nat.le_of_ble_eq_true rfl, Nat.le_of_ble_eq_true rfl⟩ dL_goOn_14
      · subst hu0; dsimp only; exact hw
      · subst hu0; exact xe2 (yh3 (hpx.1.trans xcode_IA) (by decide) (if_pos rfl))
    · subst hE
      refine ycatch (own := RL) (nms := [(21, xIA)]) hc [⟨0, 9, 12, 21⟩] ⟨0, 9, 15, 13⟩ [] ht rfl rfl (by intro z hz; cases hz with | head => exact lkL_goOn_c21 | tail _ hz => (cases hz)) (by intro z hz; cases hz with | head => exact (by decide +kernel) | tail _ hz => (cases hz)) rfl (by decide) lkL_goOn_c13 (by decide +kernel) h9 hv9 hc9 ?_
      refine lv_astore_n (lv' := [(3, .ref q9), (0, .ref aX), (1, .int nst), (2, .ref aB)]) hx hb dL_goOn_15 rfl hl (by decide) rfl (fun ls hl => ?_)
      refine lv_iconst (v := 2) hx hb dL_goOn_16 (by decide) ?_
      obtain ⟨u0, hu0⟩ : ∃ z : (Int32) × (Int32) × (Int32) × (Int32) × (Int32) × (Int32) × (Int32) × (Int32) × (Int32) × (Nat → Int32) × (Nat → Int32) × (Nat → Int32) × (Nat → Int32) × (Nat → Int32) × (Nat → Int32) × (Nat → Int64), z = (po, co, go, wl, wk, db, dn, iv, qs, wy, tr, ak, mx, ms, fa, ot) := ⟨_, rfl⟩
      refine xret_i u0 hc ?_ ?_ ⟨Nat.le_of_ble_eq_true rfl, Nat.le_of_ble_eq_true rfl⟩ dL_goOn_17
      · subst hu0; dsimp only; exact hw
      · subst hu0; exact xe2 (yh3 (hpx.1.trans xcode_IS) (by decide) (if_neg (by decide)))
  refine lv_i2l hx hb dL_goOn_7 rfl ?_
  refine xlast hc hw 16 [xO aX 3 [.ref aL, .ref aC, .ref aT], xO aC 0 [.ref aL, .ref aM, .int u1.1, .int u1.2.1, .int u1.2.2.1, .ref aWy, .int u1.2.2.2.1, .ref aTr, .ref aAk, .int gu, .int u1.2.2.2.2.1, .int u1.2.2.2.2.2.1, .int u1.2.2.2.2.2.2.1, .int u1.2.2.2.2.2.2.2.1, .int u1.2.2.2.2.2.2.2.2.1], xAI G aWy 20 u1.2.2.2.2.2.2.2.2.2.1, xAZ G aTr 40 u1.2.2.2.2.2.2.2.2.2.2.1, xAZ G aAk 10 u1.2.2.2.2.2.2.2.2.2.2.2.1, xO aM 2 [.ref aMx, .ref aMs], xAI G aMx 100 u1.2.2.2.2.2.2.2.2.2.2.2.2.1, xAI G aMs 100 u1.2.2.2.2.2.2.2.2.2.2.2.2.2.1, xO aL 1 [.int pl, .ref aEx, .ref aSh, .ref aLd, .ref aTw, .ref aLe, .ref aOp, .ref aFa], xAI G aEx 10 ex, xAZ G aSh 10 sh, xAI G aLd 40 ld, xAI G aTw 40 tw, xAI G aLe 40 le, xAZ G aOp 40 op, xAI G aFa 10 u1.2.2.2.2.2.2.2.2.2.2.2.2.2.2, xAJ G aB 1 (vp_updL ot (0 : Int32).toNatClampNeg r2.toInt64)] rfl (xin ⟨by decide, by decide⟩) rfl dL_goOn_8 (fun H locs hw => ?_)
  refine lv_goto (tgt := 18) hx hb dL_goOn_9 (by decide) ?_
  refine lv_iconst (v := 0) hx hb dL_goOn_18 (by decide) ?_
  obtain ⟨u0, hu0⟩ : ∃ z : (Int32) × (Int32) × (Int32) × (Int32) × (Int32) × (Int32) × (Int32) × (Int32) × (Int32) × (Nat → Int32) × (Nat → Int32) × (Nat → Int32) × (Nat → Int32) × (Nat → Int32) × (Nat → Int32) × (Nat → Int64), z = (u1.1, u1.2.1, u1.2.2.1, u1.2.2.2.1, u1.2.2.2.2.1, u1.2.2.2.2.2.1, u1.2.2.2.2.2.2.1, u1.2.2.2.2.2.2.2.1, u1.2.2.2.2.2.2.2.2.1, u1.2.2.2.2.2.2.2.2.2.1, u1.2.2.2.2.2.2.2.2.2.2.1, u1.2.2.2.2.2.2.2.2.2.2.2.1, u1.2.2.2.2.2.2.2.2.2.2.2.2.1, u1.2.2.2.2.2.2.2.2.2.2.2.2.2.1, u1.2.2.2.2.2.2.2.2.2.2.2.2.2.2, vp_updL ot (0 : Int32).toNatClampNeg r2.toInt64) := ⟨_, rfl⟩
  refine xret_i u0 hc ?_ ?_ ⟨Nat.le_of_ble_eq_true rfl, Nat.le_of_ble_eq_true rfl⟩ dL_goOn_19
  · subst hu0; dsimp only; exact hw
  · subst hu0; exact xe2 (yt3 hp3 rfl)
def FL_giveUp (go : Int32) (wl : Int32) (ot : Nat → Int64) : Int32 × (Int32) × (Int32) × (Nat → Int64) :=
  yc3 (FX3_giveUp go wl) (fun k => ((1, go, wl, ot))) (fun r2 u1 => (0, u1.1, u1.2, vp_updL ot (0 : Int32).toNatClampNeg r2.toInt64))
set_option maxHeartbeats 40000000 in
set_option maxRecDepth 100000 in
theorem metL_giveUp (l : Launch) (G : xG) (hst : l.stackTraces = false) (sz : Nat) (aX : Nat) (aL : Nat) (aC : Nat) (aT : Nat) (aM : Nat) (aWy : Nat) (aTr : Nat) (aAk : Nat) (aB : Nat) (po : Int32) (co : Int32) (go : Int32) (wl : Int32) (gu : Int32) (wk : Int32) (db : Int32) (dn : Int32) (iv : Int32) (qs : Int32) (ot : Nat → Int64) : xM l yL_giveUp wsL_giveUp ⟨8, 1, 6, 123⟩ G [.ref aX, .ref aB] [xO aX 3 [.ref aL, .ref aC, .ref aT], xO aC 0 [.ref aL, .ref aM, .int po, .int co, .int go, .ref aWy, .int wl, .ref aTr, .ref aAk, .int gu, .int wk, .int db, .int dn, .int iv, .int qs], xAJ G aB 1 ot] sz (xQi G [xO aX 3 [.ref aL, .ref aC, .ref aT], xO aC 0 [.ref aL, .ref aM, .int po, .int co, .int go, .ref aWy, .int wl, .ref aTr, .ref aAk, .int gu, .int wk, .int db, .int dn, .int iv, .int qs], xAJ G aB 1 ot] sz (fun (r : Int32) (u : (Int32) × (Int32) × (Nat → Int64)) => r = (FL_giveUp go wl ot).1 ∧ u = (FL_giveUp go wl ot).2) (fun u : (Int32) × (Int32) × (Nat → Int64) => [xO aX 3 [.ref aL, .ref aC, .ref aT], xO aC 0 [.ref aL, .ref aM, .int po, .int co, .int u.1, .ref aWy, .int u.2.1, .ref aTr, .ref aAk, .int gu, .int wk, .int db, .int dn, .int iv, .int qs], xAJ G aB 1 u.2.2])) := by
  refine xofW (own := RL) (cc := cL_giveUp) (maxL := 3) (ret := (some .int)) (hh := [(0, 8, 11, 13)]) rfl (by decide) rfl (Nat.le_of_ble_eq_true rfl) ?_
  intro pg en s mi below meth cd hc ht hw ls hl
  obtain ⟨hx, hb, -, hown, hts, -⟩ := id hc
  have hl : lv_has ls 3 [(0, .ref aX), (1, .ref aB)] := hl
  refine lv_aload_n hx hb dL_giveUp_0 rfl (lv_at hl 1 rfl) ?_
  refine lv_iconst (v := 0) hx hb dL_giveUp_1 (by decide) ?_
  refine lv_aload_n hx hb dL_giveUp_2 rfl (lv_at hl 0 rfl) ?_
  refine xcallX_i (isC := [0, 1]) hc hw (xrunVX (n := 0) (As := []) (rest := [.int 0, .ref aB]) hc hw [0, 1] (metX3_giveUp l G hst _ aX aL aC aT aM aWy aTr aAk po co go wl gu wk db dn iv qs) gL_giveUp_X3_giveUp rfl (by decide +kernel) ⟨Nat.le_of_ble_eq_true rfl, Nat.le_of_ble_eq_true rfl⟩ 0 rfl rfl rfl rfl rfl rfl hl.1 (Nat.le_of_ble_eq_true rfl) dL_giveUp_3 ⟨Nat.le_of_ble_eq_true rfl, Nat.le_of_ble_eq_true rfl⟩) rfl [2] [1, 2, 0] [1, 2, 0] (fun u1 => [xO aX 3 [.ref aL, .ref aC, .ref aT], xO aC 0 [.ref aL, .ref aM, .int po, .int co, .int u1.1, .ref aWy, .int u1.2, .ref aTr, .ref aAk, .int gu, .int wk, .int db, .int dn, .int iv, .int qs], xAJ G aB 1 ot]) (fun _ => rfl) rfl rfl rfl rfl rfl rfl (fun E ce q9 H locs hpx hw h9 hv9 hc9 => ?_) (fun r2 u1 H locs hp3 hw => ?_)
  · rcases ycase hpx.2 with hE | hE | hE
    · subst hE
      exact absurd hpx.1 (by rcases cdX3_giveUp with h9 | h9 | h9 <;> rw [h9] <;> decide +kernel)
    · subst hE
      exact absurd hpx.1 (by rcases cdX3_giveUp with h9 | h9 | h9 <;> rw [h9] <;> decide +kernel)
    · subst hE
      refine ycatch (own := RL) (nms := []) hc [] ⟨0, 8, 11, 13⟩ [] ht rfl rfl (by intro z hz; cases hz) (by intro z hz; cases hz) rfl (by decide) lkL_giveUp_c13 (by decide +kernel) h9 hv9 hc9 ?_
      refine lv_astore_n (lv' := [(2, .ref q9), (0, .ref aX), (1, .ref aB)]) hx hb dL_giveUp_11 rfl hl (by decide) rfl (fun ls hl => ?_)
      refine lv_iconst (v := 1) hx hb dL_giveUp_12 (by decide) ?_
      obtain ⟨u0, hu0⟩ : ∃ z : (Int32) × (Int32) × (Nat → Int64), z = (go, wl, ot) := ⟨_, rfl⟩
      refine xret_i u0 hc ?_ ?_ ⟨Nat.le_of_ble_eq_true rfl, Nat.le_of_ble_eq_true rfl⟩ dL_giveUp_13
      · subst hu0; dsimp only; exact hw
      · subst hu0; exact xe2 (yh3 (hpx.1.trans xcode_IS) (by decide) rfl)
  refine lv_i2l hx hb dL_giveUp_6 rfl ?_
  refine xlast hc hw 2 [xO aX 3 [.ref aL, .ref aC, .ref aT], xO aC 0 [.ref aL, .ref aM, .int po, .int co, .int u1.1, .ref aWy, .int u1.2, .ref aTr, .ref aAk, .int gu, .int wk, .int db, .int dn, .int iv, .int qs], xAJ G aB 1 (vp_updL ot (0 : Int32).toNatClampNeg r2.toInt64)] rfl (xin ⟨by decide, by decide⟩) rfl dL_giveUp_7 (fun H locs hw => ?_)
  refine lv_goto (tgt := 14) hx hb dL_giveUp_8 (by decide) ?_
  refine lv_iconst (v := 0) hx hb dL_giveUp_14 (by decide) ?_
  obtain ⟨u0, hu0⟩ : ∃ z : (Int32) × (Int32) × (Nat → Int64), z = (u1.1, u1.2, vp_updL ot (0 : Int32).toNatClampNeg r2.toInt64) := ⟨_, rfl⟩
  refine xret_i u0 hc ?_ ?_ ⟨Nat.le_of_ble_eq_true rfl, Nat.le_of_ble_eq_true rfl⟩ dL_giveUp_15
  · subst hu0; dsimp only; exact hw
  · subst hu0; exact xe2 (yt3 hp3 rfl)
def FL_sleep (ms : Nat → Int32) (nn : Int32) (ot : Nat → Int64) : Int32 × (Nat → Int32) × (Nat → Int64) :=
  yc3 (FX3_sleep ms nn) (fun k => ((1, ms, ot))) (fun r2 u1 => (0, u1, vp_updL ot (0 : Int32).toNatClampNeg r2.toInt64))
set_option maxHeartbeats 40000000 in
set_option maxRecDepth 100000 in
theorem metL_sleep (l : Launch) (G : xG) (hst : l.stackTraces = false) (sz : Nat) (aX : Nat) (aL : Nat) (aC : Nat) (aT : Nat) (aM : Nat) (aWy : Nat) (aTr : Nat) (aAk : Nat) (aMx : Nat) (aMs : Nat) (aB : Nat) (po : Int32) (co : Int32) (go : Int32) (wl : Int32) (gu : Int32) (wk : Int32) (db : Int32) (dn : Int32) (iv : Int32) (qs : Int32) (ms : Nat → Int32) (nn : Int32) (ot : Nat → Int64) : xM l yL_sleep wsL_sleep ⟨8, 1, 6, 125⟩ G [.ref aX, .int nn, .ref aB] [xO aX 3 [.ref aL, .ref aC, .ref aT], xO aC 0 [.ref aL, .ref aM, .int po, .int co, .int go, .ref aWy, .int wl, .ref aTr, .ref aAk, .int gu, .int wk, .int db, .int dn, .int iv, .int qs], xO aM 2 [.ref aMx, .ref aMs], xAI G aMs 100 ms, xAJ G aB 1 ot] sz (xQi G [xO aX 3 [.ref aL, .ref aC, .ref aT], xO aC 0 [.ref aL, .ref aM, .int po, .int co, .int go, .ref aWy, .int wl, .ref aTr, .ref aAk, .int gu, .int wk, .int db, .int dn, .int iv, .int qs], xO aM 2 [.ref aMx, .ref aMs], xAI G aMs 100 ms, xAJ G aB 1 ot] sz (fun (r : Int32) (u : (Nat → Int32) × (Nat → Int64)) => r = (FL_sleep ms nn ot).1 ∧ u = (FL_sleep ms nn ot).2) (fun u : (Nat → Int32) × (Nat → Int64) => [xO aX 3 [.ref aL, .ref aC, .ref aT], xO aC 0 [.ref aL, .ref aM, .int po, .int co, .int go, .ref aWy, .int wl, .ref aTr, .ref aAk, .int gu, .int wk, .int db, .int dn, .int iv, .int qs], xO aM 2 [.ref aMx, .ref aMs], xAI G aMs 100 u.1, xAJ G aB 1 u.2])) := by
  refine xofW (own := RL) (cc := cL_sleep) (maxL := 4) (ret := (some .int)) (hh := [(0, 9, 12, 21)]) rfl (by decide) rfl (Nat.le_of_ble_eq_true rfl) ?_
  intro pg en s mi below meth cd hc ht hw ls hl
  obtain ⟨hx, hb, -, hown, hts, -⟩ := id hc
  have hl : lv_has ls 4 [(0, .ref aX), (1, .int nn), (2, .ref aB)] := hl
  refine lv_aload_n hx hb dL_sleep_0 rfl (lv_at hl 2 rfl) ?_
  refine lv_iconst (v := 0) hx hb dL_sleep_1 (by decide) ?_
  refine lv_aload_n hx hb dL_sleep_2 rfl (lv_at hl 0 rfl) ?_
  refine lv_iload_n hx hb dL_sleep_3 rfl (lv_at hl 1 rfl) ?_
  refine xcallX_i (isC := [0, 1, 2, 3]) hc hw (xrunVX (n := 1) (As := [.int nn]) (rest := [.int 0, .ref aB]) hc hw [0, 1, 2, 3] (metX3_sleep l G hst _ aX aL aC aT aM aWy aTr aAk aMx aMs po co go wl gu wk db dn iv qs ms nn) gL_sleep_X3_sleep rfl (by decide +kernel) ⟨Nat.le_of_ble_eq_true rfl, Nat.le_of_ble_eq_true rfl⟩ 0 rfl rfl rfl rfl rfl rfl hl.1 (Nat.le_of_ble_eq_true rfl) dL_sleep_4 ⟨Nat.le_of_ble_eq_true rfl, Nat.le_of_ble_eq_true rfl⟩) rfl [4] [1, 2, 3, 4, 0] [1, 2, 3, 4, 0] (fun u1 => [xO aX 3 [.ref aL, .ref aC, .ref aT], xO aC 0 [.ref aL, .ref aM, .int po, .int co, .int go, .ref aWy, .int wl, .ref aTr, .ref aAk, .int gu, .int wk, .int db, .int dn, .int iv, .int qs], xO aM 2 [.ref aMx, .ref aMs], xAI G aMs 100 u1, xAJ G aB 1 ot]) (fun _ => rfl) rfl rfl rfl rfl rfl rfl (fun E ce q9 H locs hpx hw h9 hv9 hc9 => ?_) (fun r2 u1 H locs hp3 hw => ?_)
  · rcases ycase hpx.2 with hE | hE | hE
    · subst hE
      exact absurd hpx.1 (by rcases cdX3_sleep with h9 | h9 | h9 <;> rw [h9] <;> decide +kernel)
    · subst hE
      refine ycatch (own := RL) (nms := []) hc [] ⟨0, 9, 12, 21⟩ [] ht rfl rfl (by intro z hz; cases hz) (by intro z hz; cases hz) rfl (by decide) lkL_sleep_c21 (by decide +kernel) h9 hv9 hc9 ?_
      refine lv_astore_n (lv' := [(3, .ref q9), (0, .ref aX), (1, .int nn), (2, .ref aB)]) hx hb dL_sleep_12 rfl hl (by decide) rfl (fun ls hl => ?_)
      refine lv_iconst (v := 1) hx hb dL_sleep_13 (by decide) ?_
      obtain ⟨u0, hu0⟩ : ∃ z : (Nat → Int32) × (Nat → Int64), z = (ms, ot) := ⟨_, rfl⟩
      refine xret_i u0 hc ?_ ?_ ⟨Nat.le_of_ble_eq_true rfl, Nat.le_of_ble_eq_true rfl⟩ dL_sleep_14
      · subst hu0; dsimp only; exact hw
      · subst hu0; exact xe2 (yh3 (hpx.1.trans xcode_IA) (by decide) rfl)
    · subst hE
      exact absurd hpx.1 (by rcases cdX3_sleep with h9 | h9 | h9 <;> rw [h9] <;> decide +kernel)
  refine lv_i2l hx hb dL_sleep_7 rfl ?_
  refine xlast hc hw 4 [xO aX 3 [.ref aL, .ref aC, .ref aT], xO aC 0 [.ref aL, .ref aM, .int po, .int co, .int go, .ref aWy, .int wl, .ref aTr, .ref aAk, .int gu, .int wk, .int db, .int dn, .int iv, .int qs], xO aM 2 [.ref aMx, .ref aMs], xAI G aMs 100 u1, xAJ G aB 1 (vp_updL ot (0 : Int32).toNatClampNeg r2.toInt64)] rfl (xin ⟨by decide, by decide⟩) rfl dL_sleep_8 (fun H locs hw => ?_)
  refine lv_goto (tgt := 15) hx hb dL_sleep_9 (by decide) ?_
  refine lv_iconst (v := 0) hx hb dL_sleep_15 (by decide) ?_
  obtain ⟨u0, hu0⟩ : ∃ z : (Nat → Int32) × (Nat → Int64), z = (u1, vp_updL ot (0 : Int32).toNatClampNeg r2.toInt64) := ⟨_, rfl⟩
  refine xret_i u0 hc ?_ ?_ ⟨Nat.le_of_ble_eq_true rfl, Nat.le_of_ble_eq_true rfl⟩ dL_sleep_16
  · subst hu0; dsimp only; exact hw
  · subst hu0; exact xe2 (yt3 hp3 rfl)
def FL_exitsOf (pl : Int32) (ex : Nat → Int32) (q : Int32) (ot : Nat → Int64) : Int32 × (Nat → Int64) :=
  yc2 (FX3_exitsOf pl ex q) (fun k => ((1, ot))) (fun r2 => (0, vp_updL ot (0 : Int32).toNatClampNeg r2.toInt64))
set_option maxHeartbeats 40000000 in
set_option maxRecDepth 100000 in
theorem metL_exitsOf (l : Launch) (G : xG) (hst : l.stackTraces = false) (sz : Nat) (aX : Nat) (aL : Nat) (aC : Nat) (aT : Nat) (aEx : Nat) (aSh : Nat) (aLd : Nat) (aTw : Nat) (aLe : Nat) (aOp : Nat) (aFa : Nat) (aB : Nat) (pl : Int32) (ex : Nat → Int32) (q : Int32) (ot : Nat → Int64) (hpl : 0 ≤ pl.toInt ∧ pl.toInt ≤ 10) : xM l yL_exitsOf wsL_exitsOf ⟨8, 1, 6, 124⟩ G [.ref aX, .int q, .ref aB] [xO aX 3 [.ref aL, .ref aC, .ref aT], xO aL 1 [.int pl, .ref aEx, .ref aSh, .ref aLd, .ref aTw, .ref aLe, .ref aOp, .ref aFa], xAI G aEx 10 ex, xAJ G aB 1 ot] sz (xQi G [xO aX 3 [.ref aL, .ref aC, .ref aT], xO aL 1 [.int pl, .ref aEx, .ref aSh, .ref aLd, .ref aTw, .ref aLe, .ref aOp, .ref aFa], xAI G aEx 10 ex, xAJ G aB 1 ot] sz (fun (r : Int32) (u : (Nat → Int64)) => r = (FL_exitsOf pl ex q ot).1 ∧ u = (FL_exitsOf pl ex q ot).2) (fun u : (Nat → Int64) => [xO aX 3 [.ref aL, .ref aC, .ref aT], xO aL 1 [.int pl, .ref aEx, .ref aSh, .ref aLd, .ref aTw, .ref aLe, .ref aOp, .ref aFa], xAI G aEx 10 ex, xAJ G aB 1 u])) := by
  refine xofW (own := RL) (cc := cL_exitsOf) (maxL := 4) (ret := (some .int)) (hh := [(0, 9, 12, 19)]) rfl (by decide) rfl (Nat.le_of_ble_eq_true rfl) ?_
  intro pg en s mi below meth cd hc ht hw ls hl
  obtain ⟨hx, hb, -, hown, hts, -⟩ := id hc
  have hl : lv_has ls 4 [(0, .ref aX), (1, .int q), (2, .ref aB)] := hl
  refine lv_aload_n hx hb dL_exitsOf_0 rfl (lv_at hl 2 rfl) ?_
  refine lv_iconst (v := 0) hx hb dL_exitsOf_1 (by decide) ?_
  refine lv_aload_n hx hb dL_exitsOf_2 rfl (lv_at hl 0 rfl) ?_
  refine lv_iload_n hx hb dL_exitsOf_3 rfl (lv_at hl 1 rfl) ?_
  refine xcallX_i (isC := [0, 1, 2]) hc hw (xrunVX (n := 1) (As := [.int q]) (rest := [.int 0, .ref aB]) hc hw [0, 1, 2] (metX3_exitsOf l G hst _ aX aL aC aT aEx aSh aLd aTw aLe aOp aFa pl ex q hpl) gL_exitsOf_X3_exitsOf rfl (by decide +kernel) ⟨Nat.le_of_ble_eq_true rfl, Nat.le_of_ble_eq_true rfl⟩ 0 rfl rfl rfl rfl rfl rfl hl.1 (Nat.le_of_ble_eq_true rfl) dL_exitsOf_4 ⟨Nat.le_of_ble_eq_true rfl, Nat.le_of_ble_eq_true rfl⟩) rfl [3] [1, 2, 3, 0] [1, 2, 3, 0] (fun u1 => [xO aX 3 [.ref aL, .ref aC, .ref aT], xO aL 1 [.int pl, .ref aEx, .ref aSh, .ref aLd, .ref aTw, .ref aLe, .ref aOp, .ref aFa], xAI G aEx 10 ex, xAJ G aB 1 ot]) (fun _ => rfl) rfl rfl rfl rfl rfl rfl (fun E ce q9 H locs hpx hw h9 hv9 hc9 => ?_) (fun r2 u1 H locs hp3 hw => ?_)
  · rcases ycase hpx.2 with hE | hE | hE
    · subst hE
      refine ycatch (own := RL) (nms := []) hc [] ⟨0, 9, 12, 19⟩ [] ht rfl rfl (by intro z hz; cases hz) (by intro z hz; cases hz) rfl (by decide) lkL_exitsOf_c19 (by decide +kernel) h9 hv9 hc9 ?_
      refine lv_astore_n (lv' := [(3, .ref q9), (0, .ref aX), (1, .int q), (2, .ref aB)]) hx hb dL_exitsOf_12 rfl hl (by decide) rfl (fun ls hl => ?_)
      refine lv_iconst (v := 1) hx hb dL_exitsOf_13 (by decide) ?_
      exact xret_i ot hc hw (xe2 (yh2 (hpx.1.trans xcode_IO) (by decide) rfl)) ⟨Nat.le_of_ble_eq_true rfl, Nat.le_of_ble_eq_true rfl⟩ dL_exitsOf_14
    · subst hE
      exact absurd hpx.1 (by rcases cdX3_exitsOf with h9 | h9 | h9 <;> rw [h9] <;> decide +kernel)
    · subst hE
      exact absurd hpx.1 (by rcases cdX3_exitsOf with h9 | h9 | h9 <;> rw [h9] <;> decide +kernel)
  refine lv_i2l hx hb dL_exitsOf_7 rfl ?_
  refine xlast hc hw 3 [xO aX 3 [.ref aL, .ref aC, .ref aT], xO aL 1 [.int pl, .ref aEx, .ref aSh, .ref aLd, .ref aTw, .ref aLe, .ref aOp, .ref aFa], xAI G aEx 10 ex, xAJ G aB 1 (vp_updL ot (0 : Int32).toNatClampNeg r2.toInt64)] rfl (xin ⟨by decide, by decide⟩) rfl dL_exitsOf_8 (fun H locs hw => ?_)
  refine lv_goto (tgt := 15) hx hb dL_exitsOf_9 (by decide) ?_
  refine lv_iconst (v := 0) hx hb dL_exitsOf_15 (by decide) ?_
  exact xret_i (vp_updL ot (0 : Int32).toNatClampNeg r2.toInt64) hc hw (xe2 (yt2 hp3 rfl)) ⟨Nat.le_of_ble_eq_true rfl, Nat.le_of_ble_eq_true rfl⟩ dL_exitsOf_16
def FL_leadsTo (pl : Int32) (ex : Nat → Int32) (ld : Nat → Int32) (q : Int32) (x : Int32) (ot : Nat → Int64) : Int32 × (Nat → Int64) :=
  yc2 (FX3_leadsTo pl ex ld q x) (fun k => ((1, ot))) (fun r2 => (0, vp_updL ot (0 : Int32).toNatClampNeg r2.toInt64))
set_option maxHeartbeats 40000000 in
set_option maxRecDepth 100000 in
theorem metL_leadsTo (l : Launch) (G : xG) (hst : l.stackTraces = false) (sz : Nat) (aX : Nat) (aL : Nat) (aC : Nat) (aT : Nat) (aEx : Nat) (aSh : Nat) (aLd : Nat) (aTw : Nat) (aLe : Nat) (aOp : Nat) (aFa : Nat) (aB : Nat) (pl : Int32) (ex : Nat → Int32) (ld : Nat → Int32) (q : Int32) (x : Int32) (ot : Nat → Int64) (hpl : 0 ≤ pl.toInt ∧ pl.toInt ≤ 10) : xM l yL_leadsTo wsL_leadsTo ⟨8, 1, 6, 127⟩ G [.ref aX, .int q, .int x, .ref aB] [xO aX 3 [.ref aL, .ref aC, .ref aT], xO aL 1 [.int pl, .ref aEx, .ref aSh, .ref aLd, .ref aTw, .ref aLe, .ref aOp, .ref aFa], xAI G aEx 10 ex, xAI G aLd 40 ld, xAJ G aB 1 ot] sz (xQi G [xO aX 3 [.ref aL, .ref aC, .ref aT], xO aL 1 [.int pl, .ref aEx, .ref aSh, .ref aLd, .ref aTw, .ref aLe, .ref aOp, .ref aFa], xAI G aEx 10 ex, xAI G aLd 40 ld, xAJ G aB 1 ot] sz (fun (r : Int32) (u : (Nat → Int64)) => r = (FL_leadsTo pl ex ld q x ot).1 ∧ u = (FL_leadsTo pl ex ld q x ot).2) (fun u : (Nat → Int64) => [xO aX 3 [.ref aL, .ref aC, .ref aT], xO aL 1 [.int pl, .ref aEx, .ref aSh, .ref aLd, .ref aTw, .ref aLe, .ref aOp, .ref aFa], xAI G aEx 10 ex, xAI G aLd 40 ld, xAJ G aB 1 u])) := by
  refine xofW (own := RL) (cc := cL_leadsTo) (maxL := 5) (ret := (some .int)) (hh := [(0, 10, 13, 19)]) rfl (by decide) rfl (Nat.le_of_ble_eq_true rfl) ?_
  intro pg en s mi below meth cd hc ht hw ls hl
  obtain ⟨hx, hb, -, hown, hts, -⟩ := id hc
  have hl : lv_has ls 5 [(0, .ref aX), (1, .int q), (2, .int x), (3, .ref aB)] := hl
  refine lv_aload_n hx hb dL_leadsTo_0 rfl (lv_at hl 3 rfl) ?_
  refine lv_iconst (v := 0) hx hb dL_leadsTo_1 (by decide) ?_
  refine lv_aload_n hx hb dL_leadsTo_2 rfl (lv_at hl 0 rfl) ?_
  refine lv_iload_n hx hb dL_leadsTo_3 rfl (lv_at hl 1 rfl) ?_
  refine lv_iload_n hx hb dL_leadsTo_4 rfl (lv_at hl 2 rfl) ?_
  refine xcallX_i (isC := [0, 1, 2, 3]) hc hw (xrunVX (n := 2) (As := [.int q, .int x]) (rest := [.int 0, .ref aB]) hc hw [0, 1, 2, 3] (metX3_leadsTo l G hst _ aX aL aC aT aEx aSh aLd aTw aLe aOp aFa pl ex ld q x hpl) gL_leadsTo_X3_leadsTo rfl (by decide +kernel) ⟨Nat.le_of_ble_eq_true rfl, Nat.le_of_ble_eq_true rfl⟩ 0 rfl rfl rfl rfl rfl rfl hl.1 (Nat.le_of_ble_eq_true rfl) dL_leadsTo_5 ⟨Nat.le_of_ble_eq_true rfl, Nat.le_of_ble_eq_true rfl⟩) rfl [4] [1, 2, 3, 4, 0] [1, 2, 3, 4, 0] (fun u1 => [xO aX 3 [.ref aL, .ref aC, .ref aT], xO aL 1 [.int pl, .ref aEx, .ref aSh, .ref aLd, .ref aTw, .ref aLe, .ref aOp, .ref aFa], xAI G aEx 10 ex, xAI G aLd 40 ld, xAJ G aB 1 ot]) (fun _ => rfl) rfl rfl rfl rfl rfl rfl (fun E ce q9 H locs hpx hw h9 hv9 hc9 => ?_) (fun r2 u1 H locs hp3 hw => ?_)
  · rcases ycase hpx.2 with hE | hE | hE
    · subst hE
      refine ycatch (own := RL) (nms := []) hc [] ⟨0, 10, 13, 19⟩ [] ht rfl rfl (by intro z hz; cases hz) (by intro z hz; cases hz) rfl (by decide) lkL_leadsTo_c19 (by decide +kernel) h9 hv9 hc9 ?_
      refine lv_astore (lv' := [(4, .ref q9), (0, .ref aX), (1, .int q), (2, .int x), (3, .ref aB)]) hx hb dL_leadsTo_13 hl (by decide) rfl (fun ls hl => ?_)
      refine lv_iconst (v := 1) hx hb dL_leadsTo_15 (by decide) ?_
      exact xret_i ot hc hw (xe2 (yh2 (hpx.1.trans xcode_IO) (by decide) rfl)) ⟨Nat.le_of_ble_eq_true rfl, Nat.le_of_ble_eq_true rfl⟩ dL_leadsTo_16
    · subst hE
      exact absurd hpx.1 (by rcases cdX3_leadsTo with h9 | h9 | h9 <;> rw [h9] <;> decide +kernel)
    · subst hE
      exact absurd hpx.1 (by rcases cdX3_leadsTo with h9 | h9 | h9 <;> rw [h9] <;> decide +kernel)
  refine lv_i2l hx hb dL_leadsTo_8 rfl ?_
  refine xlast hc hw 4 [xO aX 3 [.ref aL, .ref aC, .ref aT], xO aL 1 [.int pl, .ref aEx, .ref aSh, .ref aLd, .ref aTw, .ref aLe, .ref aOp, .ref aFa], xAI G aEx 10 ex, xAI G aLd 40 ld, xAJ G aB 1 (vp_updL ot (0 : Int32).toNatClampNeg r2.toInt64)] rfl (xin ⟨by decide, by decide⟩) rfl dL_leadsTo_9 (fun H locs hw => ?_)
  refine lv_goto (tgt := 17) hx hb dL_leadsTo_10 (by decide) ?_
  refine lv_iconst (v := 0) hx hb dL_leadsTo_17 (by decide) ?_
  exact xret_i (vp_updL ot (0 : Int32).toNatClampNeg r2.toInt64) hc hw (xe2 (yt2 hp3 rfl)) ⟨Nat.le_of_ble_eq_true rfl, Nat.le_of_ble_eq_true rfl⟩ dL_leadsTo_18
def FL_milesOf (pl : Int32) (ex : Nat → Int32) (le : Nat → Int32) (q : Int32) (x : Int32) (ot : Nat → Int64) : Int32 × (Nat → Int64) :=
  yc2 (FX3_milesOf pl ex le q x) (fun k => ((1, ot))) (fun r2 => (0, vp_updL ot (0 : Int32).toNatClampNeg r2.toInt64))
set_option maxHeartbeats 40000000 in
set_option maxRecDepth 100000 in
theorem metL_milesOf (l : Launch) (G : xG) (hst : l.stackTraces = false) (sz : Nat) (aX : Nat) (aL : Nat) (aC : Nat) (aT : Nat) (aEx : Nat) (aSh : Nat) (aLd : Nat) (aTw : Nat) (aLe : Nat) (aOp : Nat) (aFa : Nat) (aB : Nat) (pl : Int32) (ex : Nat → Int32) (le : Nat → Int32) (q : Int32) (x : Int32) (ot : Nat → Int64) (hpl : 0 ≤ pl.toInt ∧ pl.toInt ≤ 10) : xM l yL_milesOf wsL_milesOf ⟨8, 1, 6, 127⟩ G [.ref aX, .int q, .int x, .ref aB] [xO aX 3 [.ref aL, .ref aC, .ref aT], xO aL 1 [.int pl, .ref aEx, .ref aSh, .ref aLd, .ref aTw, .ref aLe, .ref aOp, .ref aFa], xAI G aEx 10 ex, xAI G aLe 40 le, xAJ G aB 1 ot] sz (xQi G [xO aX 3 [.ref aL, .ref aC, .ref aT], xO aL 1 [.int pl, .ref aEx, .ref aSh, .ref aLd, .ref aTw, .ref aLe, .ref aOp, .ref aFa], xAI G aEx 10 ex, xAI G aLe 40 le, xAJ G aB 1 ot] sz (fun (r : Int32) (u : (Nat → Int64)) => r = (FL_milesOf pl ex le q x ot).1 ∧ u = (FL_milesOf pl ex le q x ot).2) (fun u : (Nat → Int64) => [xO aX 3 [.ref aL, .ref aC, .ref aT], xO aL 1 [.int pl, .ref aEx, .ref aSh, .ref aLd, .ref aTw, .ref aLe, .ref aOp, .ref aFa], xAI G aEx 10 ex, xAI G aLe 40 le, xAJ G aB 1 u])) := by
  refine xofW (own := RL) (cc := cL_milesOf) (maxL := 5) (ret := (some .int)) (hh := [(0, 10, 13, 19)]) rfl (by decide) rfl (Nat.le_of_ble_eq_true rfl) ?_
  intro pg en s mi below meth cd hc ht hw ls hl
  obtain ⟨hx, hb, -, hown, hts, -⟩ := id hc
  have hl : lv_has ls 5 [(0, .ref aX), (1, .int q), (2, .int x), (3, .ref aB)] := hl
  refine lv_aload_n hx hb dL_milesOf_0 rfl (lv_at hl 3 rfl) ?_
  refine lv_iconst (v := 0) hx hb dL_milesOf_1 (by decide) ?_
  refine lv_aload_n hx hb dL_milesOf_2 rfl (lv_at hl 0 rfl) ?_
  refine lv_iload_n hx hb dL_milesOf_3 rfl (lv_at hl 1 rfl) ?_
  refine lv_iload_n hx hb dL_milesOf_4 rfl (lv_at hl 2 rfl) ?_
  refine xcallX_i (isC := [0, 1, 2, 3]) hc hw (xrunVX (n := 2) (As := [.int q, .int x]) (rest := [.int 0, .ref aB]) hc hw [0, 1, 2, 3] (metX3_milesOf l G hst _ aX aL aC aT aEx aSh aLd aTw aLe aOp aFa pl ex le q x hpl) gL_milesOf_X3_milesOf rfl (by decide +kernel) ⟨Nat.le_of_ble_eq_true rfl, Nat.le_of_ble_eq_true rfl⟩ 0 rfl rfl rfl rfl rfl rfl hl.1 (Nat.le_of_ble_eq_true rfl) dL_milesOf_5 ⟨Nat.le_of_ble_eq_true rfl, Nat.le_of_ble_eq_true rfl⟩) rfl [4] [1, 2, 3, 4, 0] [1, 2, 3, 4, 0] (fun u1 => [xO aX 3 [.ref aL, .ref aC, .ref aT], xO aL 1 [.int pl, .ref aEx, .ref aSh, .ref aLd, .ref aTw, .ref aLe, .ref aOp, .ref aFa], xAI G aEx 10 ex, xAI G aLe 40 le, xAJ G aB 1 ot]) (fun _ => rfl) rfl rfl rfl rfl rfl rfl (fun E ce q9 H locs hpx hw h9 hv9 hc9 => ?_) (fun r2 u1 H locs hp3 hw => ?_)
  · rcases ycase hpx.2 with hE | hE | hE
    · subst hE
      refine ycatch (own := RL) (nms := []) hc [] ⟨0, 10, 13, 19⟩ [] ht rfl rfl (by intro z hz; cases hz) (by intro z hz; cases hz) rfl (by decide) lkL_milesOf_c19 (by decide +kernel) h9 hv9 hc9 ?_
      refine lv_astore (lv' := [(4, .ref q9), (0, .ref aX), (1, .int q), (2, .int x), (3, .ref aB)]) hx hb dL_milesOf_13 hl (by decide) rfl (fun ls hl => ?_)
      refine lv_iconst (v := 1) hx hb dL_milesOf_15 (by decide) ?_
      exact xret_i ot hc hw (xe2 (yh2 (hpx.1.trans xcode_IO) (by decide) rfl)) ⟨Nat.le_of_ble_eq_true rfl, Nat.le_of_ble_eq_true rfl⟩ dL_milesOf_16
    · subst hE
      exact absurd hpx.1 (by rcases cdX3_milesOf with h9 | h9 | h9 <;> rw [h9] <;> decide +kernel)
    · subst hE
      exact absurd hpx.1 (by rcases cdX3_milesOf with h9 | h9 | h9 <;> rw [h9] <;> decide +kernel)
  refine lv_i2l hx hb dL_milesOf_8 rfl ?_
  refine xlast hc hw 4 [xO aX 3 [.ref aL, .ref aC, .ref aT], xO aL 1 [.int pl, .ref aEx, .ref aSh, .ref aLd, .ref aTw, .ref aLe, .ref aOp, .ref aFa], xAI G aEx 10 ex, xAI G aLe 40 le, xAJ G aB 1 (vp_updL ot (0 : Int32).toNatClampNeg r2.toInt64)] rfl (xin ⟨by decide, by decide⟩) rfl dL_milesOf_9 (fun H locs hw => ?_)
  refine lv_goto (tgt := 17) hx hb dL_milesOf_10 (by decide) ?_
  refine lv_iconst (v := 0) hx hb dL_milesOf_17 (by decide) ?_
  exact xret_i (vp_updL ot (0 : Int32).toNatClampNeg r2.toInt64) hc hw (xe2 (yt2 hp3 rfl)) ⟨Nat.le_of_ble_eq_true rfl, Nat.le_of_ble_eq_true rfl⟩ dL_milesOf_18
def FL_isOpen (pl : Int32) (ex : Nat → Int32) (op : Nat → Int32) (q : Int32) (x : Int32) (ot : Nat → Int64) : Int32 × (Nat → Int64) :=
  yc2 (FX3_isOpen pl ex op q x) (fun k => ((1, ot))) (fun r2 => if r2 = 0 then ((0, vp_updL ot (0 : Int32).toNatClampNeg 0)) else ((0, vp_updL ot (0 : Int32).toNatClampNeg 1)))
set_option maxHeartbeats 40000000 in
set_option maxRecDepth 100000 in
theorem metL_isOpen (l : Launch) (G : xG) (hst : l.stackTraces = false) (sz : Nat) (aX : Nat) (aL : Nat) (aC : Nat) (aT : Nat) (aEx : Nat) (aSh : Nat) (aLd : Nat) (aTw : Nat) (aLe : Nat) (aOp : Nat) (aFa : Nat) (aB : Nat) (pl : Int32) (ex : Nat → Int32) (op : Nat → Int32) (q : Int32) (x : Int32) (ot : Nat → Int64) (hpl : 0 ≤ pl.toInt ∧ pl.toInt ≤ 10) : xM l yL_isOpen wsL_isOpen ⟨8, 1, 6, 127⟩ G [.ref aX, .int q, .int x, .ref aB] [xO aX 3 [.ref aL, .ref aC, .ref aT], xO aL 1 [.int pl, .ref aEx, .ref aSh, .ref aLd, .ref aTw, .ref aLe, .ref aOp, .ref aFa], xAI G aEx 10 ex, xAZ G aOp 40 op, xAJ G aB 1 ot] sz (xQi G [xO aX 3 [.ref aL, .ref aC, .ref aT], xO aL 1 [.int pl, .ref aEx, .ref aSh, .ref aLd, .ref aTw, .ref aLe, .ref aOp, .ref aFa], xAI G aEx 10 ex, xAZ G aOp 40 op, xAJ G aB 1 ot] sz (fun (r : Int32) (u : (Nat → Int64)) => r = (FL_isOpen pl ex op q x ot).1 ∧ u = (FL_isOpen pl ex op q x ot).2) (fun u : (Nat → Int64) => [xO aX 3 [.ref aL, .ref aC, .ref aT], xO aL 1 [.int pl, .ref aEx, .ref aSh, .ref aLd, .ref aTw, .ref aLe, .ref aOp, .ref aFa], xAI G aEx 10 ex, xAZ G aOp 40 op, xAJ G aB 1 u])) := by
  refine xofW (own := RL) (cc := cL_isOpen) (maxL := 5) (ret := (some .int)) (hh := [(0, 17, 20, 19)]) rfl (by decide) rfl (Nat.le_of_ble_eq_true rfl) ?_
  intro pg en s mi below meth cd hc ht hw ls hl
  obtain ⟨hx, hb, -, hown, hts, -⟩ := id hc
  have hl : lv_has ls 5 [(0, .ref aX), (1, .int q), (2, .int x), (3, .ref aB)] := hl
  refine lv_aload_n hx hb dL_isOpen_0 rfl (lv_at hl 3 rfl) ?_
  refine lv_iconst (v := 0) hx hb dL_isOpen_1 (by decide) ?_
  refine lv_aload_n hx hb dL_isOpen_2 rfl (lv_at hl 0 rfl) ?_
  refine lv_iload_n hx hb dL_isOpen_3 rfl (lv_at hl 1 rfl) ?_
  refine lv_iload_n hx hb dL_isOpen_4 rfl (lv_at hl 2 rfl) ?_
  refine xcallX_i (isC := [0, 1, 2, 3]) hc hw (xrunVX (n := 2) (As := [.int q, .int x]) (rest := [.int 0, .ref aB]) hc hw [0, 1, 2, 3] (metX3_isOpen l G hst _ aX aL aC aT aEx aSh aLd aTw aLe aOp aFa pl ex op q x hpl) gL_isOpen_X3_isOpen rfl (by decide +kernel) ⟨Nat.le_of_ble_eq_true rfl, Nat.le_of_ble_eq_true rfl⟩ 0 rfl rfl rfl rfl rfl rfl hl.1 (Nat.le_of_ble_eq_true rfl) dL_isOpen_5 ⟨Nat.le_of_ble_eq_true rfl, Nat.le_of_ble_eq_true rfl⟩) rfl [4] [1, 2, 3, 4, 0] [1, 2, 3, 4, 0] (fun u1 => [xO aX 3 [.ref aL, .ref aC, .ref aT], xO aL 1 [.int pl, .ref aEx, .ref aSh, .ref aLd, .ref aTw, .ref aLe, .ref aOp, .ref aFa], xAI G aEx 10 ex, xAZ G aOp 40 op, xAJ G aB 1 ot]) (fun _ => rfl) rfl rfl rfl rfl rfl rfl (fun E ce q9 H locs hpx hw h9 hv9 hc9 => ?_) (fun r2 u1 H locs hp3 hw => ?_)
  · rcases ycase hpx.2 with hE | hE | hE
    · subst hE
      refine ycatch (own := RL) (nms := []) hc [] ⟨0, 17, 20, 19⟩ [] ht rfl rfl (by intro z hz; cases hz) (by intro z hz; cases hz) rfl (by decide) lkL_isOpen_c19 (by decide +kernel) h9 hv9 hc9 ?_
      refine lv_astore (lv' := [(4, .ref q9), (0, .ref aX), (1, .int q), (2, .int x), (3, .ref aB)]) hx hb dL_isOpen_20 hl (by decide) rfl (fun ls hl => ?_)
      refine lv_iconst (v := 1) hx hb dL_isOpen_22 (by decide) ?_
      exact xret_i ot hc hw (xe2 (yh2 (hpx.1.trans xcode_IO) (by decide) rfl)) ⟨Nat.le_of_ble_eq_true rfl, Nat.le_of_ble_eq_true rfl⟩ dL_isOpen_23
    · subst hE
      exact absurd hpx.1 (by rcases cdX3_isOpen with h9 | h9 | h9 <;> rw [h9] <;> decide +kernel)
    · subst hE
      exact absurd hpx.1 (by rcases cdX3_isOpen with h9 | h9 | h9 <;> rw [h9] <;> decide +kernel)
  refine lv_if_eq (tgt := 15) hx hb dL_isOpen_8 (by decide) (fun c_5 => ?_) (fun c_5 => ?_)
  · refine lv_lconst (v := 0) hx hb dL_isOpen_15 rfl ?_
    refine xlast hc hw 4 [xO aX 3 [.ref aL, .ref aC, .ref aT], xO aL 1 [.int pl, .ref aEx, .ref aSh, .ref aLd, .ref aTw, .ref aLe, .ref aOp, .ref aFa], xAI G aEx 10 ex, xAZ G aOp 40 op, xAJ G aB 1 (vp_updL ot (0 : Int32).toNatClampNeg 0)] rfl (xin ⟨by decide, by decide⟩) rfl dL_isOpen_16 (fun H locs hw => ?_)
    refine lv_goto (tgt := 24) hx hb dL_isOpen_17 (by decide) ?_
    refine lv_iconst (v := 0) hx hb dL_isOpen_24 (by decide) ?_
    exact xret_i (vp_updL ot (0 : Int32).toNatClampNeg 0) hc hw (xe2 (yt2 hp3 (if_pos c_5))) ⟨Nat.le_of_ble_eq_true rfl, Nat.le_of_ble_eq_true rfl⟩ dL_isOpen_25
  · refine lv_lconst (v := 1) hx hb dL_isOpen_11 rfl ?_
    refine lv_goto (tgt := 16) hx hb dL_isOpen_12 (by decide) ?_
    refine xlast hc hw 4 [xO aX 3 [.ref aL, .ref aC, .ref aT], xO aL 1 [.int pl, .ref aEx, .ref aSh, .ref aLd, .ref aTw, .ref aLe, .ref aOp, .ref aFa], xAI G aEx 10 ex, xAZ G aOp 40 op, xAJ G aB 1 (vp_updL ot (0 : Int32).toNatClampNeg 1)] rfl (xin ⟨by decide, by decide⟩) rfl dL_isOpen_16 (fun H locs hw => ?_)
    refine lv_goto (tgt := 24) hx hb dL_isOpen_17 (by decide) ?_
    refine lv_iconst (v := 0) hx hb dL_isOpen_24 (by decide) ?_
    exact xret_i (vp_updL ot (0 : Int32).toNatClampNeg 1) hc hw (xe2 (yt2 hp3 (if_neg c_5))) ⟨Nat.le_of_ble_eq_true rfl, Nat.le_of_ble_eq_true rfl⟩ dL_isOpen_25
def FL_hasShepherd (pl : Int32) (sh : Nat → Int32) (q : Int32) (ot : Nat → Int64) : Int32 × (Nat → Int64) :=
  yc2 (FX3_hasShepherd pl sh q) (fun k => ((1, ot))) (fun r2 => if r2 = 0 then ((0, vp_updL ot (0 : Int32).toNatClampNeg 0)) else ((0, vp_updL ot (0 : Int32).toNatClampNeg 1)))
set_option maxHeartbeats 40000000 in
set_option maxRecDepth 100000 in
theorem metL_hasShepherd (l : Launch) (G : xG) (hst : l.stackTraces = false) (sz : Nat) (aX : Nat) (aL : Nat) (aC : Nat) (aT : Nat) (aEx : Nat) (aSh : Nat) (aLd : Nat) (aTw : Nat) (aLe : Nat) (aOp : Nat) (aFa : Nat) (aB : Nat) (pl : Int32) (sh : Nat → Int32) (q : Int32) (ot : Nat → Int64) (hpl : 0 ≤ pl.toInt ∧ pl.toInt ≤ 10) (hsh : ∀ k, k < 10 → sh k = 0 ∨ sh k = 1) : xM l yL_hasShepherd wsL_hasShepherd ⟨8, 1, 6, 124⟩ G [.ref aX, .int q, .ref aB] [xO aX 3 [.ref aL, .ref aC, .ref aT], xO aL 1 [.int pl, .ref aEx, .ref aSh, .ref aLd, .ref aTw, .ref aLe, .ref aOp, .ref aFa], xAZ G aSh 10 sh, xAJ G aB 1 ot] sz (xQi G [xO aX 3 [.ref aL, .ref aC, .ref aT], xO aL 1 [.int pl, .ref aEx, .ref aSh, .ref aLd, .ref aTw, .ref aLe, .ref aOp, .ref aFa], xAZ G aSh 10 sh, xAJ G aB 1 ot] sz (fun (r : Int32) (u : (Nat → Int64)) => r = (FL_hasShepherd pl sh q ot).1 ∧ u = (FL_hasShepherd pl sh q ot).2) (fun u : (Nat → Int64) => [xO aX 3 [.ref aL, .ref aC, .ref aT], xO aL 1 [.int pl, .ref aEx, .ref aSh, .ref aLd, .ref aTw, .ref aLe, .ref aOp, .ref aFa], xAZ G aSh 10 sh, xAJ G aB 1 u])) := by
  refine xofW (own := RL) (cc := cL_hasShepherd) (maxL := 4) (ret := (some .int)) (hh := [(0, 16, 19, 19)]) rfl (by decide) rfl (Nat.le_of_ble_eq_true rfl) ?_
  intro pg en s mi below meth cd hc ht hw ls hl
  obtain ⟨hx, hb, -, hown, hts, -⟩ := id hc
  have hl : lv_has ls 4 [(0, .ref aX), (1, .int q), (2, .ref aB)] := hl
  refine lv_aload_n hx hb dL_hasShepherd_0 rfl (lv_at hl 2 rfl) ?_
  refine lv_iconst (v := 0) hx hb dL_hasShepherd_1 (by decide) ?_
  refine lv_aload_n hx hb dL_hasShepherd_2 rfl (lv_at hl 0 rfl) ?_
  refine lv_iload_n hx hb dL_hasShepherd_3 rfl (lv_at hl 1 rfl) ?_
  refine xcallX_i (isC := [0, 1, 2]) hc hw (xrunVX (n := 1) (As := [.int q]) (rest := [.int 0, .ref aB]) hc hw [0, 1, 2] (metX3_hasShepherd l G hst _ aX aL aC aT aEx aSh aLd aTw aLe aOp aFa pl sh q hpl hsh) gL_hasShepherd_X3_hasShepherd rfl (by decide +kernel) ⟨Nat.le_of_ble_eq_true rfl, Nat.le_of_ble_eq_true rfl⟩ 0 rfl rfl rfl rfl rfl rfl hl.1 (Nat.le_of_ble_eq_true rfl) dL_hasShepherd_4 ⟨Nat.le_of_ble_eq_true rfl, Nat.le_of_ble_eq_true rfl⟩) rfl [3] [1, 2, 3, 0] [1, 2, 3, 0] (fun u1 => [xO aX 3 [.ref aL, .ref aC, .ref aT], xO aL 1 [.int pl, .ref aEx, .ref aSh, .ref aLd, .ref aTw, .ref aLe, .ref aOp, .ref aFa], xAZ G aSh 10 sh, xAJ G aB 1 ot]) (fun _ => rfl) rfl rfl rfl rfl rfl rfl (fun E ce q9 H locs hpx hw h9 hv9 hc9 => ?_) (fun r2 u1 H locs hp3 hw => ?_)
  · rcases ycase hpx.2 with hE | hE | hE
    · subst hE
      refine ycatch (own := RL) (nms := []) hc [] ⟨0, 16, 19, 19⟩ [] ht rfl rfl (by intro z hz; cases hz) (by intro z hz; cases hz) rfl (by decide) lkL_hasShepherd_c19 (by decide +kernel) h9 hv9 hc9 ?_
      refine lv_astore_n (lv' := [(3, .ref q9), (0, .ref aX), (1, .int q), (2, .ref aB)]) hx hb dL_hasShepherd_19 rfl hl (by decide) rfl (fun ls hl => ?_)
      refine lv_iconst (v := 1) hx hb dL_hasShepherd_20 (by decide) ?_
      exact xret_i ot hc hw (xe2 (yh2 (hpx.1.trans xcode_IO) (by decide) rfl)) ⟨Nat.le_of_ble_eq_true rfl, Nat.le_of_ble_eq_true rfl⟩ dL_hasShepherd_21
    · subst hE
      exact absurd hpx.1 (by rcases cdX3_hasShepherd with h9 | h9 | h9 <;> rw [h9] <;> decide +kernel)
    · subst hE
      exact absurd hpx.1 (by rcases cdX3_hasShepherd with h9 | h9 | h9 <;> rw [h9] <;> decide +kernel)
  refine lv_if_eq (tgt := 14) hx hb dL_hasShepherd_7 (by decide) (fun c_5 => ?_) (fun c_5 => ?_)
  · refine lv_lconst (v := 0) hx hb dL_hasShepherd_14 rfl ?_
    refine xlast hc hw 3 [xO aX 3 [.ref aL, .ref aC, .ref aT], xO aL 1 [.int pl, .ref aEx, .ref aSh, .ref aLd, .ref aTw, .ref aLe, .ref aOp, .ref aFa], xAZ G aSh 10 sh, xAJ G aB 1 (vp_updL ot (0 : Int32).toNatClampNeg 0)] rfl (xin ⟨by decide, by decide⟩) rfl dL_hasShepherd_15 (fun H locs hw => ?_)
    refine lv_goto (tgt := 22) hx hb dL_hasShepherd_16 (by decide) ?_
    refine lv_iconst (v := 0) hx hb dL_hasShepherd_22 (by decide) ?_
    exact xret_i (vp_updL ot (0 : Int32).toNatClampNeg 0) hc hw (xe2 (yt2 hp3 (if_pos c_5))) ⟨Nat.le_of_ble_eq_true rfl, Nat.le_of_ble_eq_true rfl⟩ dL_hasShepherd_23
  · refine lv_lconst (v := 1) hx hb dL_hasShepherd_10 rfl ?_
    refine lv_goto (tgt := 15) hx hb dL_hasShepherd_11 (by decide) ?_
    refine xlast hc hw 3 [xO aX 3 [.ref aL, .ref aC, .ref aT], xO aL 1 [.int pl, .ref aEx, .ref aSh, .ref aLd, .ref aTw, .ref aLe, .ref aOp, .ref aFa], xAZ G aSh 10 sh, xAJ G aB 1 (vp_updL ot (0 : Int32).toNatClampNeg 1)] rfl (xin ⟨by decide, by decide⟩) rfl dL_hasShepherd_15 (fun H locs hw => ?_)
    refine lv_goto (tgt := 22) hx hb dL_hasShepherd_16 (by decide) ?_
    refine lv_iconst (v := 0) hx hb dL_hasShepherd_22 (by decide) ?_
    exact xret_i (vp_updL ot (0 : Int32).toNatClampNeg 1) hc hw (xe2 (yt2 hp3 (if_neg c_5))) ⟨Nat.le_of_ble_eq_true rfl, Nat.le_of_ble_eq_true rfl⟩ dL_hasShepherd_23
def FL_distance (pl : Int32) (ld : Nat → Int32) (le : Nat → Int32) (op : Nat → Int32) (fa : Nat → Int32) (q : Int32) (g : Int32) (ot : Nat → Int64) : Int32 × (Nat → Int32) × (Nat → Int64) :=
  yc3 (FX3_distance pl ld le op fa q g) (fun k => ((1, fa, ot))) (fun r2 u1 => (0, u1, vp_updL ot (0 : Int32).toNatClampNeg r2.toInt64))
set_option maxHeartbeats 40000000 in
set_option maxRecDepth 100000 in
theorem metL_distance (l : Launch) (G : xG) (hst : l.stackTraces = false) (sz : Nat) (aX : Nat) (aL : Nat) (aC : Nat) (aT : Nat) (aEx : Nat) (aSh : Nat) (aLd : Nat) (aTw : Nat) (aLe : Nat) (aOp : Nat) (aFa : Nat) (aB : Nat) (pl : Int32) (ld : Nat → Int32) (le : Nat → Int32) (op : Nat → Int32) (fa : Nat → Int32) (q : Int32) (g : Int32) (ot : Nat → Int64) (hpl : 0 ≤ pl.toInt ∧ pl.toInt ≤ 10) (hld : ∀ k, k < 40 → 0 ≤ (ld k).toInt ∧ (ld k).toInt < 10) : xM l yL_distance wsL_distance ⟨8, 2, 12, 125⟩ G [.ref aX, .int q, .int g, .ref aB] [xO aX 3 [.ref aL, .ref aC, .ref aT], xO aL 1 [.int pl, .ref aEx, .ref aSh, .ref aLd, .ref aTw, .ref aLe, .ref aOp, .ref aFa], xAI G aLd 40 ld, xAI G aLe 40 le, xAZ G aOp 40 op, xAI G aFa 10 fa, xAJ G aB 1 ot] sz (xQi G [xO aX 3 [.ref aL, .ref aC, .ref aT], xO aL 1 [.int pl, .ref aEx, .ref aSh, .ref aLd, .ref aTw, .ref aLe, .ref aOp, .ref aFa], xAI G aLd 40 ld, xAI G aLe 40 le, xAZ G aOp 40 op, xAI G aFa 10 fa, xAJ G aB 1 ot] sz (fun (r : Int32) (u : (Nat → Int32) × (Nat → Int64)) => r = (FL_distance pl ld le op fa q g ot).1 ∧ u = (FL_distance pl ld le op fa q g ot).2) (fun u : (Nat → Int32) × (Nat → Int64) => [xO aX 3 [.ref aL, .ref aC, .ref aT], xO aL 1 [.int pl, .ref aEx, .ref aSh, .ref aLd, .ref aTw, .ref aLe, .ref aOp, .ref aFa], xAI G aLd 40 ld, xAI G aLe 40 le, xAZ G aOp 40 op, xAI G aFa 10 u.1, xAJ G aB 1 u.2])) := by
  refine xofW (own := RL) (cc := cL_distance) (maxL := 5) (ret := (some .int)) (hh := [(0, 10, 13, 19)]) rfl (by decide) rfl (Nat.le_of_ble_eq_true rfl) ?_
  intro pg en s mi below meth cd hc ht hw ls hl
  obtain ⟨hx, hb, -, hown, hts, -⟩ := id hc
  have hl : lv_has ls 5 [(0, .ref aX), (1, .int q), (2, .int g), (3, .ref aB)] := hl
  refine lv_aload_n hx hb dL_distance_0 rfl (lv_at hl 3 rfl) ?_
  refine lv_iconst (v := 0) hx hb dL_distance_1 (by decide) ?_
  refine lv_aload_n hx hb dL_distance_2 rfl (lv_at hl 0 rfl) ?_
  refine lv_iload_n hx hb dL_distance_3 rfl (lv_at hl 1 rfl) ?_
  refine lv_iload_n hx hb dL_distance_4 rfl (lv_at hl 2 rfl) ?_
  refine xcallX_i (isC := [0, 1, 2, 3, 4, 5]) hc hw (xrunVX (n := 2) (As := [.int q, .int g]) (rest := [.int 0, .ref aB]) hc hw [0, 1, 2, 3, 4, 5] (metX3_distance l G hst _ aX aL aC aT aEx aSh aLd aTw aLe aOp aFa pl ld le op fa q g hpl hld) gL_distance_X3_distance rfl (by decide +kernel) ⟨Nat.le_of_ble_eq_true rfl, Nat.le_of_ble_eq_true rfl⟩ 0 rfl rfl rfl rfl rfl rfl hl.1 (Nat.le_of_ble_eq_true rfl) dL_distance_5 ⟨Nat.le_of_ble_eq_true rfl, Nat.le_of_ble_eq_true rfl⟩) rfl [6] [1, 2, 3, 4, 5, 6, 0] [1, 2, 3, 4, 5, 6, 0] (fun u1 => [xO aX 3 [.ref aL, .ref aC, .ref aT], xO aL 1 [.int pl, .ref aEx, .ref aSh, .ref aLd, .ref aTw, .ref aLe, .ref aOp, .ref aFa], xAI G aLd 40 ld, xAI G aLe 40 le, xAZ G aOp 40 op, xAI G aFa 10 u1, xAJ G aB 1 ot]) (fun _ => rfl) rfl rfl rfl rfl rfl rfl (fun E ce q9 H locs hpx hw h9 hv9 hc9 => ?_) (fun r2 u1 H locs hp3 hw => ?_)
  · rcases ycase hpx.2 with hE | hE | hE
    · subst hE
      refine ycatch (own := RL) (nms := []) hc [] ⟨0, 10, 13, 19⟩ [] ht rfl rfl (by intro z hz; cases hz) (by intro z hz; cases hz) rfl (by decide) lkL_distance_c19 (by decide +kernel) h9 hv9 hc9 ?_
      refine lv_astore (lv' := [(4, .ref q9), (0, .ref aX), (1, .int q), (2, .int g), (3, .ref aB)]) hx hb dL_distance_13 hl (by decide) rfl (fun ls hl => ?_)
      refine lv_iconst (v := 1) hx hb dL_distance_15 (by decide) ?_
      obtain ⟨u0, hu0⟩ : ∃ z : (Nat → Int32) × (Nat → Int64), z = (fa, ot) := ⟨_, rfl⟩
      refine xret_i u0 hc ?_ ?_ ⟨Nat.le_of_ble_eq_true rfl, Nat.le_of_ble_eq_true rfl⟩ dL_distance_16
      · subst hu0; dsimp only; exact hw
      · subst hu0; exact xe2 (yh3 (hpx.1.trans xcode_IO) (by decide) rfl)
    · subst hE
      exact absurd hpx.1 (by rcases cdX3_distance with h9 | h9 | h9 <;> rw [h9] <;> decide +kernel)
    · subst hE
      exact absurd hpx.1 (by rcases cdX3_distance with h9 | h9 | h9 <;> rw [h9] <;> decide +kernel)
  refine lv_i2l hx hb dL_distance_8 rfl ?_
  refine xlast hc hw 6 [xO aX 3 [.ref aL, .ref aC, .ref aT], xO aL 1 [.int pl, .ref aEx, .ref aSh, .ref aLd, .ref aTw, .ref aLe, .ref aOp, .ref aFa], xAI G aLd 40 ld, xAI G aLe 40 le, xAZ G aOp 40 op, xAI G aFa 10 u1, xAJ G aB 1 (vp_updL ot (0 : Int32).toNatClampNeg r2.toInt64)] rfl (xin ⟨by decide, by decide⟩) rfl dL_distance_9 (fun H locs hw => ?_)
  refine lv_goto (tgt := 17) hx hb dL_distance_10 (by decide) ?_
  refine lv_iconst (v := 0) hx hb dL_distance_17 (by decide) ?_
  obtain ⟨u0, hu0⟩ : ∃ z : (Nat → Int32) × (Nat → Int64), z = (u1, vp_updL ot (0 : Int32).toNatClampNeg r2.toInt64) := ⟨_, rfl⟩
  refine xret_i u0 hc ?_ ?_ ⟨Nat.le_of_ble_eq_true rfl, Nat.le_of_ble_eq_true rfl⟩ dL_distance_18
  · subst hu0; dsimp only; exact hw
  · subst hu0; exact xe2 (yt3 hp3 rfl)
def FL_isTried (go : Int32) (tr : Nat → Int32) (pl : Int32) (ex : Nat → Int32) (q : Int32) (x : Int32) (ot : Nat → Int64) : Int32 × (Nat → Int64) :=
  yc2 (FX3_isTried go tr pl ex q x) (fun k => ((1, ot))) (fun r2 => if r2 = 0 then ((0, vp_updL ot (0 : Int32).toNatClampNeg 0)) else ((0, vp_updL ot (0 : Int32).toNatClampNeg 1)))
set_option maxHeartbeats 40000000 in
set_option maxRecDepth 100000 in
theorem metL_isTried (l : Launch) (G : xG) (hst : l.stackTraces = false) (sz : Nat) (aX : Nat) (aL : Nat) (aC : Nat) (aT : Nat) (aM : Nat) (aWy : Nat) (aTr : Nat) (aAk : Nat) (aEx : Nat) (aSh : Nat) (aLd : Nat) (aTw : Nat) (aLe : Nat) (aOp : Nat) (aFa : Nat) (aB : Nat) (po : Int32) (co : Int32) (go : Int32) (wl : Int32) (gu : Int32) (wk : Int32) (db : Int32) (dn : Int32) (iv : Int32) (qs : Int32) (tr : Nat → Int32) (pl : Int32) (ex : Nat → Int32) (q : Int32) (x : Int32) (ot : Nat → Int64) (hpl : 0 ≤ pl.toInt ∧ pl.toInt ≤ 10) : xM l yL_isTried wsL_isTried ⟨8, 1, 6, 128⟩ G [.ref aX, .int q, .int x, .ref aB] [xO aX 3 [.ref aL, .ref aC, .ref aT], xO aC 0 [.ref aL, .ref aM, .int po, .int co, .int go, .ref aWy, .int wl, .ref aTr, .ref aAk, .int gu, .int wk, .int db, .int dn, .int iv, .int qs], xAZ G aTr 40 tr, xO aL 1 [.int pl, .ref aEx, .ref aSh, .ref aLd, .ref aTw, .ref aLe, .ref aOp, .ref aFa], xAI G aEx 10 ex, xAJ G aB 1 ot] sz (xQi G [xO aX 3 [.ref aL, .ref aC, .ref aT], xO aC 0 [.ref aL, .ref aM, .int po, .int co, .int go, .ref aWy, .int wl, .ref aTr, .ref aAk, .int gu, .int wk, .int db, .int dn, .int iv, .int qs], xAZ G aTr 40 tr, xO aL 1 [.int pl, .ref aEx, .ref aSh, .ref aLd, .ref aTw, .ref aLe, .ref aOp, .ref aFa], xAI G aEx 10 ex, xAJ G aB 1 ot] sz (fun (r : Int32) (u : (Nat → Int64)) => r = (FL_isTried go tr pl ex q x ot).1 ∧ u = (FL_isTried go tr pl ex q x ot).2) (fun u : (Nat → Int64) => [xO aX 3 [.ref aL, .ref aC, .ref aT], xO aC 0 [.ref aL, .ref aM, .int po, .int co, .int go, .ref aWy, .int wl, .ref aTr, .ref aAk, .int gu, .int wk, .int db, .int dn, .int iv, .int qs], xAZ G aTr 40 tr, xO aL 1 [.int pl, .ref aEx, .ref aSh, .ref aLd, .ref aTw, .ref aLe, .ref aOp, .ref aFa], xAI G aEx 10 ex, xAJ G aB 1 u])) := by
  refine xofW (own := RL) (cc := cL_isTried) (maxL := 5) (ret := (some .int)) (hh := [(0, 17, 20, 19)]) rfl (by decide) rfl (Nat.le_of_ble_eq_true rfl) ?_
  intro pg en s mi below meth cd hc ht hw ls hl
  obtain ⟨hx, hb, -, hown, hts, -⟩ := id hc
  have hl : lv_has ls 5 [(0, .ref aX), (1, .int q), (2, .int x), (3, .ref aB)] := hl
  refine lv_aload_n hx hb dL_isTried_0 rfl (lv_at hl 3 rfl) ?_
  refine lv_iconst (v := 0) hx hb dL_isTried_1 (by decide) ?_
  refine lv_aload_n hx hb dL_isTried_2 rfl (lv_at hl 0 rfl) ?_
  refine lv_iload_n hx hb dL_isTried_3 rfl (lv_at hl 1 rfl) ?_
  refine lv_iload_n hx hb dL_isTried_4 rfl (lv_at hl 2 rfl) ?_
  refine xcallX_i (isC := [0, 1, 2, 3, 4]) hc hw (xrunVX (n := 2) (As := [.int q, .int x]) (rest := [.int 0, .ref aB]) hc hw [0, 1, 2, 3, 4] (metX3_isTried l G hst _ aX aL aC aT aM aWy aTr aAk aEx aSh aLd aTw aLe aOp aFa po co go wl gu wk db dn iv qs tr pl ex q x hpl) gL_isTried_X3_isTried rfl (by decide +kernel) ⟨Nat.le_of_ble_eq_true rfl, Nat.le_of_ble_eq_true rfl⟩ 0 rfl rfl rfl rfl rfl rfl hl.1 (Nat.le_of_ble_eq_true rfl) dL_isTried_5 ⟨Nat.le_of_ble_eq_true rfl, Nat.le_of_ble_eq_true rfl⟩) rfl [5] [1, 2, 3, 4, 5, 0] [1, 2, 3, 4, 5, 0] (fun u1 => [xO aX 3 [.ref aL, .ref aC, .ref aT], xO aC 0 [.ref aL, .ref aM, .int po, .int co, .int go, .ref aWy, .int wl, .ref aTr, .ref aAk, .int gu, .int wk, .int db, .int dn, .int iv, .int qs], xAZ G aTr 40 tr, xO aL 1 [.int pl, .ref aEx, .ref aSh, .ref aLd, .ref aTw, .ref aLe, .ref aOp, .ref aFa], xAI G aEx 10 ex, xAJ G aB 1 ot]) (fun _ => rfl) rfl rfl rfl rfl rfl rfl (fun E ce q9 H locs hpx hw h9 hv9 hc9 => ?_) (fun r2 u1 H locs hp3 hw => ?_)
  · rcases ycase hpx.2 with hE | hE | hE
    · subst hE
      refine ycatch (own := RL) (nms := []) hc [] ⟨0, 17, 20, 19⟩ [] ht rfl rfl (by intro z hz; cases hz) (by intro z hz; cases hz) rfl (by decide) lkL_isTried_c19 (by decide +kernel) h9 hv9 hc9 ?_
      refine lv_astore (lv' := [(4, .ref q9), (0, .ref aX), (1, .int q), (2, .int x), (3, .ref aB)]) hx hb dL_isTried_20 hl (by decide) rfl (fun ls hl => ?_)
      refine lv_iconst (v := 1) hx hb dL_isTried_22 (by decide) ?_
      exact xret_i ot hc hw (xe2 (yh2 (hpx.1.trans xcode_IO) (by decide) rfl)) ⟨Nat.le_of_ble_eq_true rfl, Nat.le_of_ble_eq_true rfl⟩ dL_isTried_23
    · subst hE
      exact absurd hpx.1 (by rcases cdX3_isTried with h9 | h9 | h9 <;> rw [h9] <;> decide +kernel)
    · subst hE
      exact absurd hpx.1 (by rcases cdX3_isTried with h9 | h9 | h9 <;> rw [h9] <;> decide +kernel)
  refine lv_if_eq (tgt := 15) hx hb dL_isTried_8 (by decide) (fun c_5 => ?_) (fun c_5 => ?_)
  · refine lv_lconst (v := 0) hx hb dL_isTried_15 rfl ?_
    refine xlast hc hw 5 [xO aX 3 [.ref aL, .ref aC, .ref aT], xO aC 0 [.ref aL, .ref aM, .int po, .int co, .int go, .ref aWy, .int wl, .ref aTr, .ref aAk, .int gu, .int wk, .int db, .int dn, .int iv, .int qs], xAZ G aTr 40 tr, xO aL 1 [.int pl, .ref aEx, .ref aSh, .ref aLd, .ref aTw, .ref aLe, .ref aOp, .ref aFa], xAI G aEx 10 ex, xAJ G aB 1 (vp_updL ot (0 : Int32).toNatClampNeg 0)] rfl (xin ⟨by decide, by decide⟩) rfl dL_isTried_16 (fun H locs hw => ?_)
    refine lv_goto (tgt := 24) hx hb dL_isTried_17 (by decide) ?_
    refine lv_iconst (v := 0) hx hb dL_isTried_24 (by decide) ?_
    exact xret_i (vp_updL ot (0 : Int32).toNatClampNeg 0) hc hw (xe2 (yt2 hp3 (if_pos c_5))) ⟨Nat.le_of_ble_eq_true rfl, Nat.le_of_ble_eq_true rfl⟩ dL_isTried_25
  · refine lv_lconst (v := 1) hx hb dL_isTried_11 rfl ?_
    refine lv_goto (tgt := 16) hx hb dL_isTried_12 (by decide) ?_
    refine xlast hc hw 5 [xO aX 3 [.ref aL, .ref aC, .ref aT], xO aC 0 [.ref aL, .ref aM, .int po, .int co, .int go, .ref aWy, .int wl, .ref aTr, .ref aAk, .int gu, .int wk, .int db, .int dn, .int iv, .int qs], xAZ G aTr 40 tr, xO aL 1 [.int pl, .ref aEx, .ref aSh, .ref aLd, .ref aTw, .ref aLe, .ref aOp, .ref aFa], xAI G aEx 10 ex, xAJ G aB 1 (vp_updL ot (0 : Int32).toNatClampNeg 1)] rfl (xin ⟨by decide, by decide⟩) rfl dL_isTried_16 (fun H locs hw => ?_)
    refine lv_goto (tgt := 24) hx hb dL_isTried_17 (by decide) ?_
    refine lv_iconst (v := 0) hx hb dL_isTried_24 (by decide) ?_
    exact xret_i (vp_updL ot (0 : Int32).toNatClampNeg 1) hc hw (xe2 (yt2 hp3 (if_neg c_5))) ⟨Nat.le_of_ble_eq_true rfl, Nat.le_of_ble_eq_true rfl⟩ dL_isTried_25
def FL_remembered (mx : Nat → Int32) (ms : Nat → Int32) (pl : Int32) (g : Int32) (q : Int32) (ot : Nat → Int64) : Int32 × (Nat → Int64) :=
  yc2 (FX3_remembered mx ms pl g q) (fun k => ((1, ot))) (fun r2 => (0, vp_updL ot (0 : Int32).toNatClampNeg r2.toInt64))
set_option maxHeartbeats 40000000 in
set_option maxRecDepth 100000 in
theorem metL_remembered (l : Launch) (G : xG) (hst : l.stackTraces = false) (sz : Nat) (aX : Nat) (aL : Nat) (aC : Nat) (aT : Nat) (aM : Nat) (aWy : Nat) (aTr : Nat) (aAk : Nat) (aMx : Nat) (aMs : Nat) (aEx : Nat) (aSh : Nat) (aLd : Nat) (aTw : Nat) (aLe : Nat) (aOp : Nat) (aFa : Nat) (aB : Nat) (po : Int32) (co : Int32) (go : Int32) (wl : Int32) (gu : Int32) (wk : Int32) (db : Int32) (dn : Int32) (iv : Int32) (qs : Int32) (mx : Nat → Int32) (ms : Nat → Int32) (pl : Int32) (g : Int32) (q : Int32) (ot : Nat → Int64) : xM l yL_remembered wsL_remembered ⟨8, 2, 12, 125⟩ G [.ref aX, .int g, .int q, .ref aB] [xO aX 3 [.ref aL, .ref aC, .ref aT], xO aC 0 [.ref aL, .ref aM, .int po, .int co, .int go, .ref aWy, .int wl, .ref aTr, .ref aAk, .int gu, .int wk, .int db, .int dn, .int iv, .int qs], xO aM 2 [.ref aMx, .ref aMs], xAI G aMx 100 mx, xAI G aMs 100 ms, xO aL 1 [.int pl, .ref aEx, .ref aSh, .ref aLd, .ref aTw, .ref aLe, .ref aOp, .ref aFa], xAJ G aB 1 ot] sz (xQi G [xO aX 3 [.ref aL, .ref aC, .ref aT], xO aC 0 [.ref aL, .ref aM, .int po, .int co, .int go, .ref aWy, .int wl, .ref aTr, .ref aAk, .int gu, .int wk, .int db, .int dn, .int iv, .int qs], xO aM 2 [.ref aMx, .ref aMs], xAI G aMx 100 mx, xAI G aMs 100 ms, xO aL 1 [.int pl, .ref aEx, .ref aSh, .ref aLd, .ref aTw, .ref aLe, .ref aOp, .ref aFa], xAJ G aB 1 ot] sz (fun (r : Int32) (u : (Nat → Int64)) => r = (FL_remembered mx ms pl g q ot).1 ∧ u = (FL_remembered mx ms pl g q ot).2) (fun u : (Nat → Int64) => [xO aX 3 [.ref aL, .ref aC, .ref aT], xO aC 0 [.ref aL, .ref aM, .int po, .int co, .int go, .ref aWy, .int wl, .ref aTr, .ref aAk, .int gu, .int wk, .int db, .int dn, .int iv, .int qs], xO aM 2 [.ref aMx, .ref aMs], xAI G aMx 100 mx, xAI G aMs 100 ms, xO aL 1 [.int pl, .ref aEx, .ref aSh, .ref aLd, .ref aTw, .ref aLe, .ref aOp, .ref aFa], xAJ G aB 1 u])) := by
  refine xofW (own := RL) (cc := cL_remembered) (maxL := 5) (ret := (some .int)) (hh := [(0, 10, 13, 19)]) rfl (by decide) rfl (Nat.le_of_ble_eq_true rfl) ?_
  intro pg en s mi below meth cd hc ht hw ls hl
  obtain ⟨hx, hb, -, hown, hts, -⟩ := id hc
  have hl : lv_has ls 5 [(0, .ref aX), (1, .int g), (2, .int q), (3, .ref aB)] := hl
  refine lv_aload_n hx hb dL_remembered_0 rfl (lv_at hl 3 rfl) ?_
  refine lv_iconst (v := 0) hx hb dL_remembered_1 (by decide) ?_
  refine lv_aload_n hx hb dL_remembered_2 rfl (lv_at hl 0 rfl) ?_
  refine lv_iload_n hx hb dL_remembered_3 rfl (lv_at hl 1 rfl) ?_
  refine lv_iload_n hx hb dL_remembered_4 rfl (lv_at hl 2 rfl) ?_
  refine xcallX_i (isC := [0, 1, 2, 3, 4, 5]) hc hw (xrunVX (n := 2) (As := [.int g, .int q]) (rest := [.int 0, .ref aB]) hc hw [0, 1, 2, 3, 4, 5] (metX3_remembered l G hst _ aX aL aC aT aM aWy aTr aAk aMx aMs aEx aSh aLd aTw aLe aOp aFa po co go wl gu wk db dn iv qs mx ms pl g q) gL_remembered_X3_remembered rfl (by decide +kernel) ⟨Nat.le_of_ble_eq_true rfl, Nat.le_of_ble_eq_true rfl⟩ 0 rfl rfl rfl rfl rfl rfl hl.1 (Nat.le_of_ble_eq_true rfl) dL_remembered_5 ⟨Nat.le_of_ble_eq_true rfl, Nat.le_of_ble_eq_true rfl⟩) rfl [6] [1, 2, 3, 4, 5, 6, 0] [1, 2, 3, 4, 5, 6, 0] (fun u1 => [xO aX 3 [.ref aL, .ref aC, .ref aT], xO aC 0 [.ref aL, .ref aM, .int po, .int co, .int go, .ref aWy, .int wl, .ref aTr, .ref aAk, .int gu, .int wk, .int db, .int dn, .int iv, .int qs], xO aM 2 [.ref aMx, .ref aMs], xAI G aMx 100 mx, xAI G aMs 100 ms, xO aL 1 [.int pl, .ref aEx, .ref aSh, .ref aLd, .ref aTw, .ref aLe, .ref aOp, .ref aFa], xAJ G aB 1 ot]) (fun _ => rfl) rfl rfl rfl rfl rfl rfl (fun E ce q9 H locs hpx hw h9 hv9 hc9 => ?_) (fun r2 u1 H locs hp3 hw => ?_)
  · rcases ycase hpx.2 with hE | hE | hE
    · subst hE
      refine ycatch (own := RL) (nms := []) hc [] ⟨0, 10, 13, 19⟩ [] ht rfl rfl (by intro z hz; cases hz) (by intro z hz; cases hz) rfl (by decide) lkL_remembered_c19 (by decide +kernel) h9 hv9 hc9 ?_
      refine lv_astore (lv' := [(4, .ref q9), (0, .ref aX), (1, .int g), (2, .int q), (3, .ref aB)]) hx hb dL_remembered_13 hl (by decide) rfl (fun ls hl => ?_)
      refine lv_iconst (v := 1) hx hb dL_remembered_15 (by decide) ?_
      exact xret_i ot hc hw (xe2 (yh2 (hpx.1.trans xcode_IO) (by decide) rfl)) ⟨Nat.le_of_ble_eq_true rfl, Nat.le_of_ble_eq_true rfl⟩ dL_remembered_16
    · subst hE
      exact absurd hpx.1 (by rcases cdX3_remembered with h9 | h9 | h9 <;> rw [h9] <;> decide +kernel)
    · subst hE
      exact absurd hpx.1 (by rcases cdX3_remembered with h9 | h9 | h9 <;> rw [h9] <;> decide +kernel)
  refine lv_i2l hx hb dL_remembered_8 rfl ?_
  refine xlast hc hw 6 [xO aX 3 [.ref aL, .ref aC, .ref aT], xO aC 0 [.ref aL, .ref aM, .int po, .int co, .int go, .ref aWy, .int wl, .ref aTr, .ref aAk, .int gu, .int wk, .int db, .int dn, .int iv, .int qs], xO aM 2 [.ref aMx, .ref aMs], xAI G aMx 100 mx, xAI G aMs 100 ms, xO aL 1 [.int pl, .ref aEx, .ref aSh, .ref aLd, .ref aTw, .ref aLe, .ref aOp, .ref aFa], xAJ G aB 1 (vp_updL ot (0 : Int32).toNatClampNeg r2.toInt64)] rfl (xin ⟨by decide, by decide⟩) rfl dL_remembered_9 (fun H locs hw => ?_)
  refine lv_goto (tgt := 17) hx hb dL_remembered_10 (by decide) ?_
  refine lv_iconst (v := 0) hx hb dL_remembered_17 (by decide) ?_
  exact xret_i (vp_updL ot (0 : Int32).toNatClampNeg r2.toInt64) hc hw (xe2 (yt2 hp3 rfl)) ⟨Nat.le_of_ble_eq_true rfl, Nat.le_of_ble_eq_true rfl⟩ dL_remembered_18
def FL_strength (ms : Nat → Int32) (pl : Int32) (g : Int32) (q : Int32) (ot : Nat → Int64) : Int32 × (Nat → Int64) :=
  yc2 (FX3_strength ms pl g q) (fun k => ((1, ot))) (fun r2 => (0, vp_updL ot (0 : Int32).toNatClampNeg r2.toInt64))
set_option maxHeartbeats 40000000 in
set_option maxRecDepth 100000 in
theorem metL_strength (l : Launch) (G : xG) (hst : l.stackTraces = false) (sz : Nat) (aX : Nat) (aL : Nat) (aC : Nat) (aT : Nat) (aM : Nat) (aWy : Nat) (aTr : Nat) (aAk : Nat) (aMx : Nat) (aMs : Nat) (aEx : Nat) (aSh : Nat) (aLd : Nat) (aTw : Nat) (aLe : Nat) (aOp : Nat) (aFa : Nat) (aB : Nat) (po : Int32) (co : Int32) (go : Int32) (wl : Int32) (gu : Int32) (wk : Int32) (db : Int32) (dn : Int32) (iv : Int32) (qs : Int32) (ms : Nat → Int32) (pl : Int32) (g : Int32) (q : Int32) (ot : Nat → Int64) : xM l yL_strength wsL_strength ⟨8, 2, 12, 125⟩ G [.ref aX, .int g, .int q, .ref aB] [xO aX 3 [.ref aL, .ref aC, .ref aT], xO aC 0 [.ref aL, .ref aM, .int po, .int co, .int go, .ref aWy, .int wl, .ref aTr, .ref aAk, .int gu, .int wk, .int db, .int dn, .int iv, .int qs], xO aM 2 [.ref aMx, .ref aMs], xAI G aMs 100 ms, xO aL 1 [.int pl, .ref aEx, .ref aSh, .ref aLd, .ref aTw, .ref aLe, .ref aOp, .ref aFa], xAJ G aB 1 ot] sz (xQi G [xO aX 3 [.ref aL, .ref aC, .ref aT], xO aC 0 [.ref aL, .ref aM, .int po, .int co, .int go, .ref aWy, .int wl, .ref aTr, .ref aAk, .int gu, .int wk, .int db, .int dn, .int iv, .int qs], xO aM 2 [.ref aMx, .ref aMs], xAI G aMs 100 ms, xO aL 1 [.int pl, .ref aEx, .ref aSh, .ref aLd, .ref aTw, .ref aLe, .ref aOp, .ref aFa], xAJ G aB 1 ot] sz (fun (r : Int32) (u : (Nat → Int64)) => r = (FL_strength ms pl g q ot).1 ∧ u = (FL_strength ms pl g q ot).2) (fun u : (Nat → Int64) => [xO aX 3 [.ref aL, .ref aC, .ref aT], xO aC 0 [.ref aL, .ref aM, .int po, .int co, .int go, .ref aWy, .int wl, .ref aTr, .ref aAk, .int gu, .int wk, .int db, .int dn, .int iv, .int qs], xO aM 2 [.ref aMx, .ref aMs], xAI G aMs 100 ms, xO aL 1 [.int pl, .ref aEx, .ref aSh, .ref aLd, .ref aTw, .ref aLe, .ref aOp, .ref aFa], xAJ G aB 1 u])) := by
  refine xofW (own := RL) (cc := cL_strength) (maxL := 5) (ret := (some .int)) (hh := [(0, 10, 13, 19)]) rfl (by decide) rfl (Nat.le_of_ble_eq_true rfl) ?_
  intro pg en s mi below meth cd hc ht hw ls hl
  obtain ⟨hx, hb, -, hown, hts, -⟩ := id hc
  have hl : lv_has ls 5 [(0, .ref aX), (1, .int g), (2, .int q), (3, .ref aB)] := hl
  refine lv_aload_n hx hb dL_strength_0 rfl (lv_at hl 3 rfl) ?_
  refine lv_iconst (v := 0) hx hb dL_strength_1 (by decide) ?_
  refine lv_aload_n hx hb dL_strength_2 rfl (lv_at hl 0 rfl) ?_
  refine lv_iload_n hx hb dL_strength_3 rfl (lv_at hl 1 rfl) ?_
  refine lv_iload_n hx hb dL_strength_4 rfl (lv_at hl 2 rfl) ?_
  refine xcallX_i (isC := [0, 1, 2, 3, 4]) hc hw (xrunVX (n := 2) (As := [.int g, .int q]) (rest := [.int 0, .ref aB]) hc hw [0, 1, 2, 3, 4] (metX3_strength l G hst _ aX aL aC aT aM aWy aTr aAk aMx aMs aEx aSh aLd aTw aLe aOp aFa po co go wl gu wk db dn iv qs ms pl g q) gL_strength_X3_strength rfl (by decide +kernel) ⟨Nat.le_of_ble_eq_true rfl, Nat.le_of_ble_eq_true rfl⟩ 0 rfl rfl rfl rfl rfl rfl hl.1 (Nat.le_of_ble_eq_true rfl) dL_strength_5 ⟨Nat.le_of_ble_eq_true rfl, Nat.le_of_ble_eq_true rfl⟩) rfl [5] [1, 2, 3, 4, 5, 0] [1, 2, 3, 4, 5, 0] (fun u1 => [xO aX 3 [.ref aL, .ref aC, .ref aT], xO aC 0 [.ref aL, .ref aM, .int po, .int co, .int go, .ref aWy, .int wl, .ref aTr, .ref aAk, .int gu, .int wk, .int db, .int dn, .int iv, .int qs], xO aM 2 [.ref aMx, .ref aMs], xAI G aMs 100 ms, xO aL 1 [.int pl, .ref aEx, .ref aSh, .ref aLd, .ref aTw, .ref aLe, .ref aOp, .ref aFa], xAJ G aB 1 ot]) (fun _ => rfl) rfl rfl rfl rfl rfl rfl (fun E ce q9 H locs hpx hw h9 hv9 hc9 => ?_) (fun r2 u1 H locs hp3 hw => ?_)
  · rcases ycase hpx.2 with hE | hE | hE
    · subst hE
      refine ycatch (own := RL) (nms := []) hc [] ⟨0, 10, 13, 19⟩ [] ht rfl rfl (by intro z hz; cases hz) (by intro z hz; cases hz) rfl (by decide) lkL_strength_c19 (by decide +kernel) h9 hv9 hc9 ?_
      refine lv_astore (lv' := [(4, .ref q9), (0, .ref aX), (1, .int g), (2, .int q), (3, .ref aB)]) hx hb dL_strength_13 hl (by decide) rfl (fun ls hl => ?_)
      refine lv_iconst (v := 1) hx hb dL_strength_15 (by decide) ?_
      exact xret_i ot hc hw (xe2 (yh2 (hpx.1.trans xcode_IO) (by decide) rfl)) ⟨Nat.le_of_ble_eq_true rfl, Nat.le_of_ble_eq_true rfl⟩ dL_strength_16
    · subst hE
      exact absurd hpx.1 (by rcases cdX3_strength with h9 | h9 | h9 <;> rw [h9] <;> decide +kernel)
    · subst hE
      exact absurd hpx.1 (by rcases cdX3_strength with h9 | h9 | h9 <;> rw [h9] <;> decide +kernel)
  refine lv_i2l hx hb dL_strength_8 rfl ?_
  refine xlast hc hw 5 [xO aX 3 [.ref aL, .ref aC, .ref aT], xO aC 0 [.ref aL, .ref aM, .int po, .int co, .int go, .ref aWy, .int wl, .ref aTr, .ref aAk, .int gu, .int wk, .int db, .int dn, .int iv, .int qs], xO aM 2 [.ref aMx, .ref aMs], xAI G aMs 100 ms, xO aL 1 [.int pl, .ref aEx, .ref aSh, .ref aLd, .ref aTw, .ref aLe, .ref aOp, .ref aFa], xAJ G aB 1 (vp_updL ot (0 : Int32).toNatClampNeg r2.toInt64)] rfl (xin ⟨by decide, by decide⟩) rfl dL_strength_9 (fun H locs hw => ?_)
  refine lv_goto (tgt := 17) hx hb dL_strength_10 (by decide) ?_
  refine lv_iconst (v := 0) hx hb dL_strength_17 (by decide) ?_
  exact xret_i (vp_updL ot (0 : Int32).toNatClampNeg r2.toInt64) hc hw (xe2 (yt2 hp3 rfl)) ⟨Nat.le_of_ble_eq_true rfl, Nat.le_of_ble_eq_true rfl⟩ dL_strength_18
def FL_knowsWay (po : Int32) (mx : Nat → Int32) (ms : Nat → Int32) (pl : Int32) (ex : Nat → Int32) (ld : Nat → Int32) (op : Nat → Int32) (g : Int32) (ot : Nat → Int64) : Int32 × (Nat → Int64) :=
  yc2 (FX3_knowsWay po mx ms pl ex ld op g) (fun k => ((1, ot))) (fun r2 => if r2 = 0 then ((0, vp_updL ot (0 : Int32).toNatClampNeg 0)) else ((0, vp_updL ot (0 : Int32).toNatClampNeg 1)))
set_option maxHeartbeats 40000000 in
set_option maxRecDepth 100000 in
theorem metL_knowsWay (l : Launch) (G : xG) (hst : l.stackTraces = false) (sz : Nat) (aX : Nat) (aL : Nat) (aC : Nat) (aT : Nat) (aM : Nat) (aWy : Nat) (aTr : Nat) (aAk : Nat) (aMx : Nat) (aMs : Nat) (aEx : Nat) (aSh : Nat) (aLd : Nat) (aTw : Nat) (aLe : Nat) (aOp : Nat) (aFa : Nat) (aB : Nat) (po : Int32) (co : Int32) (go : Int32) (wl : Int32) (gu : Int32) (wk : Int32) (db : Int32) (dn : Int32) (iv : Int32) (qs : Int32) (mx : Nat → Int32) (ms : Nat → Int32) (pl : Int32) (ex : Nat → Int32) (ld : Nat → Int32) (op : Nat → Int32) (g : Int32) (ot : Nat → Int64) (hpl : 0 ≤ pl.toInt ∧ pl.toInt ≤ 10) : xM l yL_knowsWay wsL_knowsWay ⟨8, 1, 6, 124⟩ G [.ref aX, .int g, .ref aB] [xO aX 3 [.ref aL, .ref aC, .ref aT], xO aC 0 [.ref aL, .ref aM, .int po, .int co, .int go, .ref aWy, .int wl, .ref aTr, .ref aAk, .int gu, .int wk, .int db, .int dn, .int iv, .int qs], xO aM 2 [.ref aMx, .ref aMs], xAI G aMx 100 mx, xAI G aMs 100 ms, xO aL 1 [.int pl, .ref aEx, .ref aSh, .ref aLd, .ref aTw, .ref aLe, .ref aOp, .ref aFa], xAI G aEx 10 ex, xAI G aLd 40 ld, xAZ G aOp 40 op, xAJ G aB 1 ot] sz (xQi G [xO aX 3 [.ref aL, .ref aC, .ref aT], xO aC 0 [.ref aL, .ref aM, .int po, .int co, .int go, .ref aWy, .int wl, .ref aTr, .ref aAk, .int gu, .int wk, .int db, .int dn, .int iv, .int qs], xO aM 2 [.ref aMx, .ref aMs], xAI G aMx 100 mx, xAI G aMs 100 ms, xO aL 1 [.int pl, .ref aEx, .ref aSh, .ref aLd, .ref aTw, .ref aLe, .ref aOp, .ref aFa], xAI G aEx 10 ex, xAI G aLd 40 ld, xAZ G aOp 40 op, xAJ G aB 1 ot] sz (fun (r : Int32) (u : (Nat → Int64)) => r = (FL_knowsWay po mx ms pl ex ld op g ot).1 ∧ u = (FL_knowsWay po mx ms pl ex ld op g ot).2) (fun u : (Nat → Int64) => [xO aX 3 [.ref aL, .ref aC, .ref aT], xO aC 0 [.ref aL, .ref aM, .int po, .int co, .int go, .ref aWy, .int wl, .ref aTr, .ref aAk, .int gu, .int wk, .int db, .int dn, .int iv, .int qs], xO aM 2 [.ref aMx, .ref aMs], xAI G aMx 100 mx, xAI G aMs 100 ms, xO aL 1 [.int pl, .ref aEx, .ref aSh, .ref aLd, .ref aTw, .ref aLe, .ref aOp, .ref aFa], xAI G aEx 10 ex, xAI G aLd 40 ld, xAZ G aOp 40 op, xAJ G aB 1 u])) := by
  refine xofW (own := RL) (cc := cL_knowsWay) (maxL := 4) (ret := (some .int)) (hh := [(0, 16, 19, 19)]) rfl (by decide) rfl (Nat.le_of_ble_eq_true rfl) ?_
  intro pg en s mi below meth cd hc ht hw ls hl
  obtain ⟨hx, hb, -, hown, hts, -⟩ := id hc
  have hl : lv_has ls 4 [(0, .ref aX), (1, .int g), (2, .ref aB)] := hl
  refine lv_aload_n hx hb dL_knowsWay_0 rfl (lv_at hl 2 rfl) ?_
  refine lv_iconst (v := 0) hx hb dL_knowsWay_1 (by decide) ?_
  refine lv_aload_n hx hb dL_knowsWay_2 rfl (lv_at hl 0 rfl) ?_
  refine lv_iload_n hx hb dL_knowsWay_3 rfl (lv_at hl 1 rfl) ?_
  refine xcallX_i (isC := [0, 1, 2, 3, 4, 5, 6, 7, 8]) hc hw (xrunVX (n := 1) (As := [.int g]) (rest := [.int 0, .ref aB]) hc hw [0, 1, 2, 3, 4, 5, 6, 7, 8] (metX3_knowsWay l G hst _ aX aL aC aT aM aWy aTr aAk aMx aMs aEx aSh aLd aTw aLe aOp aFa po co go wl gu wk db dn iv qs mx ms pl ex ld op g hpl) gL_knowsWay_X3_knowsWay rfl (by decide +kernel) ⟨Nat.le_of_ble_eq_true rfl, Nat.le_of_ble_eq_true rfl⟩ 0 rfl rfl rfl rfl rfl rfl hl.1 (Nat.le_of_ble_eq_true rfl) dL_knowsWay_4 ⟨Nat.le_of_ble_eq_true rfl, Nat.le_of_ble_eq_true rfl⟩) rfl [9] [1, 2, 3, 4, 5, 6, 7, 8, 9, 0] [1, 2, 3, 4, 5, 6, 7, 8, 9, 0] (fun u1 => [xO aX 3 [.ref aL, .ref aC, .ref aT], xO aC 0 [.ref aL, .ref aM, .int po, .int co, .int go, .ref aWy, .int wl, .ref aTr, .ref aAk, .int gu, .int wk, .int db, .int dn, .int iv, .int qs], xO aM 2 [.ref aMx, .ref aMs], xAI G aMx 100 mx, xAI G aMs 100 ms, xO aL 1 [.int pl, .ref aEx, .ref aSh, .ref aLd, .ref aTw, .ref aLe, .ref aOp, .ref aFa], xAI G aEx 10 ex, xAI G aLd 40 ld, xAZ G aOp 40 op, xAJ G aB 1 ot]) (fun _ => rfl) rfl rfl rfl rfl rfl rfl (fun E ce q9 H locs hpx hw h9 hv9 hc9 => ?_) (fun r2 u1 H locs hp3 hw => ?_)
  · rcases ycase hpx.2 with hE | hE | hE
    · subst hE
      refine ycatch (own := RL) (nms := []) hc [] ⟨0, 16, 19, 19⟩ [] ht rfl rfl (by intro z hz; cases hz) (by intro z hz; cases hz) rfl (by decide) lkL_knowsWay_c19 (by decide +kernel) h9 hv9 hc9 ?_
      refine lv_astore_n (lv' := [(3, .ref q9), (0, .ref aX), (1, .int g), (2, .ref aB)]) hx hb dL_knowsWay_19 rfl hl (by decide) rfl (fun ls hl => ?_)
      refine lv_iconst (v := 1) hx hb dL_knowsWay_20 (by decide) ?_
      exact xret_i ot hc hw (xe2 (yh2 (hpx.1.trans xcode_IO) (by decide) rfl)) ⟨Nat.le_of_ble_eq_true rfl, Nat.le_of_ble_eq_true rfl⟩ dL_knowsWay_21
    · subst hE
      exact absurd hpx.1 (by rcases cdX3_knowsWay with h9 | h9 | h9 <;> rw [h9] <;> decide +kernel)
    · subst hE
      exact absurd hpx.1 (by rcases cdX3_knowsWay with h9 | h9 | h9 <;> rw [h9] <;> decide +kernel)
  refine lv_if_eq (tgt := 14) hx hb dL_knowsWay_7 (by decide) (fun c_5 => ?_) (fun c_5 => ?_)
  · refine lv_lconst (v := 0) hx hb dL_knowsWay_14 rfl ?_
    refine xlast hc hw 9 [xO aX 3 [.ref aL, .ref aC, .ref aT], xO aC 0 [.ref aL, .ref aM, .int po, .int co, .int go, .ref aWy, .int wl, .ref aTr, .ref aAk, .int gu, .int wk, .int db, .int dn, .int iv, .int qs], xO aM 2 [.ref aMx, .ref aMs], xAI G aMx 100 mx, xAI G aMs 100 ms, xO aL 1 [.int pl, .ref aEx, .ref aSh, .ref aLd, .ref aTw, .ref aLe, .ref aOp, .ref aFa], xAI G aEx 10 ex, xAI G aLd 40 ld, xAZ G aOp 40 op, xAJ G aB 1 (vp_updL ot (0 : Int32).toNatClampNeg 0)] rfl (xin ⟨by decide, by decide⟩) rfl dL_knowsWay_15 (fun H locs hw => ?_)
    refine lv_goto (tgt := 22) hx hb dL_knowsWay_16 (by decide) ?_
    refine lv_iconst (v := 0) hx hb dL_knowsWay_22 (by decide) ?_
    exact xret_i (vp_updL ot (0 : Int32).toNatClampNeg 0) hc hw (xe2 (yt2 hp3 (if_pos c_5))) ⟨Nat.le_of_ble_eq_true rfl, Nat.le_of_ble_eq_true rfl⟩ dL_knowsWay_23
  · refine lv_lconst (v := 1) hx hb dL_knowsWay_10 rfl ?_
    refine lv_goto (tgt := 15) hx hb dL_knowsWay_11 (by decide) ?_
    refine xlast hc hw 9 [xO aX 3 [.ref aL, .ref aC, .ref aT], xO aC 0 [.ref aL, .ref aM, .int po, .int co, .int go, .ref aWy, .int wl, .ref aTr, .ref aAk, .int gu, .int wk, .int db, .int dn, .int iv, .int qs], xO aM 2 [.ref aMx, .ref aMs], xAI G aMx 100 mx, xAI G aMs 100 ms, xO aL 1 [.int pl, .ref aEx, .ref aSh, .ref aLd, .ref aTw, .ref aLe, .ref aOp, .ref aFa], xAI G aEx 10 ex, xAI G aLd 40 ld, xAZ G aOp 40 op, xAJ G aB 1 (vp_updL ot (0 : Int32).toNatClampNeg 1)] rfl (xin ⟨by decide, by decide⟩) rfl dL_knowsWay_15 (fun H locs hw => ?_)
    refine lv_goto (tgt := 22) hx hb dL_knowsWay_16 (by decide) ?_
    refine lv_iconst (v := 0) hx hb dL_knowsWay_22 (by decide) ?_
    exact xret_i (vp_updL ot (0 : Int32).toNatClampNeg 1) hc hw (xe2 (yt2 hp3 (if_neg c_5))) ⟨Nat.le_of_ble_eq_true rfl, Nat.le_of_ble_eq_true rfl⟩ dL_knowsWay_23
def FL_wouldWalk (po : Int32) (co : Int32) (go : Int32) (mx : Nat → Int32) (ms : Nat → Int32) (tpo : Int32) (tco : Int32) (tgo : Int32) (twl : Int32) (tgu : Int32) (twk : Int32) (tdb : Int32) (tdn : Int32) (tiv : Int32) (tqs : Int32) (twy : Nat → Int32) (ttr : Nat → Int32) (tak : Nat → Int32) (tmx : Nat → Int32) (tms : Nat → Int32) (pl : Int32) (ex : Nat → Int32) (sh : Nat → Int32) (ld : Nat → Int32) (tw : Nat → Int32) (le : Nat → Int32) (op : Nat → Int32) (fa : Nat → Int32) (g : Int32) (ot : Nat → Int64) : Int32 × (Int32) × (Int32) × (Int32) × (Int32) × (Int32) × (Int32) × (Int32) × (Int32) × (Int32) × (Nat → Int32) × (Nat → Int32) × (Nat → Int32) × (Nat → Int32) × (Nat → Int32) × (Int32) × (Nat → Int32) × (Nat → Int64) :=
  yc3 (FX3_wouldWalk po co go mx ms tpo tco tgo twl tgu twk tdb tdn tiv tqs twy ttr tak tmx tms pl ex sh ld tw le op fa g) (fun k => if k = 1 then ((1, tpo, tco, tgo, twl, twk, tdb, tdn, tiv, tqs, twy, ttr, tak, tmx, tms, tgu, fa, ot)) else ((2, tpo, tco, tgo, twl, twk, tdb, tdn, tiv, tqs, twy, ttr, tak, tmx, tms, tgu, fa, ot))) (fun r2 u1 => (0, u1.1, u1.2.1, u1.2.2.1, u1.2.2.2.1, u1.2.2.2.2.1, u1.2.2.2.2.2.1, u1.2.2.2.2.2.2.1, u1.2.2.2.2.2.2.2.1, u1.2.2.2.2.2.2.2.2.1, u1.2.2.2.2.2.2.2.2.2.1, u1.2.2.2.2.2.2.2.2.2.2.1, u1.2.2.2.2.2.2.2.2.2.2.2.1, u1.2.2.2.2.2.2.2.2.2.2.2.2.1, u1.2.2.2.2.2.2.2.2.2.2.2.2.2.1, u1.2.2.2.2.2.2.2.2.2.2.2.2.2.2.1, u1.2.2.2.2.2.2.2.2.2.2.2.2.2.2.2, vp_updL ot (0 : Int32).toNatClampNeg r2.toInt64))
set_option maxHeartbeats 40000000 in
set_option maxRecDepth 100000 in
theorem metL_wouldWalk (l : Launch) (G : xG) (hst : l.stackTraces = false) (sz : Nat) (aX : Nat) (aL : Nat) (aC : Nat) (aT : Nat) (aM : Nat) (aWy : Nat) (aTr : Nat) (aAk : Nat) (aMx : Nat) (aMs : Nat) (aN : Nat) (bWy : Nat) (bTr : Nat) (bAk : Nat) (aNx : Nat) (aNs : Nat) (aEx : Nat) (aSh : Nat) (aLd : Nat) (aTw : Nat) (aLe : Nat) (aOp : Nat) (aFa : Nat) (aB : Nat) (po : Int32) (co : Int32) (go : Int32) (wl : Int32) (gu : Int32) (wk : Int32) (db : Int32) (dn : Int32) (iv : Int32) (qs : Int32) (mx : Nat → Int32) (ms : Nat → Int32) (tpo : Int32) (tco : Int32) (tgo : Int32) (twl : Int32) (tgu : Int32) (twk : Int32) (tdb : Int32) (tdn : Int32) (tiv : Int32) (tqs : Int32) (twy : Nat → Int32) (ttr : Nat → Int32) (tak : Nat → Int32) (tmx : Nat → Int32) (tms : Nat → Int32) (pl : Int32) (ex : Nat → Int32) (sh : Nat → Int32) (ld : Nat → Int32) (tw : Nat → Int32) (le : Nat → Int32) (op : Nat → Int32) (fa : Nat → Int32) (g : Int32) (ot : Nat → Int64) (hpl : 0 ≤ pl.toInt ∧ pl.toInt ≤ 10) (hex4 : ∀ k, k < 10 → 0 ≤ (ex k).toInt ∧ (ex k).toInt ≤ 4) (hld : ∀ k, k < 40 → 0 ≤ (ld k).toInt ∧ (ld k).toInt < 10) : xM l yL_wouldWalk wsL_wouldWalk ⟨8, 2, 12, 159⟩ G [.ref aX, .int g, .ref aB] [xO aX 3 [.ref aL, .ref aC, .ref aT], xO aC 0 [.ref aL, .ref aM, .int po, .int co, .int go, .ref aWy, .int wl, .ref aTr, .ref aAk, .int gu, .int wk, .int db, .int dn, .int iv, .int qs], xO aM 2 [.ref aMx, .ref aMs], xAI G aMx 100 mx, xAI G aMs 100 ms, xO aT 0 [.ref aL, .ref aN, .int tpo, .int tco, .int tgo, .ref bWy, .int twl, .ref bTr, .ref bAk, .int tgu, .int twk, .int tdb, .int tdn, .int tiv, .int tqs], xAI G bWy 20 twy, xAZ G bTr 40 ttr, xAZ G bAk 10 tak, xO aN 2 [.ref aNx, .ref aNs], xAI G aNx 100 tmx, xAI G aNs 100 tms, xO aL 1 [.int pl, .ref aEx, .ref aSh, .ref aLd, .ref aTw, .ref aLe, .ref aOp, .ref aFa], xAI G aEx 10 ex, xAZ G aSh 10 sh, xAI G aLd 40 ld, xAI G aTw 40 tw, xAI G aLe 40 le, xAZ G aOp 40 op, xAI G aFa 10 fa, xAJ G aB 1 ot] sz (xQi G [xO aX 3 [.ref aL, .ref aC, .ref aT], xO aC 0 [.ref aL, .ref aM, .int po, .int co, .int go, .ref aWy, .int wl, .ref aTr, .ref aAk, .int gu, .int wk, .int db, .int dn, .int iv, .int qs], xO aM 2 [.ref aMx, .ref aMs], xAI G aMx 100 mx, xAI G aMs 100 ms, xO aT 0 [.ref aL, .ref aN, .int tpo, .int tco, .int tgo, .ref bWy, .int twl, .ref bTr, .ref bAk, .int tgu, .int twk, .int tdb, .int tdn, .int tiv, .int tqs], xAI G bWy 20 twy, xAZ G bTr 40 ttr, xAZ G bAk 10 tak, xO aN 2 [.ref aNx, .ref aNs], xAI G aNx 100 tmx, xAI G aNs 100 tms, xO aL 1 [.int pl, .ref aEx, .ref aSh, .ref aLd, .ref aTw, .ref aLe, .ref aOp, .ref aFa], xAI G aEx 10 ex, xAZ G aSh 10 sh, xAI G aLd 40 ld, xAI G aTw 40 tw, xAI G aLe 40 le, xAZ G aOp 40 op, xAI G aFa 10 fa, xAJ G aB 1 ot] sz (fun (r : Int32) (u : (Int32) × (Int32) × (Int32) × (Int32) × (Int32) × (Int32) × (Int32) × (Int32) × (Int32) × (Nat → Int32) × (Nat → Int32) × (Nat → Int32) × (Nat → Int32) × (Nat → Int32) × (Int32) × (Nat → Int32) × (Nat → Int64)) => r = (FL_wouldWalk po co go mx ms tpo tco tgo twl tgu twk tdb tdn tiv tqs twy ttr tak tmx tms pl ex sh ld tw le op fa g ot).1 ∧ u = (FL_wouldWalk po co go mx ms tpo tco tgo twl tgu twk tdb tdn tiv tqs twy ttr tak tmx tms pl ex sh ld tw le op fa g ot).2) (fun u : (Int32) × (Int32) × (Int32) × (Int32) × (Int32) × (Int32) × (Int32) × (Int32) × (Int32) × (Nat → Int32) × (Nat → Int32) × (Nat → Int32) × (Nat → Int32) × (Nat → Int32) × (Int32) × (Nat → Int32) × (Nat → Int64) => [xO aX 3 [.ref aL, .ref aC, .ref aT], xO aC 0 [.ref aL, .ref aM, .int po, .int co, .int go, .ref aWy, .int wl, .ref aTr, .ref aAk, .int gu, .int wk, .int db, .int dn, .int iv, .int qs], xO aM 2 [.ref aMx, .ref aMs], xAI G aMx 100 mx, xAI G aMs 100 ms, xO aT 0 [.ref aL, .ref aN, .int u.1, .int u.2.1, .int u.2.2.1, .ref bWy, .int u.2.2.2.1, .ref bTr, .ref bAk, .int u.2.2.2.2.2.2.2.2.2.2.2.2.2.2.1, .int u.2.2.2.2.1, .int u.2.2.2.2.2.1, .int u.2.2.2.2.2.2.1, .int u.2.2.2.2.2.2.2.1, .int u.2.2.2.2.2.2.2.2.1], xAI G bWy 20 u.2.2.2.2.2.2.2.2.2.1, xAZ G bTr 40 u.2.2.2.2.2.2.2.2.2.2.1, xAZ G bAk 10 u.2.2.2.2.2.2.2.2.2.2.2.1, xO aN 2 [.ref aNx, .ref aNs], xAI G aNx 100 u.2.2.2.2.2.2.2.2.2.2.2.2.1, xAI G aNs 100 u.2.2.2.2.2.2.2.2.2.2.2.2.2.1, xO aL 1 [.int pl, .ref aEx, .ref aSh, .ref aLd, .ref aTw, .ref aLe, .ref aOp, .ref aFa], xAI G aEx 10 ex, xAZ G aSh 10 sh, xAI G aLd 40 ld, xAI G aTw 40 tw, xAI G aLe 40 le, xAZ G aOp 40 op, xAI G aFa 10 u.2.2.2.2.2.2.2.2.2.2.2.2.2.2.2.1, xAJ G aB 1 u.2.2.2.2.2.2.2.2.2.2.2.2.2.2.2.2])) := by
  refine xofW (own := RL) (cc := cL_wouldWalk) (maxL := 4) (ret := (some .int)) (hh := [(0, 9, 12, 19), (0, 9, 15, 13)]) rfl (by decide) rfl (Nat.le_of_ble_eq_true rfl) ?_
  intro pg en s mi below meth cd hc ht hw ls hl
  obtain ⟨hx, hb, -, hown, hts, -⟩ := id hc
  have hl : lv_has ls 4 [(0, .ref aX), (1, .int g), (2, .ref aB)] := hl
  refine lv_aload_n hx hb dL_wouldWalk_0 rfl (lv_at hl 2 rfl) ?_
  refine lv_iconst (v := 0) hx hb dL_wouldWalk_1 (by decide) ?_
  refine lv_aload_n hx hb dL_wouldWalk_2 rfl (lv_at hl 0 rfl) ?_
  refine lv_iload_n hx hb dL_wouldWalk_3 rfl (lv_at hl 1 rfl) ?_
  refine xcallX_i (isC := [0, 1, 2, 3, 4, 5, 6, 7, 8, 9, 10, 11, 12, 13, 14, 15, 16, 17, 18, 19]) hc hw (xrunVX (n := 1) (As := [.int g]) (rest := [.int 0, .ref aB]) hc hw [0, 1, 2, 3, 4, 5, 6, 7, 8, 9, 10, 11, 12, 13, 14, 15, 16, 17, 18, 19] (metX3_wouldWalk l G hst _ aX aL aC aT aM aWy aTr aAk aMx aMs aN bWy bTr bAk aNx aNs aEx aSh aLd aTw aLe aOp aFa po co go wl gu wk db dn iv qs mx ms tpo tco tgo twl tgu twk tdb tdn tiv tqs twy ttr tak tmx tms pl ex sh ld tw le op fa g hpl hex4 hld) gL_wouldWalk_X3_wouldWalk rfl (by decide +kernel) ⟨Nat.le_of_ble_eq_true rfl, Nat.le_of_ble_eq_true rfl⟩ 0 rfl rfl rfl rfl rfl rfl hl.1 (Nat.le_of_ble_eq_true rfl) dL_wouldWalk_4 ⟨Nat.le_of_ble_eq_true rfl, Nat.le_of_ble_eq_true rfl⟩) rfl [20] [1, 2, 3, 4, 5, 6, 7, 8, 9, 10, 11, 12, 13, 14, 15, 16, 17, 18, 19, 20, 0] [1, 2, 3, 4, 5, 6, 7, 8, 9, 10, 11, 12, 13, 14, 15, 16, 17, 18, 19, 20, 0] (fun u1 => [xO aX 3 [.ref aL, .ref aC, .ref aT], xO aC 0 [.ref aL, .ref aM, .int po, .int co, .int go, .ref aWy, .int wl, .ref aTr, .ref aAk, .int gu, .int wk, .int db, .int dn, .int iv, .int qs], xO aM 2 [.ref aMx, .ref aMs], xAI G aMx 100 mx, xAI G aMs 100 ms, xO aT 0 [.ref aL, .ref aN, .int u1.1, .int u1.2.1, .int u1.2.2.1, .ref bWy, .int u1.2.2.2.1, .ref bTr, .ref bAk, .int u1.2.2.2.2.2.2.2.2.2.2.2.2.2.2.1, .int u1.2.2.2.2.1, .int u1.2.2.2.2.2.1, .int u1.2.2.2.2.2.2.1, .int u1.2.2.2.2.2.2.2.1, .int u1.2.2.2.2.2.2.2.2.1], xAI G bWy 20 u1.2.2.2.2.2.2.2.2.2.1, xAZ G bTr 40 u1.2.2.2.2.2.2.2.2.2.2.1, xAZ G bAk 10 u1.2.2.2.2.2.2.2.2.2.2.2.1, xO aN 2 [.ref aNx, .ref aNs], xAI G aNx 100 u1.2.2.2.2.2.2.2.2.2.2.2.2.1, xAI G aNs 100 u1.2.2.2.2.2.2.2.2.2.2.2.2.2.1, xO aL 1 [.int pl, .ref aEx, .ref aSh, .ref aLd, .ref aTw, .ref aLe, .ref aOp, .ref aFa], xAI G aEx 10 ex, xAZ G aSh 10 sh, xAI G aLd 40 ld, xAI G aTw 40 tw, xAI G aLe 40 le, xAZ G aOp 40 op, xAI G aFa 10 u1.2.2.2.2.2.2.2.2.2.2.2.2.2.2.2, xAJ G aB 1 ot]) (fun _ => rfl) rfl rfl rfl rfl rfl rfl (fun E ce q9 H locs hpx hw h9 hv9 hc9 => ?_) (fun r2 u1 H locs hp3 hw => ?_)
  · rcases ycase hpx.2 with hE | hE | hE
    · subst hE
      refine ycatch (own := RL) (nms := []) hc [] ⟨0, 9, 12, 19⟩ [⟨0, 9, 15, 13⟩] ht rfl rfl (by intro z hz; cases hz) (by intro z hz; cases hz) rfl (by decide) lkL_wouldWalk_c19 (by decide +kernel) h9 hv9 hc9 ?_
      refine lv_astore_n (lv' := [(3, .ref q9), (0, .ref aX), (1, .int g), (2, .ref aB)]) hx hb dL_wouldWalk_12 rfl hl (by decide) rfl (fun ls hl => ?_)
      refine lv_iconst (v := 1) hx hb dL_wouldWalk_13 (by decide) ?_
      obtain ⟨u0, hu0⟩ : ∃ z : (Int32) × (Int32) × (Int32) × (Int32) × (Int32) × (Int32) × (Int32) × (Int32) × (Int32) × (Nat → Int32) × (Nat → Int32) × (Nat → Int32) × (Nat → Int32) × (Nat → Int32) × (Int32) × (Nat → Int32) × (Nat → Int64), z = (tpo, tco, tgo, twl, twk, tdb, tdn, tiv, tqs, twy, ttr, tak, tmx, tms, tgu, fa, ot) := ⟨_, rfl⟩
      refine xret_i u0 hc ?_ ?_ ⟨Nat.le_of_ble_eq_true rfl, Nat.le_of_ble_eq_true rfl⟩ dL_wouldWalk_14
      · subst hu0; dsimp only; exact hw
      · subst hu0; exact xe2 (yh3 (hpx.1.trans xcode_IO) (by decide) (if_pos rfl))
    · subst hE
      exact absurd hpx.1 (by rcases cdX3_wouldWalk with h9 | h9 | h9 <;> rw [h9] <;> decide +kernel)
    · subst hE
      refine ycatch (own := RL) (nms := [(19, xIO)]) hc [⟨0, 9, 12, 19⟩] ⟨0, 9, 15, 13⟩ [] ht rfl rfl (by intro z hz; cases hz with | head => exact lkL_wouldWalk_c19 | tail _ hz => (cases hz)) (by intro z hz; cases hz with | head => exact (by decide +kernel) | tail _ hz => (cases hz)) rfl (by decide) lkL_wouldWalk_c13 (by decide +kernel) h9 hv9 hc9 ?_
      refine lv_astore_n (lv' := [(3, .ref q9), (0, .ref aX), (1, .int g), (2, .ref aB)]) hx hb dL_wouldWalk_15 rfl hl (by decide) rfl (fun ls hl => ?_)
      refine lv_iconst (v := 2) hx hb dL_wouldWalk_16 (by decide) ?_
      obtain ⟨u0, hu0⟩ : ∃ z : (Int32) × (Int32) × (Int32) × (Int32) × (Int32) × (Int32) × (Int32) × (Int32) × (Int32) × (Nat → Int32) × (Nat → Int32) × (Nat → Int32) × (Nat → Int32) × (Nat → Int32) × (Int32) × (Nat → Int32) × (Nat → Int64), z = (tpo, tco, tgo, twl, twk, tdb, tdn, tiv, tqs, twy, ttr, tak, tmx, tms, tgu, fa, ot) := ⟨_, rfl⟩
      refine xret_i u0 hc ?_ ?_ ⟨Nat.le_of_ble_eq_true rfl, Nat.le_of_ble_eq_true rfl⟩ dL_wouldWalk_17
      · subst hu0; dsimp only; exact hw
      · subst hu0; exact xe2 (yh3 (hpx.1.trans xcode_IS) (by decide) (if_neg (by decide)))
  refine lv_i2l hx hb dL_wouldWalk_7 rfl ?_
  refine xlast hc hw 20 [xO aX 3 [.ref aL, .ref aC, .ref aT], xO aC 0 [.ref aL, .ref aM, .int po, .int co, .int go, .ref aWy, .int wl, .ref aTr, .ref aAk, .int gu, .int wk, .int db, .int dn, .int iv, .int qs], xO aM 2 [.ref aMx, .ref aMs], xAI G aMx 100 mx, xAI G aMs 100 ms, xO aT 0 [.ref aL, .ref aN, .int u1.1, .int u1.2.1, .int u1.2.2.1, .ref bWy, .int u1.2.2.2.1, .ref bTr, .ref bAk, .int u1.2.2.2.2.2.2.2.2.2.2.2.2.2.2.1, .int u1.2.2.2.2.1, .int u1.2.2.2.2.2.1, .int u1.2.2.2.2.2.2.1, .int u1.2.2.2.2.2.2.2.1, .int u1.2.2.2.2.2.2.2.2.1], xAI G bWy 20 u1.2.2.2.2.2.2.2.2.2.1, xAZ G bTr 40 u1.2.2.2.2.2.2.2.2.2.2.1, xAZ G bAk 10 u1.2.2.2.2.2.2.2.2.2.2.2.1, xO aN 2 [.ref aNx, .ref aNs], xAI G aNx 100 u1.2.2.2.2.2.2.2.2.2.2.2.2.1, xAI G aNs 100 u1.2.2.2.2.2.2.2.2.2.2.2.2.2.1, xO aL 1 [.int pl, .ref aEx, .ref aSh, .ref aLd, .ref aTw, .ref aLe, .ref aOp, .ref aFa], xAI G aEx 10 ex, xAZ G aSh 10 sh, xAI G aLd 40 ld, xAI G aTw 40 tw, xAI G aLe 40 le, xAZ G aOp 40 op, xAI G aFa 10 u1.2.2.2.2.2.2.2.2.2.2.2.2.2.2.2, xAJ G aB 1 (vp_updL ot (0 : Int32).toNatClampNeg r2.toInt64)] rfl (xin ⟨by decide, by decide⟩) rfl dL_wouldWalk_8 (fun H locs hw => ?_)
  refine lv_goto (tgt := 18) hx hb dL_wouldWalk_9 (by decide) ?_
  refine lv_iconst (v := 0) hx hb dL_wouldWalk_18 (by decide) ?_
  obtain ⟨u0, hu0⟩ : ∃ z : (Int32) × (Int32) × (Int32) × (Int32) × (Int32) × (Int32) × (Int32) × (Int32) × (Int32) × (Nat → Int32) × (Nat → Int32) × (Nat → Int32) × (Nat → Int32) × (Nat → Int32) × (Int32) × (Nat → Int32) × (Nat → Int64), z = (u1.1, u1.2.1, u1.2.2.1, u1.2.2.2.1, u1.2.2.2.2.1, u1.2.2.2.2.2.1, u1.2.2.2.2.2.2.1, u1.2.2.2.2.2.2.2.1, u1.2.2.2.2.2.2.2.2.1, u1.2.2.2.2.2.2.2.2.2.1, u1.2.2.2.2.2.2.2.2.2.2.1, u1.2.2.2.2.2.2.2.2.2.2.2.1, u1.2.2.2.2.2.2.2.2.2.2.2.2.1, u1.2.2.2.2.2.2.2.2.2.2.2.2.2.1, u1.2.2.2.2.2.2.2.2.2.2.2.2.2.2.1, u1.2.2.2.2.2.2.2.2.2.2.2.2.2.2.2, vp_updL ot (0 : Int32).toNatClampNeg r2.toInt64) := ⟨_, rfl⟩
  refine xret_i u0 hc ?_ ?_ ⟨Nat.le_of_ble_eq_true rfl, Nat.le_of_ble_eq_true rfl⟩ dL_wouldWalk_19
  · subst hu0; dsimp only; exact hw
  · subst hu0; exact xe2 (yt3 hp3 rfl)
def FL_bestShepherd (po : Int32) (co : Int32) (go : Int32) (mx : Nat → Int32) (ms : Nat → Int32) (tpo : Int32) (tco : Int32) (tgo : Int32) (twl : Int32) (tgu : Int32) (twk : Int32) (tdb : Int32) (tdn : Int32) (tiv : Int32) (tqs : Int32) (twy : Nat → Int32) (ttr : Nat → Int32) (tak : Nat → Int32) (tmx : Nat → Int32) (tms : Nat → Int32) (pl : Int32) (ex : Nat → Int32) (sh : Nat → Int32) (ld : Nat → Int32) (tw : Nat → Int32) (le : Nat → Int32) (op : Nat → Int32) (fa : Nat → Int32) (g : Int32) (ot : Nat → Int64) : Int32 × (Int32) × (Int32) × (Int32) × (Int32) × (Int32) × (Int32) × (Int32) × (Int32) × (Int32) × (Nat → Int32) × (Nat → Int32) × (Nat → Int32) × (Nat → Int32) × (Nat → Int32) × (Int32) × (Nat → Int32) × (Nat → Int64) :=
  yc3 (FX3_bestShepherd po co go mx ms tpo tco tgo twl tgu twk tdb tdn tiv tqs twy ttr tak tmx tms pl ex sh ld tw le op fa g) (fun k => if k = 1 then ((1, tpo, tco, tgo, twl, twk, tdb, tdn, tiv, tqs, twy, ttr, tak, tmx, tms, tgu, fa, ot)) else ((2, tpo, tco, tgo, twl, twk, tdb, tdn, tiv, tqs, twy, ttr, tak, tmx, tms, tgu, fa, ot))) (fun r2 u1 => (0, u1.1, u1.2.1, u1.2.2.1, u1.2.2.2.1, u1.2.2.2.2.1, u1.2.2.2.2.2.1, u1.2.2.2.2.2.2.1, u1.2.2.2.2.2.2.2.1, u1.2.2.2.2.2.2.2.2.1, u1.2.2.2.2.2.2.2.2.2.1, u1.2.2.2.2.2.2.2.2.2.2.1, u1.2.2.2.2.2.2.2.2.2.2.2.1, u1.2.2.2.2.2.2.2.2.2.2.2.2.1, u1.2.2.2.2.2.2.2.2.2.2.2.2.2.1, u1.2.2.2.2.2.2.2.2.2.2.2.2.2.2.1, u1.2.2.2.2.2.2.2.2.2.2.2.2.2.2.2, vp_updL ot (0 : Int32).toNatClampNeg r2.toInt64))
set_option maxHeartbeats 40000000 in
set_option maxRecDepth 100000 in
theorem metL_bestShepherd (l : Launch) (G : xG) (hst : l.stackTraces = false) (sz : Nat) (aX : Nat) (aL : Nat) (aC : Nat) (aT : Nat) (aM : Nat) (aWy : Nat) (aTr : Nat) (aAk : Nat) (aMx : Nat) (aMs : Nat) (aN : Nat) (bWy : Nat) (bTr : Nat) (bAk : Nat) (aNx : Nat) (aNs : Nat) (aEx : Nat) (aSh : Nat) (aLd : Nat) (aTw : Nat) (aLe : Nat) (aOp : Nat) (aFa : Nat) (aB : Nat) (po : Int32) (co : Int32) (go : Int32) (wl : Int32) (gu : Int32) (wk : Int32) (db : Int32) (dn : Int32) (iv : Int32) (qs : Int32) (mx : Nat → Int32) (ms : Nat → Int32) (tpo : Int32) (tco : Int32) (tgo : Int32) (twl : Int32) (tgu : Int32) (twk : Int32) (tdb : Int32) (tdn : Int32) (tiv : Int32) (tqs : Int32) (twy : Nat → Int32) (ttr : Nat → Int32) (tak : Nat → Int32) (tmx : Nat → Int32) (tms : Nat → Int32) (pl : Int32) (ex : Nat → Int32) (sh : Nat → Int32) (ld : Nat → Int32) (tw : Nat → Int32) (le : Nat → Int32) (op : Nat → Int32) (fa : Nat → Int32) (g : Int32) (ot : Nat → Int64) (hpl : 0 ≤ pl.toInt ∧ pl.toInt ≤ 10) (hex4 : ∀ k, k < 10 → 0 ≤ (ex k).toInt ∧ (ex k).toInt ≤ 4) (hld : ∀ k, k < 40 → 0 ≤ (ld k).toInt ∧ (ld k).toInt < 10) : xM l yL_bestShepherd wsL_bestShepherd ⟨8, 2, 12, 163⟩ G [.ref aX, .int g, .ref aB] [xO aX 3 [.ref aL, .ref aC, .ref aT], xO aC 0 [.ref aL, .ref aM, .int po, .int co, .int go, .ref aWy, .int wl, .ref aTr, .ref aAk, .int gu, .int wk, .int db, .int dn, .int iv, .int qs], xO aM 2 [.ref aMx, .ref aMs], xAI G aMx 100 mx, xAI G aMs 100 ms, xO aT 0 [.ref aL, .ref aN, .int tpo, .int tco, .int tgo, .ref bWy, .int twl, .ref bTr, .ref bAk, .int tgu, .int twk, .int tdb, .int tdn, .int tiv, .int tqs], xAI G bWy 20 twy, xAZ G bTr 40 ttr, xAZ G bAk 10 tak, xO aN 2 [.ref aNx, .ref aNs], xAI G aNx 100 tmx, xAI G aNs 100 tms, xO aL 1 [.int pl, .ref aEx, .ref aSh, .ref aLd, .ref aTw, .ref aLe, .ref aOp, .ref aFa], xAI G aEx 10 ex, xAZ G aSh 10 sh, xAI G aLd 40 ld, xAI G aTw 40 tw, xAI G aLe 40 le, xAZ G aOp 40 op, xAI G aFa 10 fa, xAJ G aB 1 ot] sz (xQi G [xO aX 3 [.ref aL, .ref aC, .ref aT], xO aC 0 [.ref aL, .ref aM, .int po, .int co, .int go, .ref aWy, .int wl, .ref aTr, .ref aAk, .int gu, .int wk, .int db, .int dn, .int iv, .int qs], xO aM 2 [.ref aMx, .ref aMs], xAI G aMx 100 mx, xAI G aMs 100 ms, xO aT 0 [.ref aL, .ref aN, .int tpo, .int tco, .int tgo, .ref bWy, .int twl, .ref bTr, .ref bAk, .int tgu, .int twk, .int tdb, .int tdn, .int tiv, .int tqs], xAI G bWy 20 twy, xAZ G bTr 40 ttr, xAZ G bAk 10 tak, xO aN 2 [.ref aNx, .ref aNs], xAI G aNx 100 tmx, xAI G aNs 100 tms, xO aL 1 [.int pl, .ref aEx, .ref aSh, .ref aLd, .ref aTw, .ref aLe, .ref aOp, .ref aFa], xAI G aEx 10 ex, xAZ G aSh 10 sh, xAI G aLd 40 ld, xAI G aTw 40 tw, xAI G aLe 40 le, xAZ G aOp 40 op, xAI G aFa 10 fa, xAJ G aB 1 ot] sz (fun (r : Int32) (u : (Int32) × (Int32) × (Int32) × (Int32) × (Int32) × (Int32) × (Int32) × (Int32) × (Int32) × (Nat → Int32) × (Nat → Int32) × (Nat → Int32) × (Nat → Int32) × (Nat → Int32) × (Int32) × (Nat → Int32) × (Nat → Int64)) => r = (FL_bestShepherd po co go mx ms tpo tco tgo twl tgu twk tdb tdn tiv tqs twy ttr tak tmx tms pl ex sh ld tw le op fa g ot).1 ∧ u = (FL_bestShepherd po co go mx ms tpo tco tgo twl tgu twk tdb tdn tiv tqs twy ttr tak tmx tms pl ex sh ld tw le op fa g ot).2) (fun u : (Int32) × (Int32) × (Int32) × (Int32) × (Int32) × (Int32) × (Int32) × (Int32) × (Int32) × (Nat → Int32) × (Nat → Int32) × (Nat → Int32) × (Nat → Int32) × (Nat → Int32) × (Int32) × (Nat → Int32) × (Nat → Int64) => [xO aX 3 [.ref aL, .ref aC, .ref aT], xO aC 0 [.ref aL, .ref aM, .int po, .int co, .int go, .ref aWy, .int wl, .ref aTr, .ref aAk, .int gu, .int wk, .int db, .int dn, .int iv, .int qs], xO aM 2 [.ref aMx, .ref aMs], xAI G aMx 100 mx, xAI G aMs 100 ms, xO aT 0 [.ref aL, .ref aN, .int u.1, .int u.2.1, .int u.2.2.1, .ref bWy, .int u.2.2.2.1, .ref bTr, .ref bAk, .int u.2.2.2.2.2.2.2.2.2.2.2.2.2.2.1, .int u.2.2.2.2.1, .int u.2.2.2.2.2.1, .int u.2.2.2.2.2.2.1, .int u.2.2.2.2.2.2.2.1, .int u.2.2.2.2.2.2.2.2.1], xAI G bWy 20 u.2.2.2.2.2.2.2.2.2.1, xAZ G bTr 40 u.2.2.2.2.2.2.2.2.2.2.1, xAZ G bAk 10 u.2.2.2.2.2.2.2.2.2.2.2.1, xO aN 2 [.ref aNx, .ref aNs], xAI G aNx 100 u.2.2.2.2.2.2.2.2.2.2.2.2.1, xAI G aNs 100 u.2.2.2.2.2.2.2.2.2.2.2.2.2.1, xO aL 1 [.int pl, .ref aEx, .ref aSh, .ref aLd, .ref aTw, .ref aLe, .ref aOp, .ref aFa], xAI G aEx 10 ex, xAZ G aSh 10 sh, xAI G aLd 40 ld, xAI G aTw 40 tw, xAI G aLe 40 le, xAZ G aOp 40 op, xAI G aFa 10 u.2.2.2.2.2.2.2.2.2.2.2.2.2.2.2.1, xAJ G aB 1 u.2.2.2.2.2.2.2.2.2.2.2.2.2.2.2.2])) := by
  refine xofW (own := RL) (cc := cL_bestShepherd) (maxL := 4) (ret := (some .int)) (hh := [(0, 9, 12, 19), (0, 9, 15, 13)]) rfl (by decide) rfl (Nat.le_of_ble_eq_true rfl) ?_
  intro pg en s mi below meth cd hc ht hw ls hl
  obtain ⟨hx, hb, -, hown, hts, -⟩ := id hc
  have hl : lv_has ls 4 [(0, .ref aX), (1, .int g), (2, .ref aB)] := hl
  refine lv_aload_n hx hb dL_bestShepherd_0 rfl (lv_at hl 2 rfl) ?_
  refine lv_iconst (v := 0) hx hb dL_bestShepherd_1 (by decide) ?_
  refine lv_aload_n hx hb dL_bestShepherd_2 rfl (lv_at hl 0 rfl) ?_
  refine lv_iload_n hx hb dL_bestShepherd_3 rfl (lv_at hl 1 rfl) ?_
  refine xcallX_i (isC := [0, 1, 2, 3, 4, 5, 6, 7, 8, 9, 10, 11, 12, 13, 14, 15, 16, 17, 18, 19]) hc hw (xrunVX (n := 1) (As := [.int g]) (rest := [.int 0, .ref aB]) hc hw [0, 1, 2, 3, 4, 5, 6, 7, 8, 9, 10, 11, 12, 13, 14, 15, 16, 17, 18, 19] (metX3_bestShepherd l G hst _ aX aL aC aT aM aWy aTr aAk aMx aMs aN bWy bTr bAk aNx aNs aEx aSh aLd aTw aLe aOp aFa po co go wl gu wk db dn iv qs mx ms tpo tco tgo twl tgu twk tdb tdn tiv tqs twy ttr tak tmx tms pl ex sh ld tw le op fa g hpl hex4 hld) gL_bestShepherd_X3_bestShepherd rfl (by decide +kernel) ⟨Nat.le_of_ble_eq_true rfl, Nat.le_of_ble_eq_true rfl⟩ 0 rfl rfl rfl rfl rfl rfl hl.1 (Nat.le_of_ble_eq_true rfl) dL_bestShepherd_4 ⟨Nat.le_of_ble_eq_true rfl, Nat.le_of_ble_eq_true rfl⟩) rfl [20] [1, 2, 3, 4, 5, 6, 7, 8, 9, 10, 11, 12, 13, 14, 15, 16, 17, 18, 19, 20, 0] [1, 2, 3, 4, 5, 6, 7, 8, 9, 10, 11, 12, 13, 14, 15, 16, 17, 18, 19, 20, 0] (fun u1 => [xO aX 3 [.ref aL, .ref aC, .ref aT], xO aC 0 [.ref aL, .ref aM, .int po, .int co, .int go, .ref aWy, .int wl, .ref aTr, .ref aAk, .int gu, .int wk, .int db, .int dn, .int iv, .int qs], xO aM 2 [.ref aMx, .ref aMs], xAI G aMx 100 mx, xAI G aMs 100 ms, xO aT 0 [.ref aL, .ref aN, .int u1.1, .int u1.2.1, .int u1.2.2.1, .ref bWy, .int u1.2.2.2.1, .ref bTr, .ref bAk, .int u1.2.2.2.2.2.2.2.2.2.2.2.2.2.2.1, .int u1.2.2.2.2.1, .int u1.2.2.2.2.2.1, .int u1.2.2.2.2.2.2.1, .int u1.2.2.2.2.2.2.2.1, .int u1.2.2.2.2.2.2.2.2.1], xAI G bWy 20 u1.2.2.2.2.2.2.2.2.2.1, xAZ G bTr 40 u1.2.2.2.2.2.2.2.2.2.2.1, xAZ G bAk 10 u1.2.2.2.2.2.2.2.2.2.2.2.1, xO aN 2 [.ref aNx, .ref aNs], xAI G aNx 100 u1.2.2.2.2.2.2.2.2.2.2.2.2.1, xAI G aNs 100 u1.2.2.2.2.2.2.2.2.2.2.2.2.2.1, xO aL 1 [.int pl, .ref aEx, .ref aSh, .ref aLd, .ref aTw, .ref aLe, .ref aOp, .ref aFa], xAI G aEx 10 ex, xAZ G aSh 10 sh, xAI G aLd 40 ld, xAI G aTw 40 tw, xAI G aLe 40 le, xAZ G aOp 40 op, xAI G aFa 10 u1.2.2.2.2.2.2.2.2.2.2.2.2.2.2.2, xAJ G aB 1 ot]) (fun _ => rfl) rfl rfl rfl rfl rfl rfl (fun E ce q9 H locs hpx hw h9 hv9 hc9 => ?_) (fun r2 u1 H locs hp3 hw => ?_)
  · rcases ycase hpx.2 with hE | hE | hE
    · subst hE
      refine ycatch (own := RL) (nms := []) hc [] ⟨0, 9, 12, 19⟩ [⟨0, 9, 15, 13⟩] ht rfl rfl (by intro z hz; cases hz) (by intro z hz; cases hz) rfl (by decide) lkL_bestShepherd_c19 (by decide +kernel) h9 hv9 hc9 ?_
      refine lv_astore_n (lv' := [(3, .ref q9), (0, .ref aX), (1, .int g), (2, .ref aB)]) hx hb dL_bestShepherd_12 rfl hl (by decide) rfl (fun ls hl => ?_)
      refine lv_iconst (v := 1) hx hb dL_bestShepherd_13 (by decide) ?_
      obtain ⟨u0, hu0⟩ : ∃ z : (Int32) × (Int32) × (Int32) × (Int32) × (Int32) × (Int32) × (Int32) × (Int32) × (Int32) × (Nat → Int32) × (Nat → Int32) × (Nat → Int32) × (Nat → Int32) × (Nat → Int32) × (Int32) × (Nat → Int32) × (Nat → Int64), z = (tpo, tco, tgo, twl, twk, tdb, tdn, tiv, tqs, twy, ttr, tak, tmx, tms, tgu, fa, ot) := ⟨_, rfl⟩
      refine xret_i u0 hc ?_ ?_ ⟨Nat.le_of_ble_eq_true rfl, Nat.le_of_ble_eq_true rfl⟩ dL_bestShepherd_14
      · subst hu0; dsimp only; exact hw
      · subst hu0; exact xe2 (yh3 (hpx.1.trans xcode_IO) (by decide) (if_pos rfl))
    · subst hE
      exact absurd hpx.1 (by rcases cdX3_bestShepherd with h9 | h9 | h9 <;> rw [h9] <;> decide +kernel)
    · subst hE
      refine ycatch (own := RL) (nms := [(19, xIO)]) hc [⟨0, 9, 12, 19⟩] ⟨0, 9, 15, 13⟩ [] ht rfl rfl (by intro z hz; cases hz with | head => exact lkL_bestShepherd_c19 | tail _ hz => (cases hz)) (by intro z hz; cases hz with | head => exact (by decide +kernel) | tail _ hz => (cases hz)) rfl (by decide) lkL_bestShepherd_c13 (by decide +kernel) h9 hv9 hc9 ?_
      refine lv_astore_n (lv' := [(3, .ref q9), (0, .ref aX), (1, .int g), (2, .ref aB)]) hx hb dL_bestShepherd_15 rfl hl (by decide) rfl (fun ls hl => ?_)
      refine lv_iconst (v := 2) hx hb dL_bestShepherd_16 (by decide) ?_
      obtain ⟨u0, hu0⟩ : ∃ z : (Int32) × (Int32) × (Int32) × (Int32) × (Int32) × (Int32) × (Int32) × (Int32) × (Int32) × (Nat → Int32) × (Nat → Int32) × (Nat → Int32) × (Nat → Int32) × (Nat → Int32) × (Int32) × (Nat → Int32) × (Nat → Int64), z = (tpo, tco, tgo, twl, twk, tdb, tdn, tiv, tqs, twy, ttr, tak, tmx, tms, tgu, fa, ot) := ⟨_, rfl⟩
      refine xret_i u0 hc ?_ ?_ ⟨Nat.le_of_ble_eq_true rfl, Nat.le_of_ble_eq_true rfl⟩ dL_bestShepherd_17
      · subst hu0; dsimp only; exact hw
      · subst hu0; exact xe2 (yh3 (hpx.1.trans xcode_IS) (by decide) (if_neg (by decide)))
  refine lv_i2l hx hb dL_bestShepherd_7 rfl ?_
  refine xlast hc hw 20 [xO aX 3 [.ref aL, .ref aC, .ref aT], xO aC 0 [.ref aL, .ref aM, .int po, .int co, .int go, .ref aWy, .int wl, .ref aTr, .ref aAk, .int gu, .int wk, .int db, .int dn, .int iv, .int qs], xO aM 2 [.ref aMx, .ref aMs], xAI G aMx 100 mx, xAI G aMs 100 ms, xO aT 0 [.ref aL, .ref aN, .int u1.1, .int u1.2.1, .int u1.2.2.1, .ref bWy, .int u1.2.2.2.1, .ref bTr, .ref bAk, .int u1.2.2.2.2.2.2.2.2.2.2.2.2.2.2.1, .int u1.2.2.2.2.1, .int u1.2.2.2.2.2.1, .int u1.2.2.2.2.2.2.1, .int u1.2.2.2.2.2.2.2.1, .int u1.2.2.2.2.2.2.2.2.1], xAI G bWy 20 u1.2.2.2.2.2.2.2.2.2.1, xAZ G bTr 40 u1.2.2.2.2.2.2.2.2.2.2.1, xAZ G bAk 10 u1.2.2.2.2.2.2.2.2.2.2.2.1, xO aN 2 [.ref aNx, .ref aNs], xAI G aNx 100 u1.2.2.2.2.2.2.2.2.2.2.2.2.1, xAI G aNs 100 u1.2.2.2.2.2.2.2.2.2.2.2.2.2.1, xO aL 1 [.int pl, .ref aEx, .ref aSh, .ref aLd, .ref aTw, .ref aLe, .ref aOp, .ref aFa], xAI G aEx 10 ex, xAZ G aSh 10 sh, xAI G aLd 40 ld, xAI G aTw 40 tw, xAI G aLe 40 le, xAZ G aOp 40 op, xAI G aFa 10 u1.2.2.2.2.2.2.2.2.2.2.2.2.2.2.2, xAJ G aB 1 (vp_updL ot (0 : Int32).toNatClampNeg r2.toInt64)] rfl (xin ⟨by decide, by decide⟩) rfl dL_bestShepherd_8 (fun H locs hw => ?_)
  refine lv_goto (tgt := 18) hx hb dL_bestShepherd_9 (by decide) ?_
  refine lv_iconst (v := 0) hx hb dL_bestShepherd_18 (by decide) ?_
  obtain ⟨u0, hu0⟩ : ∃ z : (Int32) × (Int32) × (Int32) × (Int32) × (Int32) × (Int32) × (Int32) × (Int32) × (Int32) × (Nat → Int32) × (Nat → Int32) × (Nat → Int32) × (Nat → Int32) × (Nat → Int32) × (Int32) × (Nat → Int32) × (Nat → Int64), z = (u1.1, u1.2.1, u1.2.2.1, u1.2.2.2.1, u1.2.2.2.2.1, u1.2.2.2.2.2.1, u1.2.2.2.2.2.2.1, u1.2.2.2.2.2.2.2.1, u1.2.2.2.2.2.2.2.2.1, u1.2.2.2.2.2.2.2.2.2.1, u1.2.2.2.2.2.2.2.2.2.2.1, u1.2.2.2.2.2.2.2.2.2.2.2.1, u1.2.2.2.2.2.2.2.2.2.2.2.2.1, u1.2.2.2.2.2.2.2.2.2.2.2.2.2.1, u1.2.2.2.2.2.2.2.2.2.2.2.2.2.2.1, u1.2.2.2.2.2.2.2.2.2.2.2.2.2.2.2, vp_updL ot (0 : Int32).toNatClampNeg r2.toInt64) := ⟨_, rfl⟩
  refine xret_i u0 hc ?_ ?_ ⟨Nat.le_of_ble_eq_true rfl, Nat.le_of_ble_eq_true rfl⟩ dL_bestShepherd_19
  · subst hu0; dsimp only; exact hw
  · subst hu0; exact xe2 (yt3 hp3 rfl)
