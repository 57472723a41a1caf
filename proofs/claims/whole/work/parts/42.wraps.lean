def FL_addRoad (pl : Int32) (ex : Nat → Int32) (ld : Nat → Int32) (tw : Nat → Int32) (le : Nat → Int32) (op : Nat → Int32) (a : Int32) (b : Int32) (n : Int32) (ot : Nat → Int64) : Int32 × (Nat → Int32) × (Nat → Int32) × (Nat → Int32) × (Nat → Int32) × (Nat → Int32) × (Nat → Int64) :=
  yc3 (FX3_addRoad pl ex ld tw le op a b n) (fun k => if k = 1 then ((1, ex, ld, tw, le, op, ot)) else if k = 2 then ((2, ex, ld, tw, le, op, ot)) else ((3, ex, ld, tw, le, op, ot))) (fun r2 u1 => (0, u1.1, u1.2.1, u1.2.2.1, u1.2.2.2.1, u1.2.2.2.2, vp_updL ot (0 : Int32).toNatClampNeg r2.toInt64))
set_option maxHeartbeats 40000000 in
set_option maxRecDepth 100000 in
theorem metL_addRoad (l : Launch) (G : xG) (hst : l.stackTraces = false) (sz : Nat) (aX : Nat) (aL : Nat) (aC : Nat) (aT : Nat) (aEx : Nat) (aSh : Nat) (aLd : Nat) (aTw : Nat) (aLe : Nat) (aOp : Nat) (aFa : Nat) (aB : Nat) (pl : Int32) (ex : Nat → Int32) (ld : Nat → Int32) (tw : Nat → Int32) (le : Nat → Int32) (op : Nat → Int32) (a : Int32) (b : Int32) (n : Int32) (ot : Nat → Int64) (hpl : 0 ≤ pl.toInt ∧ pl.toInt ≤ 10) (hex4 : ∀ k, k < 10 → 0 ≤ (ex k).toInt ∧ (ex k).toInt ≤ 4) : xM l yL_addRoad wsL_addRoad ⟨8, 4, 24, 127⟩ G [.ref aX, .int a, .int b, .int n, .ref aB] [xO aX 3 [.ref aL, .ref aC, .ref aT], xO aL 1 [.int pl, .ref aEx, .ref aSh, .ref aLd, .ref aTw, .ref aLe, .ref aOp, .ref aFa], xAI G aEx 10 ex, xAI G aLd 40 ld, xAI G aTw 40 tw, xAI G aLe 40 le, xAZ G aOp 40 op, xAJ G aB 1 ot] sz (xQi G [xO aX 3 [.ref aL, .ref aC, .ref aT], xO aL 1 [.int pl, .ref aEx, .ref aSh, .ref aLd, .ref aTw, .ref aLe, .ref aOp, .ref aFa], xAI G aEx 10 ex, xAI G aLd 40 ld, xAI G aTw 40 tw, xAI G aLe 40 le, xAZ G aOp 40 op, xAJ G aB 1 ot] sz (fun (r : Int32) (u : (Nat → Int32) × (Nat → Int32) × (Nat → Int32) × (Nat → Int32) × (Nat → Int32) × (Nat → Int64)) => r = (FL_addRoad pl ex ld tw le op a b n ot).1 ∧ u = (FL_addRoad pl ex ld tw le op a b n ot).2) (fun u : (Nat → Int32) × (Nat → Int32) × (Nat → Int32) × (Nat → Int32) × (Nat → Int32) × (Nat → Int64) => [xO aX 3 [.ref aL, .ref aC, .ref aT], xO aL 1 [.int pl, .ref aEx, .ref aSh, .ref aLd, .ref aTw, .ref aLe, .ref aOp, .ref aFa], xAI G aEx 10 u.1, xAI G aLd 40 u.2.1, xAI G aTw 40 u.2.2.1, xAI G aLe 40 u.2.2.2.1, xAZ G aOp 40 u.2.2.2.2.1, xAJ G aB 1 u.2.2.2.2.2])) := by
  refine xofW (own := RL) (cc := cL_addRoad) (maxL := 6) (ret := (some .int)) (hh := [(0, 12, 15, 19), (0, 12, 19, 21), (0, 12, 23, 13)]) rfl (by decide) rfl (Nat.le_of_ble_eq_true rfl) ?_
  intro pg en s mi below meth cd hc ht hw ls hl
  obtain ⟨hx, hb, -, hown, hts, -⟩ := id hc
  have hl : lv_has ls 6 [(0, .ref aX), (1, .int a), (2, .int b), (3, .int n), (4, .ref aB)] := hl
  refine lv_aload hx hb dL_addRoad_0 (lv_at hl 4 rfl) ?_
  refine lv_iconst (v := 0) hx hb dL_addRoad_2 (by decide) ?_
  refine lv_aload_n hx hb dL_addRoad_3 rfl (lv_at hl 0 rfl) ?_
  refine lv_iload_n hx hb dL_addRoad_4 rfl (lv_at hl 1 rfl) ?_
  refine lv_iload_n hx hb dL_addRoad_5 rfl (lv_at hl 2 rfl) ?_
  refine lv_iload_n hx hb dL_addRoad_6 rfl (lv_at hl 3 rfl) ?_
  refine xcallX_i (isC := [0, 1, 2, 3, 4, 5, 6]) hc hw (xrunVX (n := 3) (As := [.int a, .int b, .int n]) (rest := [.int 0, .ref aB]) hc hw [0, 1, 2, 3, 4, 5, 6] (metX3_addRoad l G hst _ aX aL aC aT aEx aSh aLd aTw aLe aOp aFa pl ex ld tw le op a b n hpl hex4) gL_addRoad_X3_addRoad rfl (by decide +kernel) ⟨Nat.le_of_ble_eq_true rfl, Nat.le_of_ble_eq_true rfl⟩ 0 rfl rfl rfl rfl rfl rfl hl.1 (Nat.le_of_ble_eq_true rfl) dL_addRoad_7 ⟨Nat.le_of_ble_eq_true rfl, Nat.le_of_ble_eq_true rfl⟩) rfl [7] [1, 2, 3, 4, 5, 6, 7, 0] [1, 2, 3, 4, 5, 6, 7, 0] (fun u1 => [xO aX 3 [.ref aL, .ref aC, .ref aT], xO aL 1 [.int pl, .ref aEx, .ref aSh, .ref aLd, .ref aTw, .ref aLe, .ref aOp, .ref aFa], xAI G aEx 10 u1.1, xAI G aLd 40 u1.2.1, xAI G aTw 40 u1.2.2.1, xAI G aLe 40 u1.2.2.2.1, xAZ G aOp 40 u1.2.2.2.2, xAJ G aB 1 ot]) (fun _ => rfl) rfl rfl rfl rfl rfl rfl (fun E ce q9 H locs hpx hw h9 hv9 hc9 => ?_) (fun r2 u1 H locs hp3 hw => ?_)
  · rcases ycase hpx.2 with hE | hE | hE
    · subst hE
      refine ycatch (own := RL) (nms := []) hc [] ⟨0, 12, 15, 19⟩ [⟨0, 12, 19, 21⟩, ⟨0, 12, 23, 13⟩] ht rfl rfl (by intro z hz; cases hz) (by intro z hz; cases hz) rfl (by decide) lkL_addRoad_c19 (by decide +kernel) h9 hv9 hc9 ?_
      refine lv_astore (lv' := [(5, .ref q9), (0, .ref aX), (1, .int a), (2, .int b), (3, .int n), (4, .ref aB)]) hx hb dL_addRoad_15 hl (by decide) rfl (fun ls hl => ?_)
      refine lv_iconst (v := 1) hx hb dL_addRoad_17 (by decide) ?_
      obtain ⟨u0, hu0⟩ : ∃ z : (Nat → Int32) × (Nat → Int32) × (Nat → Int32) × (Nat → Int32) × (Nat → Int32) × (Nat → Int64), z = (ex, ld, tw, le, op, ot) := ⟨_, rfl⟩
      refine xret_i u0 hc ?_ ?_ ⟨Nat.le_of_ble_eq_true rfl, Nat.le_of_ble_eq_true rfl⟩ dL_addRoad_18
      · subst hu0; dsimp only; exact hw
      · subst hu0; exact xe2 (yh3 (hpx.1.trans xcode_IO) (by decide) (if_pos rfl))
    · subst hE
      refine ycatch (own := RL) (nms := [(19, xIO)]) hc [⟨0, 12, 15, 19⟩] ⟨0, 12, 19, 21⟩ [⟨0, 12, 23, 13⟩] ht rfl rfl (by intro z hz; cases hz with | head => exact lkL_addRoad_c19 | tail _ hz => (cases hz)) (by intro z hz; cases hz with | head => exact (by decide +kernel) | tail _ hz => (cases hz)) rfl (by decide) lkL_addRoad_c21 (by decide +kernel) h9 hv9 hc9 ?_
      refine lv_astore (lv' := [(5, .ref q9), (0, .ref aX), (1, .int a), (2, .int b), (3, .int n), (4, .ref aB)]) hx hb dL_addRoad_19 hl (by decide) rfl (fun ls hl => ?_)
      refine lv_iconst (v := 2) hx hb dL_addRoad_21 (by decide) ?_
      obtain ⟨u0, hu0⟩ : ∃ z : (Nat → Int32) × (Nat → Int32) × (Nat → Int32) × (Nat → Int32) × (Nat → Int32) × (Nat → Int64), z = (ex, ld, tw, le, op, ot) := ⟨_, rfl⟩
      refine xret_i u0 hc ?_ ?_ ⟨Nat.le_of_ble_eq_true rfl, Nat.le_of_ble_eq_true rfl⟩ dL_addRoad_22
      · subst hu0; dsimp only; exact hw
      · subst hu0; exact xe2 (yh3 (hpx.1.trans xcode_IA) (by decide) (Eq.trans (if_neg (by decide)) (if_pos rfl)))
    · subst hE
      refine ycatch (own := RL) (nms := [(19, xIO), (21, xIA)]) hc [⟨0, 12, 15, 19⟩, ⟨0, 12, 19, 21⟩] ⟨0, 12, 23, 13⟩ [] ht rfl rfl (by intro z hz; cases hz with | head => exact lkL_addRoad_c19 | tail _ hz => (cases hz with | head => exact lkL_addRoad_c21 | tail _ hz => (cases hz))) (by intro z hz; cases hz with | head => exact (by decide +kernel) | tail _ hz => (cases hz with | head => exact (by decide +kernel) | tail _ hz => (cases hz))) rfl (by decide) lkL_addRoad_c13 (by decide +kernel) h9 hv9 hc9 ?_
      refine lv_astore (lv' := [(5, .ref q9), (0, .ref aX), (1, .int a), (2, .int b), (3, .int n), (4, .ref aB)]) hx hb dL_addRoad_23 hl (by decide) rfl (fun ls hl => ?_)
      refine lv_iconst (v := 3) hx hb dL_addRoad_25 (by decide) ?_
      obtain ⟨u0, hu0⟩ : ∃ z : (Nat → Int32) × (Nat → Int32) × (Nat → Int32) × (Nat → Int32) × (Nat → Int32) × (Nat → Int64), z = (ex, ld, tw, le, op, ot) := ⟨_, rfl⟩
      refine xret_i u0 hc ?_ ?_ ⟨Nat.le_of_ble_eq_true rfl, Nat.le_of_ble_eq_true rfl⟩ dL_addRoad_26
      · subst hu0; dsimp only; exact hw
      · subst hu0; exact xe2 (yh3 (hpx.1.trans xcode_IS) (by decide) (Eq.trans (if_neg (by decide)) (if_neg (by decide))))
  refine lv_i2l hx hb dL_addRoad_10 rfl ?_
  refine xlast hc hw 7 [xO aX 3 [.ref aL, .ref aC, .ref aT], xO aL 1 [.int pl, .ref aEx, .ref aSh, .ref aLd, .ref aTw, .ref aLe, .ref aOp, .ref aFa], xAI G aEx 10 u1.1, xAI G aLd 40 u1.2.1, xAI G aTw 40 u1.2.2.1, xAI G aLe 40 u1.2.2.2.1, xAZ G aOp 40 u1.2.2.2.2, xAJ G aB 1 (vp_updL ot (0 : Int32).toNatClampNeg r2.toInt64)] rfl (xin ⟨by decide, by decide⟩) rfl dL_addRoad_11 (fun H locs hw => ?_)
  refine lv_goto (tgt := 27) hx hb dL_addRoad_12 (by decide) ?_
  refine lv_iconst (v := 0) hx hb dL_addRoad_27 (by decide) ?_
  obtain ⟨u0, hu0⟩ : ∃ z : (Nat → Int32) × (Nat → Int32) × (Nat → Int32) × (Nat → Int32) × (Nat → Int32) × (Nat → Int64), z = (u1.1, u1.2.1, u1.2.2.1, u1.2.2.2.1, u1.2.2.2.2, vp_updL ot (0 : Int32).toNatClampNeg r2.toInt64) := ⟨_, rfl⟩
  refine xret_i u0 hc ?_ ?_ ⟨Nat.le_of_ble_eq_true rfl, Nat.le_of_ble_eq_true rfl⟩ dL_addRoad_28
  · subst hu0; dsimp only; exact hw
  · subst hu0; exact xe2 (yt3 hp3 rfl)
