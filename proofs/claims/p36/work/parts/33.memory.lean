def FX2_spotOf (g : Int32) (q : Int32) : Int32 :=
  if g < 0 then ((-1)) else (if 10 ≤ g then ((-1)) else (if q < 0 then ((-1)) else (if 10 ≤ q then ((-1)) else ((g * 10) + q))))
set_option maxHeartbeats 40000000 in
set_option maxRecDepth 100000 in
theorem metX2_spotOf (l : Launch) (G : xG) (sz : Nat) (g : Int32) (q : Int32) : xM l yX2_spotOf wsX2_spotOf ⟨0, 0, 0, 0⟩ G [.int g, .int q] [] sz (xQi G [] sz (fun (r : Int32) (_ : Unit) => r = FX2_spotOf g q) (fun u : Unit => [])) := by
  refine xof (own := RX2) (cc := cX2_spotOf) (maxL := 3) (ret := (some .int)) rfl (by decide) rfl (Nat.le_of_ble_eq_true rfl) ?_
  intro pg en s mi below meth cd hc hnm hw ls hl
  obtain ⟨hx, hb, -, hown, hts, -⟩ := id hc
  have hl : lv_has ls 3 [(0, .int g), (1, .int q)] := hl
  refine lv_iload_n hx hb dX2_spotOf_0 rfl (lv_at hl 0 rfl) ?_
  refine lv_if_lt (tgt := 24) hx hb dX2_spotOf_1 (by decide) (fun c_1 => ?_) (fun c_1 => ?_)
  · refine lv_iconst (v := 0) hx hb dX2_spotOf_24 (by decide) ?_
    refine lv_istore_n (lv' := [(2, .int 0), (0, .int g), (1, .int q)]) hx hb dX2_spotOf_25 rfl hl (by decide) rfl (fun ls hl => ?_)
    refine lv_iload_n hx hb dX2_spotOf_26 rfl (lv_at hl 0 rfl) ?_
    refine lv_if_eq (tgt := 39) hx hb dX2_spotOf_27 (by decide) (fun _ => ?_) (fun h => absurd h (by decide))
    refine lv_iconst (v := (-1)) hx hb dX2_spotOf_39 (by decide) ?_
    exact xret_i () hc hw (Eq.symm (if_pos c_1)) ⟨Nat.le_of_ble_eq_true rfl, Nat.le_of_ble_eq_true rfl⟩ dX2_spotOf_40
  · refine lv_iload_n hx hb dX2_spotOf_4 rfl (lv_at hl 0 rfl) ?_
    refine lv_bipush (v := 10) hx hb dX2_spotOf_5 (by decide) ?_
    refine lv_icmp_ge (tgt := 24) hx hb dX2_spotOf_7 (by decide) (fun c_2 => ?_) (fun c_2 => ?_)
    · refine lv_iconst (v := 0) hx hb dX2_spotOf_24 (by decide) ?_
      refine lv_istore_n (lv' := [(2, .int 0), (0, .int g), (1, .int q)]) hx hb dX2_spotOf_25 rfl hl (by decide) rfl (fun ls hl => ?_)
      refine lv_iload_n hx hb dX2_spotOf_26 rfl (lv_at hl 0 rfl) ?_
      refine lv_if_eq (tgt := 39) hx hb dX2_spotOf_27 (by decide) (fun _ => ?_) (fun h => absurd h (by decide))
      refine lv_iconst (v := (-1)) hx hb dX2_spotOf_39 (by decide) ?_
      exact xret_i () hc hw (Eq.symm (Eq.trans (if_neg c_1) (if_pos c_2))) ⟨Nat.le_of_ble_eq_true rfl, Nat.le_of_ble_eq_true rfl⟩ dX2_spotOf_40
    · refine lv_iload_n hx hb dX2_spotOf_10 rfl (lv_at hl 1 rfl) ?_
      refine lv_if_lt (tgt := 24) hx hb dX2_spotOf_11 (by decide) (fun c_3 => ?_) (fun c_3 => ?_)
      · refine lv_iconst (v := 0) hx hb dX2_spotOf_24 (by decide) ?_
        refine lv_istore_n (lv' := [(2, .int 0), (0, .int g), (1, .int q)]) hx hb dX2_spotOf_25 rfl hl (by decide) rfl (fun ls hl => ?_)
        refine lv_iload_n hx hb dX2_spotOf_26 rfl (lv_at hl 0 rfl) ?_
        refine lv_if_eq (tgt := 39) hx hb dX2_spotOf_27 (by decide) (fun _ => ?_) (fun h => absurd h (by decide))
        refine lv_iconst (v := (-1)) hx hb dX2_spotOf_39 (by decide) ?_
        exact xret_i () hc hw (Eq.symm (Eq.trans (if_neg c_1) (Eq.trans (if_neg c_2) (if_pos c_3)))) ⟨Nat.le_of_ble_eq_true rfl, Nat.le_of_ble_eq_true rfl⟩ dX2_spotOf_40
      · refine lv_iload_n hx hb dX2_spotOf_14 rfl (lv_at hl 1 rfl) ?_
        refine lv_bipush (v := 10) hx hb dX2_spotOf_15 (by decide) ?_
        refine lv_icmp_ge (tgt := 24) hx hb dX2_spotOf_17 (by decide) (fun c_4 => ?_) (fun c_4 => ?_)
        · refine lv_iconst (v := 0) hx hb dX2_spotOf_24 (by decide) ?_
          refine lv_istore_n (lv' := [(2, .int 0), (0, .int g), (1, .int q)]) hx hb dX2_spotOf_25 rfl hl (by decide) rfl (fun ls hl => ?_)
          refine lv_iload_n hx hb dX2_spotOf_26 rfl (lv_at hl 0 rfl) ?_
          refine lv_if_eq (tgt := 39) hx hb dX2_spotOf_27 (by decide) (fun _ => ?_) (fun h => absurd h (by decide))
          refine lv_iconst (v := (-1)) hx hb dX2_spotOf_39 (by decide) ?_
          exact xret_i () hc hw (Eq.symm (Eq.trans (if_neg c_1) (Eq.trans (if_neg c_2) (Eq.trans (if_neg c_3) (if_pos c_4))))) ⟨Nat.le_of_ble_eq_true rfl, Nat.le_of_ble_eq_true rfl⟩ dX2_spotOf_40
        · refine lv_iconst (v := 1) hx hb dX2_spotOf_20 (by decide) ?_
          refine lv_goto (tgt := 25) hx hb dX2_spotOf_21 (by decide) ?_
          refine lv_istore_n (lv' := [(2, .int 1), (0, .int g), (1, .int q)]) hx hb dX2_spotOf_25 rfl hl (by decide) rfl (fun ls hl => ?_)
          refine lv_iload_n hx hb dX2_spotOf_26 rfl (lv_at hl 0 rfl) ?_
          refine lv_if_eq (tgt := 39) hx hb dX2_spotOf_27 (by decide) (fun h => absurd h (by decide)) (fun _ => ?_)
          refine lv_iload_n hx hb dX2_spotOf_30 rfl (lv_at hl 1 rfl) ?_
          refine lv_bipush (v := 10) hx hb dX2_spotOf_31 (by decide) ?_
          refine lv_imul hx hb dX2_spotOf_33 ?_
          refine lv_iload_n hx hb dX2_spotOf_34 rfl (lv_at hl 2 rfl) ?_
          refine lv_iadd hx hb dX2_spotOf_35 ?_
          refine lv_goto (tgt := 40) hx hb dX2_spotOf_36 (by decide) ?_
          exact xret_i () hc hw (Eq.symm (Eq.trans (if_neg c_1) (Eq.trans (if_neg c_2) (Eq.trans (if_neg c_3) (if_neg c_4))))) ⟨Nat.le_of_ble_eq_true rfl, Nat.le_of_ble_eq_true rfl⟩ dX2_spotOf_40
theorem xm10 {g q : Int32} (hg : 0 ≤ g.toInt ∧ g.toInt < 10) (hq : 0 ≤ q.toInt ∧ q.toInt < 10) : (g * 10 + q).toInt = g.toInt * 10 + q.toInt := by
  obtain ⟨j, h1, h2, h3⟩ := xofI hg.1
  obtain ⟨k, k1, k2, k3⟩ := xofI hq.1
  rw [h2, k2, show (10 : Int32) = nI 10 from rfl, pk_mul, nI_add, nI_toInt (by omega), nI_toInt (by omega), nI_toInt (by omega)]
  omega
theorem pX2_spotOf {g q r : Int32} (h : r = FX2_spotOf g q) (c : ¬ r = (-1)) : 0 ≤ r.toInt ∧ r.toInt < 100 := by
  subst h
  unfold FX2_spotOf at c ⊢
  split at c
  · exact absurd rfl c
  · rename_i h1
    rw [if_neg h1]
    split at c
    · exact absurd rfl c
    · rename_i h2
      rw [if_neg h2]
      split at c
      · exact absurd rfl c
      · rename_i h3
        rw [if_neg h3]
        split at c
        · exact absurd rfl c
        · rename_i h4
          rw [if_neg h4]
          rw [xltI] at h1 h3; rw [xle] at h2 h4
          have e1 : (0 : Int32).toInt = 0 := rfl
          have e2 : (10 : Int32).toInt = 10 := rfl
          rw [xm10 (by omega) (by omega)]
          omega
def FX2_exitFor (mx : Nat → Int32) (ms : Nat → Int32) (g : Int32) (q : Int32) : Int32 :=
  xbind (FX2_spotOf g q) (fun r2 => if r2 = (-1) then ((-1)) else (if (ms r2.toNatClampNeg) ≤ 0 then ((-1)) else (mx r2.toNatClampNeg)))
set_option maxHeartbeats 40000000 in
set_option maxRecDepth 100000 in
theorem metX2_exitFor (l : Launch) (G : xG) (sz : Nat) (aM : Nat) (aMx : Nat) (aMs : Nat) (mx : Nat → Int32) (ms : Nat → Int32) (g : Int32) (q : Int32) : xM l yX2_exitFor wsX2_exitFor ⟨1, 0, 0, 22⟩ G [.ref aM, .int g, .int q] [xO aM 2 [.ref aMx, .ref aMs], xAI G aMx 100 mx, xAI G aMs 100 ms] sz (xQi G [xO aM 2 [.ref aMx, .ref aMs], xAI G aMx 100 mx, xAI G aMs 100 ms] sz (fun (r : Int32) (_ : Unit) => r = FX2_exitFor mx ms g q) (fun u : Unit => [xO aM 2 [.ref aMx, .ref aMs], xAI G aMx 100 mx, xAI G aMs 100 ms])) := by
  refine xof (own := RX2) (cc := cX2_exitFor) (maxL := 4) (ret := (some .int)) rfl (by decide) rfl (Nat.le_of_ble_eq_true rfl) ?_
  intro pg en s mi below meth cd hc hnm hw ls hl
  obtain ⟨hx, hb, -, hown, hts, -⟩ := id hc
  have hl : lv_has ls 4 [(0, .ref aM), (1, .int g), (2, .int q)] := hl
  refine lv_iload_n hx hb dX2_exitFor_0 rfl (lv_at hl 1 rfl) ?_
  refine lv_iload_n hx hb dX2_exitFor_1 rfl (lv_at hl 2 rfl) ?_
  refine xcall_i (isC := []) hc hw (xrunS (n := 2) (As := [.int g, .int q]) (rest := []) hc hw [] (metX2_spotOf l G _ g q) gX2_exitFor_X2_spotOf rfl (by decide +kernel) ⟨Nat.le_of_ble_eq_true rfl, Nat.le_of_ble_eq_true rfl⟩ rfl rfl rfl rfl hl.1 (Nat.le_of_ble_eq_true rfl) dX2_exitFor_2 ⟨Nat.le_of_ble_eq_true rfl, Nat.le_of_ble_eq_true rfl⟩) rfl [0, 1, 2] [0, 1, 2] (fun u1 => [xO aM 2 [.ref aMx, .ref aMs], xAI G aMx 100 mx, xAI G aMs 100 ms]) (fun _ => rfl) rfl rfl rfl rfl (fun r2 u1 H locs hp3 hw => ?_)
  refine lv_istore_n (lv' := [(3, .int r2), (0, .ref aM), (1, .int g), (2, .int q)]) hx hb dX2_exitFor_5 rfl hl (by decide) rfl (fun ls hl => ?_)
  refine lv_iload_n hx hb dX2_exitFor_6 rfl (lv_at hl 0 rfl) ?_
  refine lv_iconst (v := (-1)) hx hb dX2_exitFor_7 (by decide) ?_
  refine lv_icmp_eq (tgt := 29) hx hb dX2_exitFor_8 (by decide) (fun c_5 => ?_) (fun c_5 => ?_)
  · refine lv_iconst (v := (-1)) hx hb dX2_exitFor_29 (by decide) ?_
    exact xret_i () hc hw (Eq.symm (xb hp3 (if_pos c_5))) ⟨Nat.le_of_ble_eq_true rfl, Nat.le_of_ble_eq_true rfl⟩ dX2_exitFor_30
  · refine lv_aload_n hx hb dX2_exitFor_11 rfl (lv_at hl 1 rfl) ?_
    refine xget (C := RX2) (T := TX2) (N := 2) hc hw inX2_exitFor_X2 0 rfl rfl 1 (by decide) lkX2_exitFor_f15 rfl rfl dX2_exitFor_12 ?_
    refine lv_iload_n hx hb dX2_exitFor_15 rfl (lv_at hl 0 rfl) ?_
    refine xiald hc hw 2 rfl (xin (pX2_spotOf hp3 c_5)) dX2_exitFor_16 ?_
    refine lv_if_le (tgt := 29) hx hb dX2_exitFor_17 (by decide) (fun c_6 => ?_) (fun c_6 => ?_)
    · refine lv_iconst (v := (-1)) hx hb dX2_exitFor_29 (by decide) ?_
      exact xret_i () hc hw (Eq.symm (xb hp3 (Eq.trans (if_neg c_5) (if_pos c_6)))) ⟨Nat.le_of_ble_eq_true rfl, Nat.le_of_ble_eq_true rfl⟩ dX2_exitFor_30
    · refine lv_aload_n hx hb dX2_exitFor_20 rfl (lv_at hl 1 rfl) ?_
      refine xget (C := RX2) (T := TX2) (N := 2) hc hw inX2_exitFor_X2 0 rfl rfl 0 (by decide) lkX2_exitFor_f9 rfl rfl dX2_exitFor_21 ?_
      refine lv_iload_n hx hb dX2_exitFor_24 rfl (lv_at hl 0 rfl) ?_
      refine xiald hc hw 1 rfl (xin (pX2_spotOf hp3 c_5)) dX2_exitFor_25 ?_
      refine lv_goto (tgt := 30) hx hb dX2_exitFor_26 (by decide) ?_
      exact xret_i () hc hw (Eq.symm (xb hp3 (Eq.trans (if_neg c_5) (if_neg c_6)))) ⟨Nat.le_of_ble_eq_true rfl, Nat.le_of_ble_eq_true rfl⟩ dX2_exitFor_30
def FX2_strengthFor (ms : Nat → Int32) (g : Int32) (q : Int32) : Int32 :=
  xbind (FX2_spotOf g q) (fun r2 => if r2 = (-1) then (0) else (ms r2.toNatClampNeg))
set_option maxHeartbeats 40000000 in
set_option maxRecDepth 100000 in
theorem metX2_strengthFor (l : Launch) (G : xG) (sz : Nat) (aM : Nat) (aMx : Nat) (aMs : Nat) (ms : Nat → Int32) (g : Int32) (q : Int32) : xM l yX2_strengthFor wsX2_strengthFor ⟨1, 0, 0, 22⟩ G [.ref aM, .int g, .int q] [xO aM 2 [.ref aMx, .ref aMs], xAI G aMs 100 ms] sz (xQi G [xO aM 2 [.ref aMx, .ref aMs], xAI G aMs 100 ms] sz (fun (r : Int32) (_ : Unit) => r = FX2_strengthFor ms g q) (fun u : Unit => [xO aM 2 [.ref aMx, .ref aMs], xAI G aMs 100 ms])) := by
  refine xof (own := RX2) (cc := cX2_strengthFor) (maxL := 4) (ret := (some .int)) rfl (by decide) rfl (Nat.le_of_ble_eq_true rfl) ?_
  intro pg en s mi below meth cd hc hnm hw ls hl
  obtain ⟨hx, hb, -, hown, hts, -⟩ := id hc
  have hl : lv_has ls 4 [(0, .ref aM), (1, .int g), (2, .int q)] := hl
  refine lv_iload_n hx hb dX2_strengthFor_0 rfl (lv_at hl 1 rfl) ?_
  refine lv_iload_n hx hb dX2_strengthFor_1 rfl (lv_at hl 2 rfl) ?_
  refine xcall_i (isC := []) hc hw (xrunS (n := 2) (As := [.int g, .int q]) (rest := []) hc hw [] (metX2_spotOf l G _ g q) gX2_strengthFor_X2_spotOf rfl (by decide +kernel) ⟨Nat.le_of_ble_eq_true rfl, Nat.le_of_ble_eq_true rfl⟩ rfl rfl rfl rfl hl.1 (Nat.le_of_ble_eq_true rfl) dX2_strengthFor_2 ⟨Nat.le_of_ble_eq_true rfl, Nat.le_of_ble_eq_true rfl⟩) rfl [0, 1] [0, 1] (fun u1 => [xO aM 2 [.ref aMx, .ref aMs], xAI G aMs 100 ms]) (fun _ => rfl) rfl rfl rfl rfl (fun r2 u1 H locs hp3 hw => ?_)
  refine lv_istore_n (lv' := [(3, .int r2), (0, .ref aM), (1, .int g), (2, .int q)]) hx hb dX2_strengthFor_5 rfl hl (by decide) rfl (fun ls hl => ?_)
  refine lv_iload_n hx hb dX2_strengthFor_6 rfl (lv_at hl 0 rfl) ?_
  refine lv_iconst (v := (-1)) hx hb dX2_strengthFor_7 (by decide) ?_
  refine lv_icmp_eq (tgt := 20) hx hb dX2_strengthFor_8 (by decide) (fun c_5 => ?_) (fun c_5 => ?_)
  · refine lv_iconst (v := 0) hx hb dX2_strengthFor_20 (by decide) ?_
    exact xret_i () hc hw (Eq.symm (xb hp3 (if_pos c_5))) ⟨Nat.le_of_ble_eq_true rfl, Nat.le_of_ble_eq_true rfl⟩ dX2_strengthFor_21
  · refine lv_aload_n hx hb dX2_strengthFor_11 rfl (lv_at hl 1 rfl) ?_
    refine xget (C := RX2) (T := TX2) (N := 2) hc hw inX2_strengthFor_X2 0 rfl rfl 1 (by decide) lkX2_strengthFor_f15 rfl rfl dX2_strengthFor_12 ?_
    refine lv_iload_n hx hb dX2_strengthFor_15 rfl (lv_at hl 0 rfl) ?_
    refine xiald hc hw 1 rfl (xin (pX2_spotOf hp3 c_5)) dX2_strengthFor_16 ?_
    refine lv_goto (tgt := 21) hx hb dX2_strengthFor_17 (by decide) ?_
    exact xret_i () hc hw (Eq.symm (xb hp3 (if_neg c_5))) ⟨Nat.le_of_ble_eq_true rfl, Nat.le_of_ble_eq_true rfl⟩ dX2_strengthFor_21
def FX2_learn (mx : Nat → Int32) (ms : Nat → Int32) (g : Int32) (q : Int32) (x : Int32) : (Nat → Int32) × (Nat → Int32) :=
  xbind (FX2_spotOf g q) (fun r2 => if r2 = (-1) then ((mx, ms)) else ((upd mx r2.toNatClampNeg x, upd ms r2.toNatClampNeg 3)))
set_option maxHeartbeats 40000000 in
set_option maxRecDepth 100000 in
theorem metX2_learn (l : Launch) (G : xG) (sz : Nat) (aM : Nat) (aMx : Nat) (aMs : Nat) (mx : Nat → Int32) (ms : Nat → Int32) (g : Int32) (q : Int32) (x : Int32) : xM l yX2_learn wsX2_learn ⟨1, 0, 0, 22⟩ G [.ref aM, .int g, .int q, .int x] [xO aM 2 [.ref aMx, .ref aMs], xAI G aMx 100 mx, xAI G aMs 100 ms] sz (xQv G [xO aM 2 [.ref aMx, .ref aMs], xAI G aMx 100 mx, xAI G aMs 100 ms] sz (fun (u : (Nat → Int32) × (Nat → Int32)) => u = FX2_learn mx ms g q x) (fun u : (Nat → Int32) × (Nat → Int32) => [xO aM 2 [.ref aMx, .ref aMs], xAI G aMx 100 u.1, xAI G aMs 100 u.2])) := by
  refine xof (own := RX2) (cc := cX2_learn) (maxL := 5) (ret := none) rfl (by decide) rfl (Nat.le_of_ble_eq_true rfl) ?_
  intro pg en s mi below meth cd hc hnm hw ls hl
  obtain ⟨hx, hb, -, hown, hts, -⟩ := id hc
  have hl : lv_has ls 5 [(0, .ref aM), (1, .int g), (2, .int q), (3, .int x)] := hl
  refine lv_iload_n hx hb dX2_learn_0 rfl (lv_at hl 1 rfl) ?_
  refine lv_iload_n hx hb dX2_learn_1 rfl (lv_at hl 2 rfl) ?_
  refine xcall_i (isC := []) hc hw (xrunS (n := 2) (As := [.int g, .int q]) (rest := []) hc hw [] (metX2_spotOf l G _ g q) gX2_learn_X2_spotOf rfl (by decide +kernel) ⟨Nat.le_of_ble_eq_true rfl, Nat.le_of_ble_eq_true rfl⟩ rfl rfl rfl rfl hl.1 (Nat.le_of_ble_eq_true rfl) dX2_learn_2 ⟨Nat.le_of_ble_eq_true rfl, Nat.le_of_ble_eq_true rfl⟩) rfl [0, 1, 2] [0, 1, 2] (fun u1 => [xO aM 2 [.ref aMx, .ref aMs], xAI G aMx 100 mx, xAI G aMs 100 ms]) (fun _ => rfl) rfl rfl rfl rfl (fun r2 u1 H locs hp3 hw => ?_)
  refine lv_istore (lv' := [(4, .int r2), (0, .ref aM), (1, .int g), (2, .int q), (3, .int x)]) hx hb dX2_learn_5 hl (by decide) rfl (fun ls hl => ?_)
  refine lv_iload hx hb dX2_learn_7 (lv_at hl 0 rfl) ?_
  refine lv_iconst (v := (-1)) hx hb dX2_learn_9 (by decide) ?_
  refine lv_icmp_eq (tgt := 29) hx hb dX2_learn_10 (by decide) (fun c_5 => ?_) (fun c_5 => ?_)
  · obtain ⟨u0, hu0⟩ : ∃ z : (Nat → Int32) × (Nat → Int32), z = (mx, ms) := ⟨_, rfl⟩
    refine xret_v u0 hc ?_ ?_ ⟨Nat.le_of_ble_eq_true rfl, Nat.le_of_ble_eq_true rfl⟩ dX2_learn_29
    · subst hu0; dsimp only; exact hw
    · subst hu0; exact Eq.symm (xb hp3 (if_pos c_5))
  · refine lv_aload_n hx hb dX2_learn_13 rfl (lv_at hl 1 rfl) ?_
    refine xget (C := RX2) (T := TX2) (N := 2) hc hw inX2_learn_X2 0 rfl rfl 0 (by decide) lkX2_learn_f9 rfl rfl dX2_learn_14 ?_
    refine lv_iload hx hb dX2_learn_17 (lv_at hl 0 rfl) ?_
    refine lv_iload_n hx hb dX2_learn_19 rfl (lv_at hl 4 rfl) ?_
    refine xiast hc hw 1 [xO aM 2 [.ref aMx, .ref aMs], xAI G aMx 100 (upd mx r2.toNatClampNeg x), xAI G aMs 100 ms] rfl (xin (pX2_spotOf hp3 c_5)) rfl dX2_learn_20 (fun H locs hw => ?_)
    refine lv_aload_n hx hb dX2_learn_21 rfl (lv_at hl 1 rfl) ?_
    refine xget (C := RX2) (T := TX2) (N := 2) hc hw inX2_learn_X2 0 rfl rfl 1 (by decide) lkX2_learn_f15 rfl rfl dX2_learn_22 ?_
    refine lv_iload hx hb dX2_learn_25 (lv_at hl 0 rfl) ?_
    refine lv_iconst (v := 3) hx hb dX2_learn_27 (by decide) ?_
    refine xiast hc hw 2 [xO aM 2 [.ref aMx, .ref aMs], xAI G aMx 100 (upd mx r2.toNatClampNeg x), xAI G aMs 100 (upd ms r2.toNatClampNeg 3)] rfl (xin (pX2_spotOf hp3 c_5)) rfl dX2_learn_28 (fun H locs hw => ?_)
    obtain ⟨u0, hu0⟩ : ∃ z : (Nat → Int32) × (Nat → Int32), z = (upd mx r2.toNatClampNeg x, upd ms r2.toNatClampNeg 3) := ⟨_, rfl⟩
    refine xret_v u0 hc ?_ ?_ ⟨Nat.le_of_ble_eq_true rfl, Nat.le_of_ble_eq_true rfl⟩ dX2_learn_29
    · subst hu0; dsimp only; exact hw
    · subst hu0; exact Eq.symm (xb hp3 (if_neg c_5))
def FX2_confirm (mx : Nat → Int32) (ms : Nat → Int32) (g : Int32) (q : Int32) (x : Int32) : (Nat → Int32) × (Nat → Int32) :=
  xbind (FX2_spotOf g q) (fun r2 => if r2 = (-1) then (xbind (FX2_learn mx ms g q x) (fun u6 => (u6.1, u6.2))) else (if (ms r2.toNatClampNeg) ≤ 0 then (xbind (FX2_learn mx ms g q x) (fun u11 => (u11.1, u11.2))) else (if (mx r2.toNatClampNeg) = x then ((mx, upd ms r2.toNatClampNeg (if (ms r2.toNatClampNeg) + 3 < 9 then (ms r2.toNatClampNeg) + 3 else 9))) else (xbind (FX2_learn mx ms g q x) (fun u16 => (u16.1, u16.2))))))
set_option maxHeartbeats 40000000 in
set_option maxRecDepth 100000 in
theorem metX2_confirm (l : Launch) (G : xG) (sz : Nat) (aM : Nat) (aMx : Nat) (aMs : Nat) (mx : Nat → Int32) (ms : Nat → Int32) (g : Int32) (q : Int32) (x : Int32) : xM l yX2_confirm wsX2_confirm ⟨2, 0, 0, 46⟩ G [.ref aM, .int g, .int q, .int x] [xO aM 2 [.ref aMx, .ref aMs], xAI G aMx 100 mx, xAI G aMs 100 ms] sz (xQv G [xO aM 2 [.ref aMx, .ref aMs], xAI G aMx 100 mx, xAI G aMs 100 ms] sz (fun (u : (Nat → Int32) × (Nat → Int32)) => u = FX2_confirm mx ms g q x) (fun u : (Nat → Int32) × (Nat → Int32) => [xO aM 2 [.ref aMx, .ref aMs], xAI G aMx 100 u.1, xAI G aMs 100 u.2])) := by
  refine xof (own := RX2) (cc := cX2_confirm) (maxL := 5) (ret := none) rfl (by decide) rfl (Nat.le_of_ble_eq_true rfl) ?_
  intro pg en s mi below meth cd hc hnm hw ls hl
  obtain ⟨hx, hb, -, hown, hts, -⟩ := id hc
  have hl : lv_has ls 5 [(0, .ref aM), (1, .int g), (2, .int q), (3, .int x)] := hl
  refine lv_iload_n hx hb dX2_confirm_0 rfl (lv_at hl 1 rfl) ?_
  refine lv_iload_n hx hb dX2_confirm_1 rfl (lv_at hl 2 rfl) ?_
  refine xcall_i (isC := []) hc hw (xrunS (n := 2) (As := [.int g, .int q]) (rest := []) hc hw [] (metX2_spotOf l G _ g q) gX2_confirm_X2_spotOf rfl (by decide +kernel) ⟨Nat.le_of_ble_eq_true rfl, Nat.le_of_ble_eq_true rfl⟩ rfl rfl rfl rfl hl.1 (Nat.le_of_ble_eq_true rfl) dX2_confirm_2 ⟨Nat.le_of_ble_eq_true rfl, Nat.le_of_ble_eq_true rfl⟩) rfl [0, 1, 2] [0, 1, 2] (fun u1 => [xO aM 2 [.ref aMx, .ref aMs], xAI G aMx 100 mx, xAI G aMs 100 ms]) (fun _ => rfl) rfl rfl rfl rfl (fun r2 u1 H locs hp3 hw => ?_)
  refine lv_istore (lv' := [(4, .int r2), (0, .ref aM), (1, .int g), (2, .int q), (3, .int x)]) hx hb dX2_confirm_5 hl (by decide) rfl (fun ls hl => ?_)
  refine lv_iload hx hb dX2_confirm_7 (lv_at hl 0 rfl) ?_
  refine lv_iconst (v := (-1)) hx hb dX2_confirm_9 (by decide) ?_
  refine lv_icmp_eq (tgt := 58) hx hb dX2_confirm_10 (by decide) (fun c_5 => ?_) (fun c_5 => ?_)
  · refine lv_aload_n hx hb dX2_confirm_58 rfl (lv_at hl 1 rfl) ?_
    refine lv_iload_n hx hb dX2_confirm_59 rfl (lv_at hl 2 rfl) ?_
    refine lv_iload_n hx hb dX2_confirm_60 rfl (lv_at hl 3 rfl) ?_
    refine lv_iload_n hx hb dX2_confirm_61 rfl (lv_at hl 4 rfl) ?_
    refine xcall_v (isC := [0, 1, 2]) hc hw (xrunV (n := 3) (As := [.int g, .int q, .int x]) (rest := []) hc hw [0, 1, 2] (metX2_learn l G _ aM aMx aMs mx ms g q x) gX2_confirm_X2_learn rfl (by decide +kernel) ⟨Nat.le_of_ble_eq_true rfl, Nat.le_of_ble_eq_true rfl⟩ 0 rfl rfl rfl rfl rfl rfl hl.1 (Nat.le_of_ble_eq_true rfl) dX2_confirm_62 ⟨Nat.le_of_ble_eq_true rfl, Nat.le_of_ble_eq_true rfl⟩) rfl [] [0, 1, 2] (fun u6 => [xO aM 2 [.ref aMx, .ref aMs], xAI G aMx 100 u6.1, xAI G aMs 100 u6.2]) (fun _ => rfl) rfl rfl rfl rfl (fun u6 H locs hp8 hw => ?_)
    obtain ⟨u0, hu0⟩ : ∃ z : (Nat → Int32) × (Nat → Int32), z = (u6.1, u6.2) := ⟨_, rfl⟩
    refine xret_v u0 hc ?_ ?_ ⟨Nat.le_of_ble_eq_true rfl, Nat.le_of_ble_eq_true rfl⟩ dX2_confirm_65
    · subst hu0; dsimp only; exact hw
    · subst hu0; exact Eq.symm (xb hp3 (Eq.trans (if_pos c_5) (xb hp8 rfl)))
  · refine lv_aload_n hx hb dX2_confirm_13 rfl (lv_at hl 1 rfl) ?_
    refine xget (C := RX2) (T := TX2) (N := 2) hc hw inX2_confirm_X2 0 rfl rfl 1 (by decide) lkX2_confirm_f15 rfl rfl dX2_confirm_14 ?_
    refine lv_iload hx hb dX2_confirm_17 (lv_at hl 0 rfl) ?_
    refine xiald hc hw 2 rfl (xin (pX2_spotOf hp3 c_5)) dX2_confirm_19 ?_
    refine lv_if_le (tgt := 58) hx hb dX2_confirm_20 (by decide) (fun c_10 => ?_) (fun c_10 => ?_)
    · refine lv_aload_n hx hb dX2_confirm_58 rfl (lv_at hl 1 rfl) ?_
      refine lv_iload_n hx hb dX2_confirm_59 rfl (lv_at hl 2 rfl) ?_
      refine lv_iload_n hx hb dX2_confirm_60 rfl (lv_at hl 3 rfl) ?_
      refine lv_iload_n hx hb dX2_confirm_61 rfl (lv_at hl 4 rfl) ?_
      refine xcall_v (isC := [0, 1, 2]) hc hw (xrunV (n := 3) (As := [.int g, .int q, .int x]) (rest := []) hc hw [0, 1, 2] (metX2_learn l G _ aM aMx aMs mx ms g q x) gX2_confirm_X2_learn rfl (by decide +kernel) ⟨Nat.le_of_ble_eq_true rfl, Nat.le_of_ble_eq_true rfl⟩ 0 rfl rfl rfl rfl rfl rfl hl.1 (Nat.le_of_ble_eq_true rfl) dX2_confirm_62 ⟨Nat.le_of_ble_eq_true rfl, Nat.le_of_ble_eq_true rfl⟩) rfl [] [0, 1, 2] (fun u11 => [xO aM 2 [.ref aMx, .ref aMs], xAI G aMx 100 u11.1, xAI G aMs 100 u11.2]) (fun _ => rfl) rfl rfl rfl rfl (fun u11 H locs hp13 hw => ?_)
      obtain ⟨u0, hu0⟩ : ∃ z : (Nat → Int32) × (Nat → Int32), z = (u11.1, u11.2) := ⟨_, rfl⟩
      refine xret_v u0 hc ?_ ?_ ⟨Nat.le_of_ble_eq_true rfl, Nat.le_of_ble_eq_true rfl⟩ dX2_confirm_65
      · subst hu0; dsimp only; exact hw
      · subst hu0; exact Eq.symm (xb hp3 (Eq.trans (if_neg c_5) (Eq.trans (if_pos c_10) (xb hp13 rfl))))
    · refine lv_aload_n hx hb dX2_confirm_23 rfl (lv_at hl 1 rfl) ?_
      refine xget (C := RX2) (T := TX2) (N := 2) hc hw inX2_confirm_X2 0 rfl rfl 0 (by decide) lkX2_confirm_f9 rfl rfl dX2_confirm_24 ?_
      refine lv_iload hx hb dX2_confirm_27 (lv_at hl 0 rfl) ?_
      refine xiald hc hw 1 rfl (xin (pX2_spotOf hp3 c_5)) dX2_confirm_29 ?_
      refine lv_iload_n hx hb dX2_confirm_30 rfl (lv_at hl 4 rfl) ?_
      refine lv_icmp_ne (tgt := 58) hx hb dX2_confirm_31 (by decide) (fun c_15 => ?_) (fun c_15 => ?_)
      · refine lv_aload_n hx hb dX2_confirm_58 rfl (lv_at hl 1 rfl) ?_
        refine lv_iload_n hx hb dX2_confirm_59 rfl (lv_at hl 2 rfl) ?_
        refine lv_iload_n hx hb dX2_confirm_60 rfl (lv_at hl 3 rfl) ?_
        refine lv_iload_n hx hb dX2_confirm_61 rfl (lv_at hl 4 rfl) ?_
        refine xcall_v (isC := [0, 1, 2]) hc hw (xrunV (n := 3) (As := [.int g, .int q, .int x]) (rest := []) hc hw [0, 1, 2] (metX2_learn l G _ aM aMx aMs mx ms g q x) gX2_confirm_X2_learn rfl (by decide +kernel) ⟨Nat.le_of_ble_eq_true rfl, Nat.le_of_ble_eq_true rfl⟩ 0 rfl rfl rfl rfl rfl rfl hl.1 (Nat.le_of_ble_eq_true rfl) dX2_confirm_62 ⟨Nat.le_of_ble_eq_true rfl, Nat.le_of_ble_eq_true rfl⟩) rfl [] [0, 1, 2] (fun u16 => [xO aM 2 [.ref aMx, .ref aMs], xAI G aMx 100 u16.1, xAI G aMs 100 u16.2]) (fun _ => rfl) rfl rfl rfl rfl (fun u16 H locs hp18 hw => ?_)
        obtain ⟨u0, hu0⟩ : ∃ z : (Nat → Int32) × (Nat → Int32), z = (u16.1, u16.2) := ⟨_, rfl⟩
        refine xret_v u0 hc ?_ ?_ ⟨Nat.le_of_ble_eq_true rfl, Nat.le_of_ble_eq_true rfl⟩ dX2_confirm_65
        · subst hu0; dsimp only; exact hw
        · subst hu0; exact Eq.symm (xb hp3 (Eq.trans (if_neg c_5) (Eq.trans (if_neg c_10) (Eq.trans (if_neg c_15) (xb hp18 rfl)))))
      · refine lv_aload_n hx hb dX2_confirm_34 rfl (lv_at hl 1 rfl) ?_
        refine xget (C := RX2) (T := TX2) (N := 2) hc hw inX2_confirm_X2 0 rfl rfl 1 (by decide) lkX2_confirm_f15 rfl rfl dX2_confirm_35 ?_
        refine lv_iload hx hb dX2_confirm_38 (lv_at hl 0 rfl) ?_
        refine lv_bipush (v := 9) hx hb dX2_confirm_40 (by decide) ?_
        refine lv_aload_n hx hb dX2_confirm_42 rfl (lv_at hl 1 rfl) ?_
        refine xget (C := RX2) (T := TX2) (N := 2) hc hw inX2_confirm_X2 0 rfl rfl 1 (by decide) lkX2_confirm_f15 rfl rfl dX2_confirm_43 ?_
        refine lv_iload hx hb dX2_confirm_46 (lv_at hl 0 rfl) ?_
        refine xiald hc hw 2 rfl (xin (pX2_spotOf hp3 c_5)) dX2_confirm_48 ?_
        refine lv_iconst (v := 3) hx hb dX2_confirm_49 (by decide) ?_
        refine lv_iadd hx hb dX2_confirm_50 ?_
        refine va_mmin hx hb (hc.2.2.1.trans hl.1.symm) hown (hts _ lkX2_confirm_m22) (hts _ lkX2_confirm_msmin) (hts _ lkX2_confirm_mi) (hts _ lkX2_confirm_mcmin) (Nat.le_of_ble_eq_true rfl) (Nat.le_of_ble_eq_true rfl) (Nat.le_of_ble_eq_true rfl) (Nat.le_of_ble_eq_true rfl) dX2_confirm_51 ?_
        refine xiast hc hw 2 [xO aM 2 [.ref aMx, .ref aMs], xAI G aMx 100 mx, xAI G aMs 100 (upd ms r2.toNatClampNeg (if (ms r2.toNatClampNeg) + 3 < 9 then (ms r2.toNatClampNeg) + 3 else 9))] rfl (xin (pX2_spotOf hp3 c_5)) rfl dX2_confirm_54 (fun H locs hw => ?_)
        refine lv_goto (tgt := 65) hx hb dX2_confirm_55 (by decide) ?_
        obtain ⟨u0, hu0⟩ : ∃ z : (Nat → Int32) × (Nat → Int32), z = (mx, upd ms r2.toNatClampNeg (if (ms r2.toNatClampNeg) + 3 < 9 then (ms r2.toNatClampNeg) + 3 else 9)) := ⟨_, rfl⟩
        refine xret_v u0 hc ?_ ?_ ⟨Nat.le_of_ble_eq_true rfl, Nat.le_of_ble_eq_true rfl⟩ dX2_confirm_65
        · subst hu0; dsimp only; exact hw
        · subst hu0; exact Eq.symm (xb hp3 (Eq.trans (if_neg c_5) (Eq.trans (if_neg c_10) (if_pos c_15))))
def LX2_fade_a (nn : Int32) : Nat → Nat → (Nat → Int32) → (Int32) → (Nat → Int32) × (Int32)
  | 0, i, ms, fg => (ms, fg)
  | n + 1, i, ms, fg =>
    if 100 ≤ (nI i) then ((ms, fg)) else (if (ms (nI i).toNatClampNeg) ≤ 0 then (LX2_fade_a nn n (i + 1) (upd ms (nI i).toNatClampNeg (if 0 < (ms (nI i).toNatClampNeg) - nn then (ms (nI i).toNatClampNeg) - nn else 0)) fg) else (if ((upd ms (nI i).toNatClampNeg (if 0 < (ms (nI i).toNatClampNeg) - nn then (ms (nI i).toNatClampNeg) - nn else 0)) (nI i).toNatClampNeg) = 0 then (LX2_fade_a nn n (i + 1) (upd ms (nI i).toNatClampNeg (if 0 < (ms (nI i).toNatClampNeg) - nn then (ms (nI i).toNatClampNeg) - nn else 0)) (fg + 1)) else (LX2_fade_a nn n (i + 1) (upd ms (nI i).toNatClampNeg (if 0 < (ms (nI i).toNatClampNeg) - nn then (ms (nI i).toNatClampNeg) - nn else 0)) fg)))
set_option maxHeartbeats 40000000 in
set_option maxRecDepth 100000 in
theorem lpX2_fade_a {pg : Program} {l : Launch} {en : Env} {s : State} {mi : MethodId} {args : Array Value} {below : List Frame} {meth : Method} {cd : Code} {A : Nat → Prop} {Q : State → Prop} (G : xG) (hc : xC pg s mi args meth cd cX2_fade 5 RX2 wsX2_fade (some .int) G A) (aM : Nat) (aMx : Nat) (aMs : Nat) (nn : Int32) :
    ∀ (n i : Nat) (ms : Nat → Int32) (fg : Int32), ((i : Nat) : Int) ≤ (100 : Int32).toInt → (100 : Int32).toInt < ((i + n : Nat) : Int) → ∀ (H : Heap) (locs : List Loc) (ls : Array Slot), xW G A s.heap [xO aM 2 [.ref aMx, .ref aMs], xAI G aMs 100 ms] H locs → lv_has ls 5 [(0, .ref aM), (1, .int nn), (2, .int fg), (3, .int (nI i))] → (∀ (z : (Nat → Int32) × (Int32)), z = LX2_fade_a nn n i ms fg → ∀ (H1 : Heap) (locs1 : List Loc) (ls1 : Array Slot), xW G A s.heap [xO aM 2 [.ref aMx, .ref aMs], xAI G aMs 100 z.1] H1 locs1 → lv_has ls1 5 [(0, .ref aM), (1, .int nn), (2, .int z.2)] → W pg l en ⟨1, 0, 0, 15⟩ s mi args below meth cd H1 locs1 0 0 Q (F0 mi 70 ls1 [])) → W pg l en ⟨1, 0, 0, 15⟩ s mi args below meth cd H locs 0 0 Q (F0 mi 4 ls []) := by
  obtain ⟨hx, hb, -, hown, hts, -⟩ := id hc
  intro n
  induction n with
  | zero =>
    intro i ms fg hlo hfu
    intros; exact absurd hfu (by omega)
  | succ n ih =>
    intro i ms fg hlo hfu  H locs ls hw hl K
    refine lv_iload_n hx hb dX2_fade_4 rfl (lv_at hl 3 rfl) ?_
    refine lv_aload_n hx hb dX2_fade_5 rfl (lv_at hl 0 rfl) ?_
    refine xget (C := RX2) (T := TX2) (N := 2) hc hw inX2_fade_X2 0 rfl rfl 1 (by decide) lkX2_fade_f15 rfl rfl dX2_fade_6 ?_
    refine xalenI hc hw 1 rfl (v := 100) rfl dX2_fade_9 ?_
    refine lv_icmp_ge (tgt := 70) hx hb dX2_fade_10 (by decide) (fun c_1 => ?_) (fun c_1 => ?_)
    · exact K (ms, fg) (Eq.symm (if_pos c_1)) H locs ls (by first | (dsimp only; exact hw) | exact hw) (by first | exact lv_sub hl [0, 1, 2] rfl | (dsimp only; exact lv_sub hl [0, 1, 2] rfl))
    · refine lv_aload_n hx hb dX2_fade_13 rfl (lv_at hl 0 rfl) ?_
      refine xget (C := RX2) (T := TX2) (N := 2) hc hw inX2_fade_X2 0 rfl rfl 1 (by decide) lkX2_fade_f15 rfl rfl dX2_fade_14 ?_
      refine lv_iload_n hx hb dX2_fade_17 rfl (lv_at hl 3 rfl) ?_
      refine xiald hc hw 1 rfl (xinB hlo c_1 (by decide)) dX2_fade_18 ?_
      refine lv_if_le (tgt := 26) hx hb dX2_fade_19 (by decide) (fun c_2 => ?_) (fun c_2 => ?_)
      · refine lv_iconst (v := 0) hx hb dX2_fade_26 (by decide) ?_
        refine lv_istore (lv' := [(4, .int 0), (0, .ref aM), (1, .int nn), (2, .int fg), (3, .int (nI i))]) hx hb dX2_fade_27 hl (by decide) rfl (fun ls hl => ?_)
        refine lv_aload_n hx hb dX2_fade_29 rfl (lv_at hl 1 rfl) ?_
        refine xget (C := RX2) (T := TX2) (N := 2) hc hw inX2_fade_X2 0 rfl rfl 1 (by decide) lkX2_fade_f15 rfl rfl dX2_fade_30 ?_
        refine lv_iload_n hx hb dX2_fade_33 rfl (lv_at hl 4 rfl) ?_
        refine lv_iconst (v := 0) hx hb dX2_fade_34 (by decide) ?_
        refine lv_aload_n hx hb dX2_fade_35 rfl (lv_at hl 1 rfl) ?_
        refine xget (C := RX2) (T := TX2) (N := 2) hc hw inX2_fade_X2 0 rfl rfl 1 (by decide) lkX2_fade_f15 rfl rfl dX2_fade_36 ?_
        refine lv_iload_n hx hb dX2_fade_39 rfl (lv_at hl 4 rfl) ?_
        refine xiald hc hw 1 rfl (xinB hlo c_1 (by decide)) dX2_fade_40 ?_
        refine lv_iload_n hx hb dX2_fade_41 rfl (lv_at hl 2 rfl) ?_
        refine lv_isub hx hb dX2_fade_42 ?_
        refine va_mmax hx hb (hc.2.2.1.trans hl.1.symm) hown (hts _ lkX2_fade_m31) (hts _ lkX2_fade_msmax) (hts _ lkX2_fade_mi) (hts _ lkX2_fade_mcmax) (Nat.le_of_ble_eq_true rfl) (Nat.le_of_ble_eq_true rfl) (Nat.le_of_ble_eq_true rfl) (Nat.le_of_ble_eq_true rfl) dX2_fade_43 ?_
        refine xiast hc hw 1 [xO aM 2 [.ref aMx, .ref aMs], xAI G aMs 100 (upd ms (nI i).toNatClampNeg (if 0 < (ms (nI i).toNatClampNeg) - nn then (ms (nI i).toNatClampNeg) - nn else 0))] rfl (xinB hlo c_1 (by decide)) rfl dX2_fade_46 (fun H locs hw => ?_)
        refine lv_iload hx hb dX2_fade_47 (lv_at hl 0 rfl) ?_
        refine lv_if_eq (tgt := 64) hx hb dX2_fade_49 (by decide) (fun _ => ?_) (fun h => absurd h (by decide))
        refine lv_iinc (v := nI (i + 1)) (lv' := [(3, .int (nI (i + 1))), (4, .int 0), (0, .ref aM), (1, .int nn), (2, .int fg)]) hx hb dX2_fade_64 hl (k := 4) rfl (nI_1 _) (by decide) rfl (fun ls hl => ?_)
        refine lv_goto (tgt := 4) hx hb dX2_fade_67 (by decide) ?_
        exact ih (i + 1) (upd ms (nI i).toNatClampNeg (if 0 < (ms (nI i).toNatClampNeg) - nn then (ms (nI i).toNatClampNeg) - nn else 0)) fg (xlt hlo c_1) (by omega) H locs ls hw (lv_sub hl [2, 3, 4, 0] rfl) (fun z e => K z (xtr1 (Eq.trans (if_neg c_1) (if_pos c_2)) e))
      · refine lv_iconst (v := 1) hx hb dX2_fade_22 (by decide) ?_
        refine lv_goto (tgt := 27) hx hb dX2_fade_23 (by decide) ?_
        refine lv_istore (lv' := [(4, .int 1), (0, .ref aM), (1, .int nn), (2, .int fg), (3, .int (nI i))]) hx hb dX2_fade_27 hl (by decide) rfl (fun ls hl => ?_)
        refine lv_aload_n hx hb dX2_fade_29 rfl (lv_at hl 1 rfl) ?_
        refine xget (C := RX2) (T := TX2) (N := 2) hc hw inX2_fade_X2 0 rfl rfl 1 (by decide) lkX2_fade_f15 rfl rfl dX2_fade_30 ?_
        refine lv_iload_n hx hb dX2_fade_33 rfl (lv_at hl 4 rfl) ?_
        refine lv_iconst (v := 0) hx hb dX2_fade_34 (by decide) ?_
        refine lv_aload_n hx hb dX2_fade_35 rfl (lv_at hl 1 rfl) ?_
        refine xget (C := RX2) (T := TX2) (N := 2) hc hw inX2_fade_X2 0 rfl rfl 1 (by decide) lkX2_fade_f15 rfl rfl dX2_fade_36 ?_
        refine lv_iload_n hx hb dX2_fade_39 rfl (lv_at hl 4 rfl) ?_
        refine xiald hc hw 1 rfl (xinB hlo c_1 (by decide)) dX2_fade_40 ?_
        refine lv_iload_n hx hb dX2_fade_41 rfl (lv_at hl 2 rfl) ?_
        refine lv_isub hx hb dX2_fade_42 ?_
        refine va_mmax hx hb (hc.2.2.1.trans hl.1.symm) hown (hts _ lkX2_fade_m31) (hts _ lkX2_fade_msmax) (hts _ lkX2_fade_mi) (hts _ lkX2_fade_mcmax) (Nat.le_of_ble_eq_true rfl) (Nat.le_of_ble_eq_true rfl) (Nat.le_of_ble_eq_true rfl) (Nat.le_of_ble_eq_true rfl) dX2_fade_43 ?_
        refine xiast hc hw 1 [xO aM 2 [.ref aMx, .ref aMs], xAI G aMs 100 (upd ms (nI i).toNatClampNeg (if 0 < (ms (nI i).toNatClampNeg) - nn then (ms (nI i).toNatClampNeg) - nn else 0))] rfl (xinB hlo c_1 (by decide)) rfl dX2_fade_46 (fun H locs hw => ?_)
        refine lv_iload hx hb dX2_fade_47 (lv_at hl 0 rfl) ?_
        refine lv_if_eq (tgt := 64) hx hb dX2_fade_49 (by decide) (fun h => absurd h (by decide)) (fun _ => ?_)
        refine lv_aload_n hx hb dX2_fade_52 rfl (lv_at hl 1 rfl) ?_
        refine xget (C := RX2) (T := TX2) (N := 2) hc hw inX2_fade_X2 0 rfl rfl 1 (by decide) lkX2_fade_f15 rfl rfl dX2_fade_53 ?_
        refine lv_iload_n hx hb dX2_fade_56 rfl (lv_at hl 4 rfl) ?_
        refine xiald hc hw 1 rfl (xinB hlo c_1 (by decide)) dX2_fade_57 ?_
        refine lv_if_ne (tgt := 64) hx hb dX2_fade_58 (by decide) (fun c_3 => ?_) (fun c_3 => ?_)
        · refine lv_iinc (v := nI (i + 1)) (lv' := [(3, .int (nI (i + 1))), (4, .int 1), (0, .ref aM), (1, .int nn), (2, .int fg)]) hx hb dX2_fade_64 hl (k := 4) rfl (nI_1 _) (by decide) rfl (fun ls hl => ?_)
          refine lv_goto (tgt := 4) hx hb dX2_fade_67 (by decide) ?_
          exact ih (i + 1) (upd ms (nI i).toNatClampNeg (if 0 < (ms (nI i).toNatClampNeg) - nn then (ms (nI i).toNatClampNeg) - nn else 0)) fg (xlt hlo c_1) (by omega) H locs ls hw (lv_sub hl [2, 3, 4, 0] rfl) (fun z e => K z (xtr1 (Eq.trans (if_neg c_1) (Eq.trans (if_neg c_2) (if_neg c_3))) e))
        · refine lv_iinc (v := fg + 1) (lv' := [(2, .int (fg + 1)), (4, .int 1), (0, .ref aM), (1, .int nn), (3, .int (nI i))]) hx hb dX2_fade_61 hl (k := 3) rfl (rfl) (by decide) rfl (fun ls hl => ?_)
          refine lv_iinc (v := nI (i + 1)) (lv' := [(3, .int (nI (i + 1))), (2, .int (fg + 1)), (4, .int 1), (0, .ref aM), (1, .int nn)]) hx hb dX2_fade_64 hl (k := 4) rfl (nI_1 _) (by decide) rfl (fun ls hl => ?_)
          refine lv_goto (tgt := 4) hx hb dX2_fade_67 (by decide) ?_
          exact ih (i + 1) (upd ms (nI i).toNatClampNeg (if 0 < (ms (nI i).toNatClampNeg) - nn then (ms (nI i).toNatClampNeg) - nn else 0)) (fg + 1) (xlt hlo c_1) (by omega) H locs ls hw (lv_sub hl [3, 4, 1, 0] rfl) (fun z e => K z (xtr1 (Eq.trans (if_neg c_1) (Eq.trans (if_neg c_2) (if_pos c_3))) e))
def FX2_fade (ms : Nat → Int32) (nn : Int32) : Int32 × (Nat → Int32) :=
  xbind (LX2_fade_a nn 101 0 ms 0) (fun z4 => (z4.2, z4.1))
set_option maxHeartbeats 40000000 in
set_option maxRecDepth 100000 in
theorem metX2_fade (l : Launch) (G : xG) (sz : Nat) (aM : Nat) (aMx : Nat) (aMs : Nat) (ms : Nat → Int32) (nn : Int32) : xM l yX2_fade wsX2_fade ⟨1, 0, 0, 15⟩ G [.ref aM, .int nn] [xO aM 2 [.ref aMx, .ref aMs], xAI G aMs 100 ms] sz (xQi G [xO aM 2 [.ref aMx, .ref aMs], xAI G aMs 100 ms] sz (fun (r : Int32) (u : (Nat → Int32)) => r = (FX2_fade ms nn).1 ∧ u = (FX2_fade ms nn).2) (fun u : (Nat → Int32) => [xO aM 2 [.ref aMx, .ref aMs], xAI G aMs 100 u])) := by
  refine xof (own := RX2) (cc := cX2_fade) (maxL := 5) (ret := (some .int)) rfl (by decide) rfl (Nat.le_of_ble_eq_true rfl) ?_
  intro pg en s mi below meth cd hc hnm hw ls hl
  obtain ⟨hx, hb, -, hown, hts, -⟩ := id hc
  have hl : lv_has ls 5 [(0, .ref aM), (1, .int nn)] := hl
  refine lv_iconst (v := 0) hx hb dX2_fade_0 (by decide) ?_
  refine lv_istore_n (lv' := [(2, .int 0), (0, .ref aM), (1, .int nn)]) hx hb dX2_fade_1 rfl hl (by decide) rfl (fun ls hl => ?_)
  refine lv_iconst (v := 0) hx hb dX2_fade_2 (by decide) ?_
  refine lv_istore_n (lv' := [(3, .int 0), (2, .int 0), (0, .ref aM), (1, .int nn)]) hx hb dX2_fade_3 rfl hl (by decide) rfl (fun ls hl => ?_)
  refine lpX2_fade_a G hc aM aMx aMs nn 101 0 ms 0 (by decide) (by decide) _ _ _ hw (lv_sub hl [2, 3, 1, 0] rfl) (fun z4 ek5 H locs ls hw hl => ?_)
  refine lv_iload_n hx hb dX2_fade_70 rfl (lv_at hl 2 rfl) ?_
  exact xret_i z4.1 hc hw (xe2 (xb ek5 rfl)) ⟨Nat.le_of_ble_eq_true rfl, Nat.le_of_ble_eq_true rfl⟩ dX2_fade_71
def FX2_copyFrom (mx : Nat → Int32) (ms : Nat → Int32) (nx : Nat → Int32) (ns : Nat → Int32) : (Nat → Int32) × (Nat → Int32) :=
  (va_cpy nx mx 0 0 100, va_cpy ns ms 0 0 100)
set_option maxHeartbeats 40000000 in
set_option maxRecDepth 100000 in
theorem metX2_copyFrom (l : Launch) (G : xG) (sz : Nat) (aM : Nat) (aMx : Nat) (aMs : Nat) (aN : Nat) (aNx : Nat) (aNs : Nat) (mx : Nat → Int32) (ms : Nat → Int32) (nx : Nat → Int32) (ns : Nat → Int32) : xM l yX2_copyFrom wsX2_copyFrom ⟨1, 0, 0, 60⟩ G [.ref aM, .ref aN] [xO aM 2 [.ref aMx, .ref aMs], xAI G aMx 100 mx, xAI G aMs 100 ms, xO aN 2 [.ref aNx, .ref aNs], xAI G aNx 100 nx, xAI G aNs 100 ns] sz (xQv G [xO aM 2 [.ref aMx, .ref aMs], xAI G aMx 100 mx, xAI G aMs 100 ms, xO aN 2 [.ref aNx, .ref aNs], xAI G aNx 100 nx, xAI G aNs 100 ns] sz (fun (u : (Nat → Int32) × (Nat → Int32)) => u = FX2_copyFrom mx ms nx ns) (fun u : (Nat → Int32) × (Nat → Int32) => [xO aM 2 [.ref aMx, .ref aMs], xAI G aMx 100 u.1, xAI G aMs 100 u.2, xO aN 2 [.ref aNx, .ref aNs], xAI G aNx 100 nx, xAI G aNs 100 ns])) := by
  refine xof (own := RX2) (cc := cX2_copyFrom) (maxL := 2) (ret := none) rfl (by decide) rfl (Nat.le_of_ble_eq_true rfl) ?_
  intro pg en s mi below meth cd hc hnm hw ls hl
  obtain ⟨hx, hb, -, hown, hts, -⟩ := id hc
  have hl : lv_has ls 2 [(0, .ref aM), (1, .ref aN)] := hl
  refine lv_aload_n hx hb dX2_copyFrom_0 rfl (lv_at hl 1 rfl) ?_
  refine xget (C := RX2) (T := TX2) (N := 2) hc hw inX2_copyFrom_X2 3 rfl rfl 0 (by decide) lkX2_copyFrom_f9 rfl rfl dX2_copyFrom_1 ?_
  refine lv_iconst (v := 0) hx hb dX2_copyFrom_4 (by decide) ?_
  refine lv_aload_n hx hb dX2_copyFrom_5 rfl (lv_at hl 0 rfl) ?_
  refine xget (C := RX2) (T := TX2) (N := 2) hc hw inX2_copyFrom_X2 0 rfl rfl 0 (by decide) lkX2_copyFrom_f9 rfl rfl dX2_copyFrom_6 ?_
  refine lv_iconst (v := 0) hx hb dX2_copyFrom_9 (by decide) ?_
  refine lv_aload_n hx hb dX2_copyFrom_10 rfl (lv_at hl 0 rfl) ?_
  refine xget (C := RX2) (T := TX2) (N := 2) hc hw inX2_copyFrom_X2 0 rfl rfl 0 (by decide) lkX2_copyFrom_f9 rfl rfl dX2_copyFrom_11 ?_
  refine xalenI hc hw 1 rfl (v := 100) rfl dX2_copyFrom_14 ?_
  refine xcopyI hc hw 4 1 [xO aM 2 [.ref aMx, .ref aMs], xAI G aMx 100 (va_cpy nx mx 0 0 100), xAI G aMs 100 ms, xO aN 2 [.ref aNx, .ref aNs], xAI G aNx 100 nx, xAI G aNs 100 ns] lkX2_copyFrom_m34 lkX2_copyFrom_cn lkX2_copyFrom_cs lkX2_copyFrom_ci rfl rfl rfl (fun _ _ => rfl) ⟨by decide, by decide, by decide⟩ hl.1 (Nat.le_of_ble_eq_true rfl) (Nat.le_of_ble_eq_true rfl) dX2_copyFrom_15 (fun H locs hw => ?_)
  refine lv_aload_n hx hb dX2_copyFrom_18 rfl (lv_at hl 1 rfl) ?_
  refine xget (C := RX2) (T := TX2) (N := 2) hc hw inX2_copyFrom_X2 3 rfl rfl 1 (by decide) lkX2_copyFrom_f15 rfl rfl dX2_copyFrom_19 ?_
  refine lv_iconst (v := 0) hx hb dX2_copyFrom_22 (by decide) ?_
  refine lv_aload_n hx hb dX2_copyFrom_23 rfl (lv_at hl 0 rfl) ?_
  refine xget (C := RX2) (T := TX2) (N := 2) hc hw inX2_copyFrom_X2 0 rfl rfl 1 (by decide) lkX2_copyFrom_f15 rfl rfl dX2_copyFrom_24 ?_
  refine lv_iconst (v := 0) hx hb dX2_copyFrom_27 (by decide) ?_
  refine lv_aload_n hx hb dX2_copyFrom_28 rfl (lv_at hl 0 rfl) ?_
  refine xget (C := RX2) (T := TX2) (N := 2) hc hw inX2_copyFrom_X2 0 rfl rfl 1 (by decide) lkX2_copyFrom_f15 rfl rfl dX2_copyFrom_29 ?_
  refine xalenI hc hw 2 rfl (v := 100) rfl dX2_copyFrom_32 ?_
  refine xcopyI hc hw 5 2 [xO aM 2 [.ref aMx, .ref aMs], xAI G aMx 100 (va_cpy nx mx 0 0 100), xAI G aMs 100 (va_cpy ns ms 0 0 100), xO aN 2 [.ref aNx, .ref aNs], xAI G aNx 100 nx, xAI G aNs 100 ns] lkX2_copyFrom_m34 lkX2_copyFrom_cn lkX2_copyFrom_cs lkX2_copyFrom_ci rfl rfl rfl (fun _ _ => rfl) ⟨by decide, by decide, by decide⟩ hl.1 (Nat.le_of_ble_eq_true rfl) (Nat.le_of_ble_eq_true rfl) dX2_copyFrom_33 (fun H locs hw => ?_)
  obtain ⟨u0, hu0⟩ : ∃ z : (Nat → Int32) × (Nat → Int32), z = (va_cpy nx mx 0 0 100, va_cpy ns ms 0 0 100) := ⟨_, rfl⟩
  refine xret_v u0 hc ?_ ?_ ⟨Nat.le_of_ble_eq_true rfl, Nat.le_of_ble_eq_true rfl⟩ dX2_copyFrom_36
  · subst hu0; dsimp only; exact hw
  · subst hu0; exact Eq.symm rfl
