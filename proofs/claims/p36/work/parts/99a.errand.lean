
/-! the law's errand, on the machine -/
theorem lcmp0 {x y : Int64} (h : x = y) : lg_cmp x y = 0 := by
  rw [h]
  unfold lg_cmp
  rw [if_neg (by intro q; exact absurd (Int64.lt_iff_toInt_lt.mp q) (Int.lt_irrefl _)), if_pos rfl]
abbrev cD (z : Nat → Int32) (r : Nat → Nat → Int32) : Int64 := FX3_digest (z 1) (z 2) (z 3) (z 4) (z 6) (z 7) (z 8) (z 9) (z 10) (r 7) (r 9) (r 10) (z 0) (r 0) (r 1) (r 2) (r 4) (r 5)
theorem inneg {w : Nat} (hw : w < 100000) : ¬ (nI w : Int32) < 0 := by
  rw [xltI, nI_toInt (by omega), show (0 : Int32).toInt = 0 from rfl]
  omega
theorem inle {w : Nat} (hw : w < 100000) : (0 : Int32) ≤ nI w := by
  rw [xle, nI_toInt (by omega), show (0 : Int32).toInt = 0 from rfl]
  omega
theorem nsub2 {a b c d : Int32} {k : Nat} (h1 : a.toInt = b.toInt + 2 * k) (h2 : c.toInt = d.toInt + k) (hk : 2 * k ≤ 360) : a - b = 2 * (c - d) := by
  have e1 : a - b = nI (2 * k) := by
    rw [xeqI, Int32.toInt_sub, h1, nI_toInt (by omega), show b.toInt + 2 * (k : Int) - b.toInt = 2 * k by omega]
    exact Int.bmod_eq_of_le (by omega) (by omega)
  have e2 : c - d = nI k := by
    rw [xeqI, Int32.toInt_sub, h2, nI_toInt (by omega), show d.toInt + (k : Int) - d.toInt = k by omega]
    exact Int.bmod_eq_of_le (by omega) (by omega)
  rw [e1, e2, xeqI, Int32.toInt_mul, nI_toInt (by omega), nI_toInt (by omega), show (2 : Int32).toInt = 2 from rfl, show (2 : Int) * (k : Int) = ((2 * k : Nat) : Int) by omega]
  exact (Int.bmod_eq_of_le (by omega) (by omega)).symm
set_option maxHeartbeats 40000000 in
set_option maxRecDepth 100000 in
theorem lpw_told {p : Program} {l : Launch} {e : Env} {s : State} {m : MethodId} {args : Array Value} {below : List Frame} {meth : Method} {c : Code} {Q : State → Prop} {G : xG} {A : Nat → Prop} (hst : l.stackTraces = false) {a : Nat → Nat} {aS bs : Nat} {fr x4 : Int32} {tm : Nat} {ret : Option FieldType} {N : Nat} {B : Int} {z : Nat → Int32} {r : Nat → Nat → Int32} {rs : Int32} {q : Nat → Nat → Int32} {n : Nat} {xn : Nat → Nat} {xr : Nat → Nat → Int32} {nr : Nat} {v : Nat → Int32} {rw : Nat → Nat → Int32} {ak : Nat → Int32} {wl : Nat} {wy : Nat → Nat → Int32} {mp : Nat → Nat → Bool} {mm : Nat → Nat → Nat → Int32} (hc : xC p s m args meth c cL_law 20 RL wsL_law ret G A) (hA0 : cA N B z r rs q n xn xr nr v rw ak wl wy mp mm) {L : List Nat} {f : Nat → va_E} {C S : Nat} (hCS : C ≤ 600000 ∧ S ≤ 6000000) (hN : N < 100000) (hB : 0 ≤ B ∧ B ≤ 900000) {y g d K9 : Nat} (hy : v 4 = nI y) (hyn : y < n) (hg : g < n) (h3 : z 3 = -1) (hd : d = 9999 ∨ d ≤ 9990) (hdist : ∀ fa, (FX3_distance (z 0) (r 2) (r 4) (r 5) fa (nI y) (nI g)).1 = 0 ∧ (FX3_distance (z 0) (r 2) (r 4) (r 5) fa (nI y) (nI g)).2.1 = tD d)
    (hkn : sKn rw xr mp mm g 10 y = 1 → kN (r 0) (r 2) (r 4) (r 5) (q 6) g 10 y 0 = nI K9)
    (hcm : (cT z r q g = -1 ∧ d = 9999 ∧ ¬ sKn rw xr mp mm g 10 y = 1) ∨ ∃ w, cT z r q g = nI w ∧ w ≤ 360 ∧ d ≤ w ∧ d ≤ 9990 ∧ (sKn rw xr mp mm g 10 y = 1 → w = K9))
    (kx : ∀ (u : cU) (H : Heap) (locs : List Loc) (ls : Array Slot), lv_has ls 20 [(17, .int (v 12)), (16, .int (v 11)), (15, .int (v 10)), (14, .int (v 9)), (12, .int (tD d)), (11, .int (cT z r q g)), (10, .int (nI y)), (9, .int (nI g)), (4, .int x4), (3, .int (nI tm)), (2, .ref aS), (1, .ref (a 0)), (0, .ref bs)] → xW G A s.heap (cW G a z r u ++ va_pl L f) H locs → W p l e ⟨12, 777134, 6770066, 438⟩ s m args below meth c H locs (C + 70) (S + 400) Q (F0 m 813 ls [])) (u : cU) (H : Heap) (locs : List Loc) (ls : Array Slot) (hl : lv_has ls 20 [(9, .int (nI g)), (7, .int (nI n)), (5, .long (cD z r)), (4, .int x4), (3, .int (nI tm)), (2, .ref aS), (1, .ref (a 0)), (0, .ref bs)]) (hw : xW G A s.heap (cW G a z r u ++ va_pl L f) H locs) : W p l e ⟨12, 777134, 6770066, 438⟩ s m args below meth c H locs C S Q (F0 m 613 ls []) := by
  obtain ⟨hx, hb, -, hown, hts, -⟩ := id hc
  have hH := cA_H hA0
  obtain ⟨hn1, hn2, hn3, hn4, hn5⟩ := cA_n hA0
  have hL := cA_L hA0
  have hM := zI_M hA0.1
  have hv := c_v hA0
  have hN6 : N < 1000000 := by omega
  have hB6 : 0 ≤ B ∧ B ≤ 1000000 := by omega
  obtain ⟨hkw, hk01⟩ := c_knows hA0 hy hyn hg
  have hz0 : ¬ z 0 = 0 := fun h => by
    rw [h, show (0 : Int32).toInt = 0 from rfl] at hn1
    omega
  have hwhere : FX3_whereIs (z 1) (z 0) = nI y := by
    rw [← hv.1.1, hy]
    unfold FX3_whereIs
    rw [if_neg hz0]
  refine lv_aload_n hx hb dL_law_613 rfl (lv_at hl 6 rfl) ?_
  refine ccall_i hc hw (crunV (n := 0) (As := []) (rest := []) hc hw (k_whereIs _ a z r u (ans := nI y) (hwhere)) gL_law_X3_whereIs rfl (by decide +kernel) ⟨Nat.le_of_ble_eq_true rfl, Nat.le_of_ble_eq_true rfl⟩ 0 rfl rfl rfl rfl hl.1 (Nat.le_of_ble_eq_true rfl) dL_law_614 (by first | exact ⟨Nat.le_of_ble_eq_true rfl, Nat.le_of_ble_eq_true rfl⟩ | (refine ⟨?_, ?_⟩ <;> ((try dsimp only); omega)))) (fun x0 u H locs hp hw => ?_)
  have hx0 : x0 = _ := hp
  subst hx0
  refine lv_istore (lv' := [(10, .int (nI y)), (9, .int (nI g)), (7, .int (nI n)), (5, .long (cD z r)), (4, .int x4), (3, .int (nI tm)), (2, .ref aS), (1, .ref (a 0)), (0, .ref bs)]) hx hb dL_law_617 hl (by decide) rfl (fun ls hl => ?_)
  refine lv_aload_n hx hb dL_law_619 rfl (lv_at hl 7 rfl) ?_
  refine lv_iload hx hb dL_law_620 (lv_at hl 1 rfl) ?_
  refine ccall_i hc hw (crunV (n := 1) (As := [.int (nI g)]) (rest := []) hc hw (kk_would hst hA0 h3 hN6 hg) gL_law_X3_wouldWalk rfl (by decide +kernel) ⟨Nat.le_of_ble_eq_true rfl, Nat.le_of_ble_eq_true rfl⟩ 0 rfl rfl rfl rfl hl.1 (Nat.le_of_ble_eq_true rfl) dL_law_622 (by first | exact ⟨Nat.le_of_ble_eq_true rfl, Nat.le_of_ble_eq_true rfl⟩ | (refine ⟨?_, ?_⟩ <;> ((try dsimp only); omega)))) (fun x0 u H locs hp hw => ?_)
  have hx0 : x0 = _ := hp
  subst hx0
  refine lv_istore (lv' := [(11, .int (cT z r q g)), (10, .int (nI y)), (9, .int (nI g)), (7, .int (nI n)), (5, .long (cD z r)), (4, .int x4), (3, .int (nI tm)), (2, .ref aS), (1, .ref (a 0)), (0, .ref bs)]) hx hb dL_law_625 hl (by decide) rfl (fun ls hl => ?_)
  refine lv_aload_n hx hb dL_law_627 rfl (lv_at hl 8 rfl) ?_
  refine lv_iload hx hb dL_law_628 (lv_at hl 1 rfl) ?_
  refine lv_iload hx hb dL_law_630 (lv_at hl 2 rfl) ?_
  refine ccall_i hc hw (crunV (n := 2) (As := [.int (nI y), .int (nI g)]) (rest := []) hc hw (k_distance hst _ a z r u _ _ hH (hdist u.1).1 (hdist u.1).2) gL_law_X3_distance rfl (by decide +kernel) ⟨Nat.le_of_ble_eq_true rfl, Nat.le_of_ble_eq_true rfl⟩ 0 rfl rfl rfl rfl hl.1 (Nat.le_of_ble_eq_true rfl) dL_law_632 (by first | exact ⟨Nat.le_of_ble_eq_true rfl, Nat.le_of_ble_eq_true rfl⟩ | (refine ⟨?_, ?_⟩ <;> ((try dsimp only); omega)))) (fun x0 u H locs hp hw => ?_)
  have hx0 : x0 = _ := hp
  subst hx0
  refine lv_istore (lv' := [(12, .int (tD d)), (11, .int (cT z r q g)), (10, .int (nI y)), (9, .int (nI g)), (7, .int (nI n)), (5, .long (cD z r)), (4, .int x4), (3, .int (nI tm)), (2, .ref aS), (1, .ref (a 0)), (0, .ref bs)]) hx hb dL_law_635 hl (by decide) rfl (fun ls hl => ?_)
  rcases hcm with ⟨c1, c2, c3⟩ | ⟨w9, c1, c2, c3, c4, c5⟩
  · have ed : tD d = -1 := by unfold tD; rw [if_pos c2]
    refine lv_iload hx hb dL_law_637 (lv_at hl 1 rfl) ?_
    refine lv_if_ge (tgt := 646) hx hb dL_law_639 (by decide) (fun h => absurd h (by rw [c1]; decide)) (fun j1 => ?_)
    refine lv_iconst (v := 1) hx hb dL_law_642 (by decide) ?_
    refine lv_goto (tgt := 647) hx hb dL_law_643 (by decide) ?_
    refine lv_iload hx hb dL_law_647 (lv_at hl 0 rfl) ?_
    refine lv_if_ge (tgt := 656) hx hb dL_law_649 (by decide) (fun h => absurd h (by rw [ed]; decide)) (fun j2 => ?_)
    refine lv_iconst (v := 1) hx hb dL_law_652 (by decide) ?_
    refine lv_goto (tgt := 657) hx hb dL_law_653 (by decide) ?_
    refine lv_icmp_ne (tgt := 672) hx hb dL_law_657 (by decide) (fun h => absurd rfl h) (fun j3 => ?_)
    refine lv_iload hx hb dL_law_660 (lv_at hl 1 rfl) ?_
    refine lv_if_lt (tgt := 674) hx hb dL_law_662 (by decide) (fun j4 => ?_) (fun h => absurd (show cT z r q g < 0 by rw [c1]; decide) h)
    refine lv_aload_n hx hb dL_law_674 rfl (lv_at hl 9 rfl) ?_
    refine lv_iload hx hb dL_law_675 (lv_at hl 3 rfl) ?_
    refine ccall_i hc hw (crunV (n := 1) (As := [.int (nI g)]) (rest := []) hc hw (k_knowsWay hst _ a z r u _ hH hkw) gL_law_X3_knowsWay rfl (by decide +kernel) ⟨Nat.le_of_ble_eq_true rfl, Nat.le_of_ble_eq_true rfl⟩ 0 rfl rfl rfl rfl hl.1 (Nat.le_of_ble_eq_true rfl) dL_law_677 (by first | exact ⟨Nat.le_of_ble_eq_true rfl, Nat.le_of_ble_eq_true rfl⟩ | (refine ⟨?_, ?_⟩ <;> ((try dsimp only); omega)))) (fun x0 u H locs hp hw => ?_)
    have hx0 : x0 = _ := hp
    subst hx0
    refine lv_if_eq (tgt := 698) hx hb dL_law_680 (by decide) (fun j6 => ?_) (fun j6 => ?_)
    · refine lv_aload_n hx hb dL_law_698 rfl (lv_at hl 9 rfl) ?_
      refine lv_iload hx hb dL_law_699 (lv_at hl 3 rfl) ?_
      refine ccall_i hc hw (crunV (n := 1) (As := [.int (nI g)]) (rest := []) hc hw (kk_best hst hA0 h3 hN6 hB6 hy hyn hg) gL_law_X3_bestShepherd rfl (by decide +kernel) ⟨Nat.le_of_ble_eq_true rfl, Nat.le_of_ble_eq_true rfl⟩ 0 rfl rfl rfl rfl hl.1 (Nat.le_of_ble_eq_true rfl) dL_law_701 (by first | exact ⟨Nat.le_of_ble_eq_true rfl, Nat.le_of_ble_eq_true rfl⟩ | (refine ⟨?_, ?_⟩ <;> ((try dsimp only); omega)))) (fun hb9 u H locs hp hw => ?_)
      have hbest := hp
      refine lv_istore (lv' := [(13, .int hb9), (12, .int (tD d)), (11, .int (cT z r q g)), (10, .int (nI y)), (9, .int (nI g)), (7, .int (nI n)), (5, .long (cD z r)), (4, .int x4), (3, .int (nI tm)), (2, .ref aS), (1, .ref (a 0)), (0, .ref bs)]) hx hb dL_law_704 hl (by decide) rfl (fun ls hl => ?_)
      refine lv_aload_n hx hb dL_law_706 rfl (lv_at hl 10 rfl) ?_
      refine ccall_l hc hw (crunV (n := 0) (As := []) (rest := []) hc hw (k_digest _ a z r u (ans := cD z r) hH rfl) gL_law_X3_digest rfl (by decide +kernel) ⟨Nat.le_of_ble_eq_true rfl, Nat.le_of_ble_eq_true rfl⟩ 0 rfl rfl rfl rfl hl.1 (Nat.le_of_ble_eq_true rfl) dL_law_707 (by first | exact ⟨Nat.le_of_ble_eq_true rfl, Nat.le_of_ble_eq_true rfl⟩ | (refine ⟨?_, ?_⟩ <;> ((try dsimp only); omega)))) (fun x0 u H locs hp hw => ?_)
      have hx0 : x0 = _ := hp
      subst hx0
      refine lv_lload hx hb dL_law_710 (lv_at hl 6 rfl) ?_
      refine W.lcmp hx hb dL_law_712 ?_
      refine lv_if_eq (tgt := 718) hx hb dL_law_713 (by decide) (fun j7 => ?_) (fun h => absurd (lcmp0 rfl) h)
      rcases hbest with hbest | ⟨pp, hpp, hbest, hr0, hb1, hb2⟩
      · refine lv_iload hx hb dL_law_718 (lv_at hl 0 rfl) ?_
        refine lv_if_lt (tgt := 789) hx hb dL_law_720 (by decide) (fun j8 => ?_) (fun h => absurd (show hb9 < 0 by rw [hbest]; decide) h)
        refine lv_aload_n hx hb dL_law_789 rfl (lv_at hl 10 rfl) ?_
        refine ccall_i hc hw (crunV (n := 0) (As := []) (rest := []) hc hw (k_milesWalked _ a z r u (ans := v 9) (hv.1.2.2.2.1.symm)) gL_law_X3_milesWalked rfl (by decide +kernel) ⟨Nat.le_of_ble_eq_true rfl, Nat.le_of_ble_eq_true rfl⟩ 0 rfl rfl rfl rfl hl.1 (Nat.le_of_ble_eq_true rfl) dL_law_790 (by first | exact ⟨Nat.le_of_ble_eq_true rfl, Nat.le_of_ble_eq_true rfl⟩ | (refine ⟨?_, ?_⟩ <;> ((try dsimp only); omega)))) (fun x0 u H locs hp hw => ?_)
        have hx0 : x0 = _ := hp
        subst hx0
        refine lv_istore (lv' := [(14, .int (v 9)), (13, .int hb9), (12, .int (tD d)), (11, .int (cT z r q g)), (10, .int (nI y)), (9, .int (nI g)), (7, .int (nI n)), (5, .long (cD z r)), (4, .int x4), (3, .int (nI tm)), (2, .ref aS), (1, .ref (a 0)), (0, .ref bs)]) hx hb dL_law_793 hl (by decide) rfl (fun ls hl => ?_)
        refine lv_aload_n hx hb dL_law_795 rfl (lv_at hl 11 rfl) ?_
        refine ccall_i hc hw (crunV (n := 0) (As := []) (rest := []) hc hw (k_milesDoubled _ a z r u (ans := v 10) (hv.1.2.2.2.2.1.symm)) gL_law_X3_milesDoubled rfl (by decide +kernel) ⟨Nat.le_of_ble_eq_true rfl, Nat.le_of_ble_eq_true rfl⟩ 0 rfl rfl rfl rfl hl.1 (Nat.le_of_ble_eq_true rfl) dL_law_796 (by first | exact ⟨Nat.le_of_ble_eq_true rfl, Nat.le_of_ble_eq_true rfl⟩ | (refine ⟨?_, ?_⟩ <;> ((try dsimp only); omega)))) (fun x0 u H locs hp hw => ?_)
        have hx0 : x0 = _ := hp
        subst hx0
        refine lv_istore (lv' := [(15, .int (v 10)), (14, .int (v 9)), (13, .int hb9), (12, .int (tD d)), (11, .int (cT z r q g)), (10, .int (nI y)), (9, .int (nI g)), (7, .int (nI n)), (5, .long (cD z r)), (4, .int x4), (3, .int (nI tm)), (2, .ref aS), (1, .ref (a 0)), (0, .ref bs)]) hx hb dL_law_799 hl (by decide) rfl (fun ls hl => ?_)
        refine lv_aload_n hx hb dL_law_801 rfl (lv_at hl 12 rfl) ?_
        refine ccall_i hc hw (crunV (n := 0) (As := []) (rest := []) hc hw (k_errandsDone _ a z r u (ans := v 11) (hv.1.2.2.2.2.2.1.symm)) gL_law_X3_errandsDone rfl (by decide +kernel) ⟨Nat.le_of_ble_eq_true rfl, Nat.le_of_ble_eq_true rfl⟩ 0 rfl rfl rfl rfl hl.1 (Nat.le_of_ble_eq_true rfl) dL_law_802 (by first | exact ⟨Nat.le_of_ble_eq_true rfl, Nat.le_of_ble_eq_true rfl⟩ | (refine ⟨?_, ?_⟩ <;> ((try dsimp only); omega)))) (fun x0 u H locs hp hw => ?_)
        have hx0 : x0 = _ := hp
        subst hx0
        refine lv_istore (lv' := [(16, .int (v 11)), (15, .int (v 10)), (14, .int (v 9)), (13, .int hb9), (12, .int (tD d)), (11, .int (cT z r q g)), (10, .int (nI y)), (9, .int (nI g)), (7, .int (nI n)), (5, .long (cD z r)), (4, .int x4), (3, .int (nI tm)), (2, .ref aS), (1, .ref (a 0)), (0, .ref bs)]) hx hb dL_law_805 hl (by decide) rfl (fun ls hl => ?_)
        refine lv_aload_n hx hb dL_law_807 rfl (lv_at hl 13 rfl) ?_
        refine ccall_i hc hw (crunV (n := 0) (As := []) (rest := []) hc hw (k_errandsInVain _ a z r u (ans := v 12) (hv.1.2.2.2.2.2.2.1.symm)) gL_law_X3_errandsInVain rfl (by decide +kernel) ⟨Nat.le_of_ble_eq_true rfl, Nat.le_of_ble_eq_true rfl⟩ 0 rfl rfl rfl rfl hl.1 (Nat.le_of_ble_eq_true rfl) dL_law_808 (by first | exact ⟨Nat.le_of_ble_eq_true rfl, Nat.le_of_ble_eq_true rfl⟩ | (refine ⟨?_, ?_⟩ <;> ((try dsimp only); omega)))) (fun x0 u H locs hp hw => ?_)
        have hx0 : x0 = _ := hp
        subst hx0
        refine lv_istore (lv' := [(17, .int (v 12)), (16, .int (v 11)), (15, .int (v 10)), (14, .int (v 9)), (13, .int hb9), (12, .int (tD d)), (11, .int (cT z r q g)), (10, .int (nI y)), (9, .int (nI g)), (7, .int (nI n)), (5, .long (cD z r)), (4, .int x4), (3, .int (nI tm)), (2, .ref aS), (1, .ref (a 0)), (0, .ref bs)]) hx hb dL_law_811 hl (by decide) rfl (fun ls hl => ?_)
        exact W.widen (k := C + 70) (n := S + 400) (by (try dsimp only); omega) (by (try dsimp only); omega) (kx u H locs ls (lv_sub hl [0, 1, 2, 3, 5, 6, 7, 8, 11, 12, 13, 14, 15] rfl) hw)
      · rw [hbest] at hl
        refine lv_iload hx hb dL_law_718 (lv_at hl 0 rfl) ?_
        refine lv_if_lt (tgt := 789) hx hb dL_law_720 (by decide) (fun h => absurd h (inneg (by omega))) (fun j8 => ?_)
        refine lv_aload_n hx hb dL_law_723 rfl (lv_at hl 10 rfl) ?_
        refine lv_iload hx hb dL_law_724 (lv_at hl 0 rfl) ?_
        refine ccall_i hc hw (crunV (n := 1) (As := [.int (nI pp)]) (rest := []) hc hw (k_hasShepherd hst _ a z r u _ hH (by rw [l_hasShepherd hL (by omega), hr0])) gL_law_X3_hasShepherd rfl (by decide +kernel) ⟨Nat.le_of_ble_eq_true rfl, Nat.le_of_ble_eq_true rfl⟩ 0 rfl rfl rfl rfl hl.1 (Nat.le_of_ble_eq_true rfl) dL_law_726 (by first | exact ⟨Nat.le_of_ble_eq_true rfl, Nat.le_of_ble_eq_true rfl⟩ | (refine ⟨?_, ?_⟩ <;> ((try dsimp only); omega)))) (fun x0 u H locs hp hw => ?_)
        have hx0 : x0 = 0 := hp
        subst hx0
        refine lv_if_ne (tgt := 741) hx hb dL_law_729 (by decide) (fun h => absurd rfl h) (fun j9 => ?_)
        refine lv_aload_n hx hb dL_law_732 rfl (lv_at hl 10 rfl) ?_
        refine lv_iload hx hb dL_law_733 (lv_at hl 0 rfl) ?_
        obtain ⟨kt, hA1⟩ := kA_turnShep (l := l) (G := G) (sz := H.size) (a := a) (u := u) hst hA0 hpp
        rw [if_pos hr0] at kt hA1
        have hb3 : cT z (va_up r 1 (upd (r 1) pp 1)) q g = -1 ∨ ∃ w, cT z (va_up r 1 (upd (r 1) pp 1)) q g = nI w ∧ w ≤ 360 := by
          obtain ⟨_, _, _, _, -, -, -, -, -, -, -, hh⟩ := c_err hA1 h3 hN6 hB6 hy hyn hg
          rcases hh with ⟨-, h, -⟩ | ⟨-, _, _, -, ⟨-, -, -, w, h, h2, -⟩ | ⟨-, h, -⟩⟩
          · exact Or.inr ⟨0, h, by omega⟩
          · exact Or.inr ⟨w, h, h2⟩
          · exact Or.inl h
        refine ccall_i hc hw (crunV (n := 1) (As := [.int (nI pp)]) (rest := []) hc hw (kt) gL_law_X3_turnShepherd rfl (by decide +kernel) ⟨Nat.le_of_ble_eq_true rfl, Nat.le_of_ble_eq_true rfl⟩ 0 rfl rfl rfl rfl hl.1 (Nat.le_of_ble_eq_true rfl) dL_law_735 (by first | exact ⟨Nat.le_of_ble_eq_true rfl, Nat.le_of_ble_eq_true rfl⟩ | (refine ⟨?_, ?_⟩ <;> ((try dsimp only); omega)))) (fun x0 u H locs hp hw => ?_)
        have hx0 : x0 = 1 := hp
        subst hx0
        refine lv_if_ne (tgt := 743) hx hb dL_law_738 (by decide) (fun j10 => ?_) (fun h => absurd h (by decide))
        refine lv_aload_n hx hb dL_law_743 rfl (lv_at hl 10 rfl) ?_
        refine lv_iload hx hb dL_law_744 (lv_at hl 4 rfl) ?_
        refine ccall_i hc hw (crunV (n := 1) (As := [.int (nI g)]) (rest := []) hc hw (kk_would hst hA1 h3 hN6 hg) gL_law_X3_wouldWalk rfl (by decide +kernel) ⟨Nat.le_of_ble_eq_true rfl, Nat.le_of_ble_eq_true rfl⟩ 0 rfl rfl rfl rfl hl.1 (Nat.le_of_ble_eq_true rfl) dL_law_746 (by first | exact ⟨Nat.le_of_ble_eq_true rfl, Nat.le_of_ble_eq_true rfl⟩ | (refine ⟨?_, ?_⟩ <;> ((try dsimp only); omega)))) (fun x0 u H locs hp hw => ?_)
        have hx0 : x0 = _ := hp
        subst hx0
        obtain ⟨w8, hw8, hw9⟩ := hb3.resolve_left hb1
        refine lv_istore (lv' := [(14, .int (cT z (va_up r 1 (upd (r 1) pp 1)) q g)), (13, .int (nI pp)), (12, .int (tD d)), (11, .int (cT z r q g)), (10, .int (nI y)), (9, .int (nI g)), (7, .int (nI n)), (5, .long (cD z r)), (4, .int x4), (3, .int (nI tm)), (2, .ref aS), (1, .ref (a 0)), (0, .ref bs)]) hx hb dL_law_749 hl (by decide) rfl (fun ls hl => ?_)
        refine lv_iload hx hb dL_law_751 (lv_at hl 0 rfl) ?_
        refine lv_if_lt (tgt := 787) hx hb dL_law_753 (by decide) (fun h => absurd h (by rw [hw8]; exact inneg (by omega))) (fun j11 => ?_)
        refine lv_iload hx hb dL_law_756 (lv_at hl 3 rfl) ?_
        refine lv_if_lt (tgt := 768) hx hb dL_law_758 (by decide) (fun j12 => ?_) (fun h => absurd (show cT z r q g < 0 by rw [c1]; decide) h)
        refine lv_aload_n hx hb dL_law_768 rfl (lv_at hl 11 rfl) ?_
        refine lv_iload hx hb dL_law_769 (lv_at hl 1 rfl) ?_
        obtain ⟨kt2, -⟩ := kA_turnShep (l := l) (G := G) (sz := H.size) (a := a) (u := u) hst hA1 hpp
        have e1 : va_up r 1 (upd (r 1) pp 1) 1 pp = 1 := pk_us
        rw [if_neg (by rw [e1]; decide)] at kt2
        rw [show va_up (va_up r 1 (upd (r 1) pp 1)) 1 (upd (va_up r 1 (upd (r 1) pp 1) 1) pp 0) = r from upback hr0] at kt2
        refine ccall_i hc hw (crunV (n := 1) (As := [.int (nI pp)]) (rest := []) hc hw (kt2) gL_law_X3_turnShepherd rfl (by decide +kernel) ⟨Nat.le_of_ble_eq_true rfl, Nat.le_of_ble_eq_true rfl⟩ 0 rfl rfl rfl rfl hl.1 (Nat.le_of_ble_eq_true rfl) dL_law_771 (by first | exact ⟨Nat.le_of_ble_eq_true rfl, Nat.le_of_ble_eq_true rfl⟩ | (refine ⟨?_, ?_⟩ <;> ((try dsimp only); omega)))) (fun x0 u H locs hp hw => ?_)
        have hx0 : x0 = 0 := hp
        subst hx0
        refine lv_if_ne (tgt := 787) hx hb dL_law_774 (by decide) (fun h => absurd rfl h) (fun j14 => ?_)
        refine lv_aload_n hx hb dL_law_777 rfl (lv_at hl 11 rfl) ?_
        refine ccall_l hc hw (crunV (n := 0) (As := []) (rest := []) hc hw (k_digest _ a z r u (ans := cD z r) hH rfl) gL_law_X3_digest rfl (by decide +kernel) ⟨Nat.le_of_ble_eq_true rfl, Nat.le_of_ble_eq_true rfl⟩ 0 rfl rfl rfl rfl hl.1 (Nat.le_of_ble_eq_true rfl) dL_law_778 (by first | exact ⟨Nat.le_of_ble_eq_true rfl, Nat.le_of_ble_eq_true rfl⟩ | (refine ⟨?_, ?_⟩ <;> ((try dsimp only); omega)))) (fun x0 u H locs hp hw => ?_)
        have hx0 : x0 = _ := hp
        subst hx0
        refine lv_lload hx hb dL_law_781 (lv_at hl 7 rfl) ?_
        refine W.lcmp hx hb dL_law_783 ?_
        refine lv_if_eq (tgt := 789) hx hb dL_law_784 (by decide) (fun j15 => ?_) (fun h => absurd (lcmp0 rfl) h)
        refine lv_aload_n hx hb dL_law_789 rfl (lv_at hl 11 rfl) ?_
        refine ccall_i hc hw (crunV (n := 0) (As := []) (rest := []) hc hw (k_milesWalked _ a z r u (ans := v 9) (hv.1.2.2.2.1.symm)) gL_law_X3_milesWalked rfl (by decide +kernel) ⟨Nat.le_of_ble_eq_true rfl, Nat.le_of_ble_eq_true rfl⟩ 0 rfl rfl rfl rfl hl.1 (Nat.le_of_ble_eq_true rfl) dL_law_790 (by first | exact ⟨Nat.le_of_ble_eq_true rfl, Nat.le_of_ble_eq_true rfl⟩ | (refine ⟨?_, ?_⟩ <;> ((try dsimp only); omega)))) (fun x0 u H locs hp hw => ?_)
        have hx0 : x0 = _ := hp
        subst hx0
        refine lv_istore (lv' := [(14, .int (v 9)), (13, .int (nI pp)), (12, .int (tD d)), (11, .int (cT z r q g)), (10, .int (nI y)), (9, .int (nI g)), (7, .int (nI n)), (5, .long (cD z r)), (4, .int x4), (3, .int (nI tm)), (2, .ref aS), (1, .ref (a 0)), (0, .ref bs)]) hx hb dL_law_793 hl (by decide) rfl (fun ls hl => ?_)
        refine lv_aload_n hx hb dL_law_795 rfl (lv_at hl 11 rfl) ?_
        refine ccall_i hc hw (crunV (n := 0) (As := []) (rest := []) hc hw (k_milesDoubled _ a z r u (ans := v 10) (hv.1.2.2.2.2.1.symm)) gL_law_X3_milesDoubled rfl (by decide +kernel) ⟨Nat.le_of_ble_eq_true rfl, Nat.le_of_ble_eq_true rfl⟩ 0 rfl rfl rfl rfl hl.1 (Nat.le_of_ble_eq_true rfl) dL_law_796 (by first | exact ⟨Nat.le_of_ble_eq_true rfl, Nat.le_of_ble_eq_true rfl⟩ | (refine ⟨?_, ?_⟩ <;> ((try dsimp only); omega)))) (fun x0 u H locs hp hw => ?_)
        have hx0 : x0 = _ := hp
        subst hx0
        refine lv_istore (lv' := [(15, .int (v 10)), (14, .int (v 9)), (13, .int (nI pp)), (12, .int (tD d)), (11, .int (cT z r q g)), (10, .int (nI y)), (9, .int (nI g)), (7, .int (nI n)), (5, .long (cD z r)), (4, .int x4), (3, .int (nI tm)), (2, .ref aS), (1, .ref (a 0)), (0, .ref bs)]) hx hb dL_law_799 hl (by decide) rfl (fun ls hl => ?_)
        refine lv_aload_n hx hb dL_law_801 rfl (lv_at hl 12 rfl) ?_
        refine ccall_i hc hw (crunV (n := 0) (As := []) (rest := []) hc hw (k_errandsDone _ a z r u (ans := v 11) (hv.1.2.2.2.2.2.1.symm)) gL_law_X3_errandsDone rfl (by decide +kernel) ⟨Nat.le_of_ble_eq_true rfl, Nat.le_of_ble_eq_true rfl⟩ 0 rfl rfl rfl rfl hl.1 (Nat.le_of_ble_eq_true rfl) dL_law_802 (by first | exact ⟨Nat.le_of_ble_eq_true rfl, Nat.le_of_ble_eq_true rfl⟩ | (refine ⟨?_, ?_⟩ <;> ((try dsimp only); omega)))) (fun x0 u H locs hp hw => ?_)
        have hx0 : x0 = _ := hp
        subst hx0
        refine lv_istore (lv' := [(16, .int (v 11)), (15, .int (v 10)), (14, .int (v 9)), (13, .int (nI pp)), (12, .int (tD d)), (11, .int (cT z r q g)), (10, .int (nI y)), (9, .int (nI g)), (7, .int (nI n)), (5, .long (cD z r)), (4, .int x4), (3, .int (nI tm)), (2, .ref aS), (1, .ref (a 0)), (0, .ref bs)]) hx hb dL_law_805 hl (by decide) rfl (fun ls hl => ?_)
        refine lv_aload_n hx hb dL_law_807 rfl (lv_at hl 13 rfl) ?_
        refine ccall_i hc hw (crunV (n := 0) (As := []) (rest := []) hc hw (k_errandsInVain _ a z r u (ans := v 12) (hv.1.2.2.2.2.2.2.1.symm)) gL_law_X3_errandsInVain rfl (by decide +kernel) ⟨Nat.le_of_ble_eq_true rfl, Nat.le_of_ble_eq_true rfl⟩ 0 rfl rfl rfl rfl hl.1 (Nat.le_of_ble_eq_true rfl) dL_law_808 (by first | exact ⟨Nat.le_of_ble_eq_true rfl, Nat.le_of_ble_eq_true rfl⟩ | (refine ⟨?_, ?_⟩ <;> ((try dsimp only); omega)))) (fun x0 u H locs hp hw => ?_)
        have hx0 : x0 = _ := hp
        subst hx0
        refine lv_istore (lv' := [(17, .int (v 12)), (16, .int (v 11)), (15, .int (v 10)), (14, .int (v 9)), (13, .int (nI pp)), (12, .int (tD d)), (11, .int (cT z r q g)), (10, .int (nI y)), (9, .int (nI g)), (7, .int (nI n)), (5, .long (cD z r)), (4, .int x4), (3, .int (nI tm)), (2, .ref aS), (1, .ref (a 0)), (0, .ref bs)]) hx hb dL_law_811 hl (by decide) rfl (fun ls hl => ?_)
        exact W.widen (k := C + 70) (n := S + 400) (by (try dsimp only); omega) (by (try dsimp only); omega) (kx u H locs ls (lv_sub hl [0, 1, 2, 3, 5, 6, 7, 8, 11, 12, 13, 14, 15] rfl) hw)
    · have hk1 : sKn rw xr mp mm g 10 y = 1 := hk01.resolve_left j6
      exact absurd hk1 c3
  · have ed : tD d = nI d := by unfold tD; rw [if_neg (by omega)]
    refine lv_iload hx hb dL_law_637 (lv_at hl 1 rfl) ?_
    refine lv_if_ge (tgt := 646) hx hb dL_law_639 (by decide) (fun j1 => ?_) (fun h => absurd (show 0 ≤ cT z r q g by rw [c1]; exact inle (by omega)) h)
    refine lv_iconst (v := 0) hx hb dL_law_646 (by decide) ?_
    refine lv_iload hx hb dL_law_647 (lv_at hl 0 rfl) ?_
    refine lv_if_ge (tgt := 656) hx hb dL_law_649 (by decide) (fun j2 => ?_) (fun h => absurd (show 0 ≤ tD d by rw [ed]; exact inle (by omega)) h)
    refine lv_iconst (v := 0) hx hb dL_law_656 (by decide) ?_
    refine lv_icmp_ne (tgt := 672) hx hb dL_law_657 (by decide) (fun h => absurd rfl h) (fun j3 => ?_)
    refine lv_iload hx hb dL_law_660 (lv_at hl 1 rfl) ?_
    refine lv_if_lt (tgt := 674) hx hb dL_law_662 (by decide) (fun h => absurd h (by rw [c1]; exact inneg (by omega))) (fun j4 => ?_)
    refine lv_iload hx hb dL_law_665 (lv_at hl 1 rfl) ?_
    refine lv_iload hx hb dL_law_667 (lv_at hl 0 rfl) ?_
    refine lv_icmp_ge (tgt := 674) hx hb dL_law_669 (by decide) (fun j5 => ?_) (fun h => absurd (show tD d ≤ cT z r q g by rw [ed, c1]; exact nI_le c3 (by omega)) h)
    refine lv_aload_n hx hb dL_law_674 rfl (lv_at hl 9 rfl) ?_
    refine lv_iload hx hb dL_law_675 (lv_at hl 3 rfl) ?_
    refine ccall_i hc hw (crunV (n := 1) (As := [.int (nI g)]) (rest := []) hc hw (k_knowsWay hst _ a z r u _ hH hkw) gL_law_X3_knowsWay rfl (by decide +kernel) ⟨Nat.le_of_ble_eq_true rfl, Nat.le_of_ble_eq_true rfl⟩ 0 rfl rfl rfl rfl hl.1 (Nat.le_of_ble_eq_true rfl) dL_law_677 (by first | exact ⟨Nat.le_of_ble_eq_true rfl, Nat.le_of_ble_eq_true rfl⟩ | (refine ⟨?_, ?_⟩ <;> ((try dsimp only); omega)))) (fun x0 u H locs hp hw => ?_)
    have hx0 : x0 = _ := hp
    subst hx0
    refine lv_if_eq (tgt := 698) hx hb dL_law_680 (by decide) (fun j6 => ?_) (fun j6 => ?_)
    · refine lv_aload_n hx hb dL_law_698 rfl (lv_at hl 9 rfl) ?_
      refine lv_iload hx hb dL_law_699 (lv_at hl 3 rfl) ?_
      refine ccall_i hc hw (crunV (n := 1) (As := [.int (nI g)]) (rest := []) hc hw (kk_best hst hA0 h3 hN6 hB6 hy hyn hg) gL_law_X3_bestShepherd rfl (by decide +kernel) ⟨Nat.le_of_ble_eq_true rfl, Nat.le_of_ble_eq_true rfl⟩ 0 rfl rfl rfl rfl hl.1 (Nat.le_of_ble_eq_true rfl) dL_law_701 (by first | exact ⟨Nat.le_of_ble_eq_true rfl, Nat.le_of_ble_eq_true rfl⟩ | (refine ⟨?_, ?_⟩ <;> ((try dsimp only); omega)))) (fun hb9 u H locs hp hw => ?_)
      have hbest := hp
      refine lv_istore (lv' := [(13, .int hb9), (12, .int (tD d)), (11, .int (cT z r q g)), (10, .int (nI y)), (9, .int (nI g)), (7, .int (nI n)), (5, .long (cD z r)), (4, .int x4), (3, .int (nI tm)), (2, .ref aS), (1, .ref (a 0)), (0, .ref bs)]) hx hb dL_law_704 hl (by decide) rfl (fun ls hl => ?_)
      refine lv_aload_n hx hb dL_law_706 rfl (lv_at hl 10 rfl) ?_
      refine ccall_l hc hw (crunV (n := 0) (As := []) (rest := []) hc hw (k_digest _ a z r u (ans := cD z r) hH rfl) gL_law_X3_digest rfl (by decide +kernel) ⟨Nat.le_of_ble_eq_true rfl, Nat.le_of_ble_eq_true rfl⟩ 0 rfl rfl rfl rfl hl.1 (Nat.le_of_ble_eq_true rfl) dL_law_707 (by first | exact ⟨Nat.le_of_ble_eq_true rfl, Nat.le_of_ble_eq_true rfl⟩ | (refine ⟨?_, ?_⟩ <;> ((try dsimp only); omega)))) (fun x0 u H locs hp hw => ?_)
      have hx0 : x0 = _ := hp
      subst hx0
      refine lv_lload hx hb dL_law_710 (lv_at hl 6 rfl) ?_
      refine W.lcmp hx hb dL_law_712 ?_
      refine lv_if_eq (tgt := 718) hx hb dL_law_713 (by decide) (fun j7 => ?_) (fun h => absurd (lcmp0 rfl) h)
      rcases hbest with hbest | ⟨pp, hpp, hbest, hr0, hb1, hb2⟩
      · refine lv_iload hx hb dL_law_718 (lv_at hl 0 rfl) ?_
        refine lv_if_lt (tgt := 789) hx hb dL_law_720 (by decide) (fun j8 => ?_) (fun h => absurd (show hb9 < 0 by rw [hbest]; decide) h)
        refine lv_aload_n hx hb dL_law_789 rfl (lv_at hl 10 rfl) ?_
        refine ccall_i hc hw (crunV (n := 0) (As := []) (rest := []) hc hw (k_milesWalked _ a z r u (ans := v 9) (hv.1.2.2.2.1.symm)) gL_law_X3_milesWalked rfl (by decide +kernel) ⟨Nat.le_of_ble_eq_true rfl, Nat.le_of_ble_eq_true rfl⟩ 0 rfl rfl rfl rfl hl.1 (Nat.le_of_ble_eq_true rfl) dL_law_790 (by first | exact ⟨Nat.le_of_ble_eq_true rfl, Nat.le_of_ble_eq_true rfl⟩ | (refine ⟨?_, ?_⟩ <;> ((try dsimp only); omega)))) (fun x0 u H locs hp hw => ?_)
        have hx0 : x0 = _ := hp
        subst hx0
        refine lv_istore (lv' := [(14, .int (v 9)), (13, .int hb9), (12, .int (tD d)), (11, .int (cT z r q g)), (10, .int (nI y)), (9, .int (nI g)), (7, .int (nI n)), (5, .long (cD z r)), (4, .int x4), (3, .int (nI tm)), (2, .ref aS), (1, .ref (a 0)), (0, .ref bs)]) hx hb dL_law_793 hl (by decide) rfl (fun ls hl => ?_)
        refine lv_aload_n hx hb dL_law_795 rfl (lv_at hl 11 rfl) ?_
        refine ccall_i hc hw (crunV (n := 0) (As := []) (rest := []) hc hw (k_milesDoubled _ a z r u (ans := v 10) (hv.1.2.2.2.2.1.symm)) gL_law_X3_milesDoubled rfl (by decide +kernel) ⟨Nat.le_of_ble_eq_true rfl, Nat.le_of_ble_eq_true rfl⟩ 0 rfl rfl rfl rfl hl.1 (Nat.le_of_ble_eq_true rfl) dL_law_796 (by first | exact ⟨Nat.le_of_ble_eq_true rfl, Nat.le_of_ble_eq_true rfl⟩ | (refine ⟨?_, ?_⟩ <;> ((try dsimp only); omega)))) (fun x0 u H locs hp hw => ?_)
        have hx0 : x0 = _ := hp
        subst hx0
        refine lv_istore (lv' := [(15, .int (v 10)), (14, .int (v 9)), (13, .int hb9), (12, .int (tD d)), (11, .int (cT z r q g)), (10, .int (nI y)), (9, .int (nI g)), (7, .int (nI n)), (5, .long (cD z r)), (4, .int x4), (3, .int (nI tm)), (2, .ref aS), (1, .ref (a 0)), (0, .ref bs)]) hx hb dL_law_799 hl (by decide) rfl (fun ls hl => ?_)
        refine lv_aload_n hx hb dL_law_801 rfl (lv_at hl 12 rfl) ?_
        refine ccall_i hc hw (crunV (n := 0) (As := []) (rest := []) hc hw (k_errandsDone _ a z r u (ans := v 11) (hv.1.2.2.2.2.2.1.symm)) gL_law_X3_errandsDone rfl (by decide +kernel) ⟨Nat.le_of_ble_eq_true rfl, Nat.le_of_ble_eq_true rfl⟩ 0 rfl rfl rfl rfl hl.1 (Nat.le_of_ble_eq_true rfl) dL_law_802 (by first | exact ⟨Nat.le_of_ble_eq_true rfl, Nat.le_of_ble_eq_true rfl⟩ | (refine ⟨?_, ?_⟩ <;> ((try dsimp only); omega)))) (fun x0 u H locs hp hw => ?_)
        have hx0 : x0 = _ := hp
        subst hx0
        refine lv_istore (lv' := [(16, .int (v 11)), (15, .int (v 10)), (14, .int (v 9)), (13, .int hb9), (12, .int (tD d)), (11, .int (cT z r q g)), (10, .int (nI y)), (9, .int (nI g)), (7, .int (nI n)), (5, .long (cD z r)), (4, .int x4), (3, .int (nI tm)), (2, .ref aS), (1, .ref (a 0)), (0, .ref bs)]) hx hb dL_law_805 hl (by decide) rfl (fun ls hl => ?_)
        refine lv_aload_n hx hb dL_law_807 rfl (lv_at hl 13 rfl) ?_
        refine ccall_i hc hw (crunV (n := 0) (As := []) (rest := []) hc hw (k_errandsInVain _ a z r u (ans := v 12) (hv.1.2.2.2.2.2.2.1.symm)) gL_law_X3_errandsInVain rfl (by decide +kernel) ⟨Nat.le_of_ble_eq_true rfl, Nat.le_of_ble_eq_true rfl⟩ 0 rfl rfl rfl rfl hl.1 (Nat.le_of_ble_eq_true rfl) dL_law_808 (by first | exact ⟨Nat.le_of_ble_eq_true rfl, Nat.le_of_ble_eq_true rfl⟩ | (refine ⟨?_, ?_⟩ <;> ((try dsimp only); omega)))) (fun x0 u H locs hp hw => ?_)
        have hx0 : x0 = _ := hp
        subst hx0
        refine lv_istore (lv' := [(17, .int (v 12)), (16, .int (v 11)), (15, .int (v 10)), (14, .int (v 9)), (13, .int hb9), (12, .int (tD d)), (11, .int (cT z r q g)), (10, .int (nI y)), (9, .int (nI g)), (7, .int (nI n)), (5, .long (cD z r)), (4, .int x4), (3, .int (nI tm)), (2, .ref aS), (1, .ref (a 0)), (0, .ref bs)]) hx hb dL_law_811 hl (by decide) rfl (fun ls hl => ?_)
        exact W.widen (k := C + 70) (n := S + 400) (by (try dsimp only); omega) (by (try dsimp only); omega) (kx u H locs ls (lv_sub hl [0, 1, 2, 3, 5, 6, 7, 8, 11, 12, 13, 14, 15] rfl) hw)
      · rw [hbest] at hl
        refine lv_iload hx hb dL_law_718 (lv_at hl 0 rfl) ?_
        refine lv_if_lt (tgt := 789) hx hb dL_law_720 (by decide) (fun h => absurd h (inneg (by omega))) (fun j8 => ?_)
        refine lv_aload_n hx hb dL_law_723 rfl (lv_at hl 10 rfl) ?_
        refine lv_iload hx hb dL_law_724 (lv_at hl 0 rfl) ?_
        refine ccall_i hc hw (crunV (n := 1) (As := [.int (nI pp)]) (rest := []) hc hw (k_hasShepherd hst _ a z r u _ hH (by rw [l_hasShepherd hL (by omega), hr0])) gL_law_X3_hasShepherd rfl (by decide +kernel) ⟨Nat.le_of_ble_eq_true rfl, Nat.le_of_ble_eq_true rfl⟩ 0 rfl rfl rfl rfl hl.1 (Nat.le_of_ble_eq_true rfl) dL_law_726 (by first | exact ⟨Nat.le_of_ble_eq_true rfl, Nat.le_of_ble_eq_true rfl⟩ | (refine ⟨?_, ?_⟩ <;> ((try dsimp only); omega)))) (fun x0 u H locs hp hw => ?_)
        have hx0 : x0 = 0 := hp
        subst hx0
        refine lv_if_ne (tgt := 741) hx hb dL_law_729 (by decide) (fun h => absurd rfl h) (fun j9 => ?_)
        refine lv_aload_n hx hb dL_law_732 rfl (lv_at hl 10 rfl) ?_
        refine lv_iload hx hb dL_law_733 (lv_at hl 0 rfl) ?_
        obtain ⟨kt, hA1⟩ := kA_turnShep (l := l) (G := G) (sz := H.size) (a := a) (u := u) hst hA0 hpp
        rw [if_pos hr0] at kt hA1
        have hb3 : cT z (va_up r 1 (upd (r 1) pp 1)) q g = -1 ∨ ∃ w, cT z (va_up r 1 (upd (r 1) pp 1)) q g = nI w ∧ w ≤ 360 := by
          obtain ⟨_, _, _, _, -, -, -, -, -, -, -, hh⟩ := c_err hA1 h3 hN6 hB6 hy hyn hg
          rcases hh with ⟨-, h, -⟩ | ⟨-, _, _, -, ⟨-, -, -, w, h, h2, -⟩ | ⟨-, h, -⟩⟩
          · exact Or.inr ⟨0, h, by omega⟩
          · exact Or.inr ⟨w, h, h2⟩
          · exact Or.inl h
        refine ccall_i hc hw (crunV (n := 1) (As := [.int (nI pp)]) (rest := []) hc hw (kt) gL_law_X3_turnShepherd rfl (by decide +kernel) ⟨Nat.le_of_ble_eq_true rfl, Nat.le_of_ble_eq_true rfl⟩ 0 rfl rfl rfl rfl hl.1 (Nat.le_of_ble_eq_true rfl) dL_law_735 (by first | exact ⟨Nat.le_of_ble_eq_true rfl, Nat.le_of_ble_eq_true rfl⟩ | (refine ⟨?_, ?_⟩ <;> ((try dsimp only); omega)))) (fun x0 u H locs hp hw => ?_)
        have hx0 : x0 = 1 := hp
        subst hx0
        refine lv_if_ne (tgt := 743) hx hb dL_law_738 (by decide) (fun j10 => ?_) (fun h => absurd h (by decide))
        refine lv_aload_n hx hb dL_law_743 rfl (lv_at hl 10 rfl) ?_
        refine lv_iload hx hb dL_law_744 (lv_at hl 4 rfl) ?_
        refine ccall_i hc hw (crunV (n := 1) (As := [.int (nI g)]) (rest := []) hc hw (kk_would hst hA1 h3 hN6 hg) gL_law_X3_wouldWalk rfl (by decide +kernel) ⟨Nat.le_of_ble_eq_true rfl, Nat.le_of_ble_eq_true rfl⟩ 0 rfl rfl rfl rfl hl.1 (Nat.le_of_ble_eq_true rfl) dL_law_746 (by first | exact ⟨Nat.le_of_ble_eq_true rfl, Nat.le_of_ble_eq_true rfl⟩ | (refine ⟨?_, ?_⟩ <;> ((try dsimp only); omega)))) (fun x0 u H locs hp hw => ?_)
        have hx0 : x0 = _ := hp
        subst hx0
        obtain ⟨w8, hw8, hw9⟩ := hb3.resolve_left hb1
        refine lv_istore (lv' := [(14, .int (cT z (va_up r 1 (upd (r 1) pp 1)) q g)), (13, .int (nI pp)), (12, .int (tD d)), (11, .int (cT z r q g)), (10, .int (nI y)), (9, .int (nI g)), (7, .int (nI n)), (5, .long (cD z r)), (4, .int x4), (3, .int (nI tm)), (2, .ref aS), (1, .ref (a 0)), (0, .ref bs)]) hx hb dL_law_749 hl (by decide) rfl (fun ls hl => ?_)
        refine lv_iload hx hb dL_law_751 (lv_at hl 0 rfl) ?_
        refine lv_if_lt (tgt := 787) hx hb dL_law_753 (by decide) (fun h => absurd h (by rw [hw8]; exact inneg (by omega))) (fun j11 => ?_)
        refine lv_iload hx hb dL_law_756 (lv_at hl 3 rfl) ?_
        refine lv_if_lt (tgt := 768) hx hb dL_law_758 (by decide) (fun h => absurd h (by rw [c1]; exact inneg (by omega))) (fun j12 => ?_)
        refine lv_iload hx hb dL_law_761 (lv_at hl 0 rfl) ?_
        refine lv_iload hx hb dL_law_763 (lv_at hl 3 rfl) ?_
        refine lv_icmp_ge (tgt := 787) hx hb dL_law_765 (by decide) (fun h => absurd (hb2.resolve_left (by rw [c1]; intro h9; have h8 := congrArg Int32.toInt h9; rw [nI_toInt (by omega), show (-1 : Int32).toInt = -1 from rfl] at h8; omega)) (by rw [xltI]; have := (xle _ _).mp h; omega)) (fun j13 => ?_)
        refine lv_aload_n hx hb dL_law_768 rfl (lv_at hl 11 rfl) ?_
        refine lv_iload hx hb dL_law_769 (lv_at hl 1 rfl) ?_
        obtain ⟨kt2, -⟩ := kA_turnShep (l := l) (G := G) (sz := H.size) (a := a) (u := u) hst hA1 hpp
        have e1 : va_up r 1 (upd (r 1) pp 1) 1 pp = 1 := pk_us
        rw [if_neg (by rw [e1]; decide)] at kt2
        rw [show va_up (va_up r 1 (upd (r 1) pp 1)) 1 (upd (va_up r 1 (upd (r 1) pp 1) 1) pp 0) = r from upback hr0] at kt2
        refine ccall_i hc hw (crunV (n := 1) (As := [.int (nI pp)]) (rest := []) hc hw (kt2) gL_law_X3_turnShepherd rfl (by decide +kernel) ⟨Nat.le_of_ble_eq_true rfl, Nat.le_of_ble_eq_true rfl⟩ 0 rfl rfl rfl rfl hl.1 (Nat.le_of_ble_eq_true rfl) dL_law_771 (by first | exact ⟨Nat.le_of_ble_eq_true rfl, Nat.le_of_ble_eq_true rfl⟩ | (refine ⟨?_, ?_⟩ <;> ((try dsimp only); omega)))) (fun x0 u H locs hp hw => ?_)
        have hx0 : x0 = 0 := hp
        subst hx0
        refine lv_if_ne (tgt := 787) hx hb dL_law_774 (by decide) (fun h => absurd rfl h) (fun j14 => ?_)
        refine lv_aload_n hx hb dL_law_777 rfl (lv_at hl 11 rfl) ?_
        refine ccall_l hc hw (crunV (n := 0) (As := []) (rest := []) hc hw (k_digest _ a z r u (ans := cD z r) hH rfl) gL_law_X3_digest rfl (by decide +kernel) ⟨Nat.le_of_ble_eq_true rfl, Nat.le_of_ble_eq_true rfl⟩ 0 rfl rfl rfl rfl hl.1 (Nat.le_of_ble_eq_true rfl) dL_law_778 (by first | exact ⟨Nat.le_of_ble_eq_true rfl, Nat.le_of_ble_eq_true rfl⟩ | (refine ⟨?_, ?_⟩ <;> ((try dsimp only); omega)))) (fun x0 u H locs hp hw => ?_)
        have hx0 : x0 = _ := hp
        subst hx0
        refine lv_lload hx hb dL_law_781 (lv_at hl 7 rfl) ?_
        refine W.lcmp hx hb dL_law_783 ?_
        refine lv_if_eq (tgt := 789) hx hb dL_law_784 (by decide) (fun j15 => ?_) (fun h => absurd (lcmp0 rfl) h)
        refine lv_aload_n hx hb dL_law_789 rfl (lv_at hl 11 rfl) ?_
        refine ccall_i hc hw (crunV (n := 0) (As := []) (rest := []) hc hw (k_milesWalked _ a z r u (ans := v 9) (hv.1.2.2.2.1.symm)) gL_law_X3_milesWalked rfl (by decide +kernel) ⟨Nat.le_of_ble_eq_true rfl, Nat.le_of_ble_eq_true rfl⟩ 0 rfl rfl rfl rfl hl.1 (Nat.le_of_ble_eq_true rfl) dL_law_790 (by first | exact ⟨Nat.le_of_ble_eq_true rfl, Nat.le_of_ble_eq_true rfl⟩ | (refine ⟨?_, ?_⟩ <;> ((try dsimp only); omega)))) (fun x0 u H locs hp hw => ?_)
        have hx0 : x0 = _ := hp
        subst hx0
        refine lv_istore (lv' := [(14, .int (v 9)), (13, .int (nI pp)), (12, .int (tD d)), (11, .int (cT z r q g)), (10, .int (nI y)), (9, .int (nI g)), (7, .int (nI n)), (5, .long (cD z r)), (4, .int x4), (3, .int (nI tm)), (2, .ref aS), (1, .ref (a 0)), (0, .ref bs)]) hx hb dL_law_793 hl (by decide) rfl (fun ls hl => ?_)
        refine lv_aload_n hx hb dL_law_795 rfl (lv_at hl 11 rfl) ?_
        refine ccall_i hc hw (crunV (n := 0) (As := []) (rest := []) hc hw (k_milesDoubled _ a z r u (ans := v 10) (hv.1.2.2.2.2.1.symm)) gL_law_X3_milesDoubled rfl (by decide +kernel) ⟨Nat.le_of_ble_eq_true rfl, Nat.le_of_ble_eq_true rfl⟩ 0 rfl rfl rfl rfl hl.1 (Nat.le_of_ble_eq_true rfl) dL_law_796 (by first | exact ⟨Nat.le_of_ble_eq_true rfl, Nat.le_of_ble_eq_true rfl⟩ | (refine ⟨?_, ?_⟩ <;> ((try dsimp only); omega)))) (fun x0 u H locs hp hw => ?_)
        have hx0 : x0 = _ := hp
        subst hx0
        refine lv_istore (lv' := [(15, .int (v 10)), (14, .int (v 9)), (13, .int (nI pp)), (12, .int (tD d)), (11, .int (cT z r q g)), (10, .int (nI y)), (9, .int (nI g)), (7, .int (nI n)), (5, .long (cD z r)), (4, .int x4), (3, .int (nI tm)), (2, .ref aS), (1, .ref (a 0)), (0, .ref bs)]) hx hb dL_law_799 hl (by decide) rfl (fun ls hl => ?_)
        refine lv_aload_n hx hb dL_law_801 rfl (lv_at hl 12 rfl) ?_
        refine ccall_i hc hw (crunV (n := 0) (As := []) (rest := []) hc hw (k_errandsDone _ a z r u (ans := v 11) (hv.1.2.2.2.2.2.1.symm)) gL_law_X3_errandsDone rfl (by decide +kernel) ⟨Nat.le_of_ble_eq_true rfl, Nat.le_of_ble_eq_true rfl⟩ 0 rfl rfl rfl rfl hl.1 (Nat.le_of_ble_eq_true rfl) dL_law_802 (by first | exact ⟨Nat.le_of_ble_eq_true rfl, Nat.le_of_ble_eq_true rfl⟩ | (refine ⟨?_, ?_⟩ <;> ((try dsimp only); omega)))) (fun x0 u H locs hp hw => ?_)
        have hx0 : x0 = _ := hp
        subst hx0
        refine lv_istore (lv' := [(16, .int (v 11)), (15, .int (v 10)), (14, .int (v 9)), (13, .int (nI pp)), (12, .int (tD d)), (11, .int (cT z r q g)), (10, .int (nI y)), (9, .int (nI g)), (7, .int (nI n)), (5, .long (cD z r)), (4, .int x4), (3, .int (nI tm)), (2, .ref aS), (1, .ref (a 0)), (0, .ref bs)]) hx hb dL_law_805 hl (by decide) rfl (fun ls hl => ?_)
        refine lv_aload_n hx hb dL_law_807 rfl (lv_at hl 13 rfl) ?_
        refine ccall_i hc hw (crunV (n := 0) (As := []) (rest := []) hc hw (k_errandsInVain _ a z r u (ans := v 12) (hv.1.2.2.2.2.2.2.1.symm)) gL_law_X3_errandsInVain rfl (by decide +kernel) ⟨Nat.le_of_ble_eq_true rfl, Nat.le_of_ble_eq_true rfl⟩ 0 rfl rfl rfl rfl hl.1 (Nat.le_of_ble_eq_true rfl) dL_law_808 (by first | exact ⟨Nat.le_of_ble_eq_true rfl, Nat.le_of_ble_eq_true rfl⟩ | (refine ⟨?_, ?_⟩ <;> ((try dsimp only); omega)))) (fun x0 u H locs hp hw => ?_)
        have hx0 : x0 = _ := hp
        subst hx0
        refine lv_istore (lv' := [(17, .int (v 12)), (16, .int (v 11)), (15, .int (v 10)), (14, .int (v 9)), (13, .int (nI pp)), (12, .int (tD d)), (11, .int (cT z r q g)), (10, .int (nI y)), (9, .int (nI g)), (7, .int (nI n)), (5, .long (cD z r)), (4, .int x4), (3, .int (nI tm)), (2, .ref aS), (1, .ref (a 0)), (0, .ref bs)]) hx hb dL_law_811 hl (by decide) rfl (fun ls hl => ?_)
        exact W.widen (k := C + 70) (n := S + 400) (by (try dsimp only); omega) (by (try dsimp only); omega) (kx u H locs ls (lv_sub hl [0, 1, 2, 3, 5, 6, 7, 8, 11, 12, 13, 14, 15] rfl) hw)
    · have hk1 : sKn rw xr mp mm g 10 y = 1 := hk01.resolve_left j6
      refine lv_iload hx hb dL_law_683 (lv_at hl 1 rfl) ?_
      refine lv_aload_n hx hb dL_law_685 rfl (lv_at hl 9 rfl) ?_
      refine lv_iload hx hb dL_law_686 (lv_at hl 2 rfl) ?_
      refine lv_iload hx hb dL_law_688 (lv_at hl 3 rfl) ?_
      refine wcall_i hc hw (wrunS (n := 3) (As := [.ref (a 0), .int (nI y), .int (nI g)]) (rest := [.int (cT z r q g)]) hc hw (metL_known l G hst _ a u L f hA0 hyn hg) gL_law_L_known rfl (by decide +kernel) ⟨Nat.le_of_ble_eq_true rfl, Nat.le_of_ble_eq_true rfl⟩ rfl rfl hl.1 (Nat.le_of_ble_eq_true rfl) dL_law_690 (by first | exact ⟨Nat.le_of_ble_eq_true rfl, Nat.le_of_ble_eq_true rfl⟩ | (refine ⟨?_, ?_⟩ <;> ((try dsimp only); omega)))) (fun x0 u H locs hp hw => ?_)
      have hx0 : x0 = _ := hp.trans (hkn hk1)
      subst hx0
      refine lv_icmp_eq (tgt := 698) hx hb dL_law_693 (by decide) (fun j66 => ?_) (fun h => absurd (show cT z r q g = nI K9 by rw [c1, c5 hk1]) h)
      refine lv_aload_n hx hb dL_law_698 rfl (lv_at hl 9 rfl) ?_
      refine lv_iload hx hb dL_law_699 (lv_at hl 3 rfl) ?_
      refine ccall_i hc hw (crunV (n := 1) (As := [.int (nI g)]) (rest := []) hc hw (kk_best hst hA0 h3 hN6 hB6 hy hyn hg) gL_law_X3_bestShepherd rfl (by decide +kernel) ⟨Nat.le_of_ble_eq_true rfl, Nat.le_of_ble_eq_true rfl⟩ 0 rfl rfl rfl rfl hl.1 (Nat.le_of_ble_eq_true rfl) dL_law_701 (by first | exact ⟨Nat.le_of_ble_eq_true rfl, Nat.le_of_ble_eq_true rfl⟩ | (refine ⟨?_, ?_⟩ <;> ((try dsimp only); omega)))) (fun hb9 u H locs hp hw => ?_)
      have hbest := hp
      refine lv_istore (lv' := [(13, .int hb9), (12, .int (tD d)), (11, .int (cT z r q g)), (10, .int (nI y)), (9, .int (nI g)), (7, .int (nI n)), (5, .long (cD z r)), (4, .int x4), (3, .int (nI tm)), (2, .ref aS), (1, .ref (a 0)), (0, .ref bs)]) hx hb dL_law_704 hl (by decide) rfl (fun ls hl => ?_)
      refine lv_aload_n hx hb dL_law_706 rfl (lv_at hl 10 rfl) ?_
      refine ccall_l hc hw (crunV (n := 0) (As := []) (rest := []) hc hw (k_digest _ a z r u (ans := cD z r) hH rfl) gL_law_X3_digest rfl (by decide +kernel) ⟨Nat.le_of_ble_eq_true rfl, Nat.le_of_ble_eq_true rfl⟩ 0 rfl rfl rfl rfl hl.1 (Nat.le_of_ble_eq_true rfl) dL_law_707 (by first | exact ⟨Nat.le_of_ble_eq_true rfl, Nat.le_of_ble_eq_true rfl⟩ | (refine ⟨?_, ?_⟩ <;> ((try dsimp only); omega)))) (fun x0 u H locs hp hw => ?_)
      have hx0 : x0 = _ := hp
      subst hx0
      refine lv_lload hx hb dL_law_710 (lv_at hl 6 rfl) ?_
      refine W.lcmp hx hb dL_law_712 ?_
      refine lv_if_eq (tgt := 718) hx hb dL_law_713 (by decide) (fun j7 => ?_) (fun h => absurd (lcmp0 rfl) h)
      rcases hbest with hbest | ⟨pp, hpp, hbest, hr0, hb1, hb2⟩
      · refine lv_iload hx hb dL_law_718 (lv_at hl 0 rfl) ?_
        refine lv_if_lt (tgt := 789) hx hb dL_law_720 (by decide) (fun j8 => ?_) (fun h => absurd (show hb9 < 0 by rw [hbest]; decide) h)
        refine lv_aload_n hx hb dL_law_789 rfl (lv_at hl 10 rfl) ?_
        refine ccall_i hc hw (crunV (n := 0) (As := []) (rest := []) hc hw (k_milesWalked _ a z r u (ans := v 9) (hv.1.2.2.2.1.symm)) gL_law_X3_milesWalked rfl (by decide +kernel) ⟨Nat.le_of_ble_eq_true rfl, Nat.le_of_ble_eq_true rfl⟩ 0 rfl rfl rfl rfl hl.1 (Nat.le_of_ble_eq_true rfl) dL_law_790 (by first | exact ⟨Nat.le_of_ble_eq_true rfl, Nat.le_of_ble_eq_true rfl⟩ | (refine ⟨?_, ?_⟩ <;> ((try dsimp only); omega)))) (fun x0 u H locs hp hw => ?_)
        have hx0 : x0 = _ := hp
        subst hx0
        refine lv_istore (lv' := [(14, .int (v 9)), (13, .int hb9), (12, .int (tD d)), (11, .int (cT z r q g)), (10, .int (nI y)), (9, .int (nI g)), (7, .int (nI n)), (5, .long (cD z r)), (4, .int x4), (3, .int (nI tm)), (2, .ref aS), (1, .ref (a 0)), (0, .ref bs)]) hx hb dL_law_793 hl (by decide) rfl (fun ls hl => ?_)
        refine lv_aload_n hx hb dL_law_795 rfl (lv_at hl 11 rfl) ?_
        refine ccall_i hc hw (crunV (n := 0) (As := []) (rest := []) hc hw (k_milesDoubled _ a z r u (ans := v 10) (hv.1.2.2.2.2.1.symm)) gL_law_X3_milesDoubled rfl (by decide +kernel) ⟨Nat.le_of_ble_eq_true rfl, Nat.le_of_ble_eq_true rfl⟩ 0 rfl rfl rfl rfl hl.1 (Nat.le_of_ble_eq_true rfl) dL_law_796 (by first | exact ⟨Nat.le_of_ble_eq_true rfl, Nat.le_of_ble_eq_true rfl⟩ | (refine ⟨?_, ?_⟩ <;> ((try dsimp only); omega)))) (fun x0 u H locs hp hw => ?_)
        have hx0 : x0 = _ := hp
        subst hx0
        refine lv_istore (lv' := [(15, .int (v 10)), (14, .int (v 9)), (13, .int hb9), (12, .int (tD d)), (11, .int (cT z r q g)), (10, .int (nI y)), (9, .int (nI g)), (7, .int (nI n)), (5, .long (cD z r)), (4, .int x4), (3, .int (nI tm)), (2, .ref aS), (1, .ref (a 0)), (0, .ref bs)]) hx hb dL_law_799 hl (by decide) rfl (fun ls hl => ?_)
        refine lv_aload_n hx hb dL_law_801 rfl (lv_at hl 12 rfl) ?_
        refine ccall_i hc hw (crunV (n := 0) (As := []) (rest := []) hc hw (k_errandsDone _ a z r u (ans := v 11) (hv.1.2.2.2.2.2.1.symm)) gL_law_X3_errandsDone rfl (by decide +kernel) ⟨Nat.le_of_ble_eq_true rfl, Nat.le_of_ble_eq_true rfl⟩ 0 rfl rfl rfl rfl hl.1 (Nat.le_of_ble_eq_true rfl) dL_law_802 (by first | exact ⟨Nat.le_of_ble_eq_true rfl, Nat.le_of_ble_eq_true rfl⟩ | (refine ⟨?_, ?_⟩ <;> ((try dsimp only); omega)))) (fun x0 u H locs hp hw => ?_)
        have hx0 : x0 = _ := hp
        subst hx0
        refine lv_istore (lv' := [(16, .int (v 11)), (15, .int (v 10)), (14, .int (v 9)), (13, .int hb9), (12, .int (tD d)), (11, .int (cT z r q g)), (10, .int (nI y)), (9, .int (nI g)), (7, .int (nI n)), (5, .long (cD z r)), (4, .int x4), (3, .int (nI tm)), (2, .ref aS), (1, .ref (a 0)), (0, .ref bs)]) hx hb dL_law_805 hl (by decide) rfl (fun ls hl => ?_)
        refine lv_aload_n hx hb dL_law_807 rfl (lv_at hl 13 rfl) ?_
        refine ccall_i hc hw (crunV (n := 0) (As := []) (rest := []) hc hw (k_errandsInVain _ a z r u (ans := v 12) (hv.1.2.2.2.2.2.2.1.symm)) gL_law_X3_errandsInVain rfl (by decide +kernel) ⟨Nat.le_of_ble_eq_true rfl, Nat.le_of_ble_eq_true rfl⟩ 0 rfl rfl rfl rfl hl.1 (Nat.le_of_ble_eq_true rfl) dL_law_808 (by first | exact ⟨Nat.le_of_ble_eq_true rfl, Nat.le_of_ble_eq_true rfl⟩ | (refine ⟨?_, ?_⟩ <;> ((try dsimp only); omega)))) (fun x0 u H locs hp hw => ?_)
        have hx0 : x0 = _ := hp
        subst hx0
        refine lv_istore (lv' := [(17, .int (v 12)), (16, .int (v 11)), (15, .int (v 10)), (14, .int (v 9)), (13, .int hb9), (12, .int (tD d)), (11, .int (cT z r q g)), (10, .int (nI y)), (9, .int (nI g)), (7, .int (nI n)), (5, .long (cD z r)), (4, .int x4), (3, .int (nI tm)), (2, .ref aS), (1, .ref (a 0)), (0, .ref bs)]) hx hb dL_law_811 hl (by decide) rfl (fun ls hl => ?_)
        exact W.widen (k := C + 70) (n := S + 400) (by (try dsimp only); omega) (by (try dsimp only); omega) (kx u H locs ls (lv_sub hl [0, 1, 2, 3, 5, 6, 7, 8, 11, 12, 13, 14, 15] rfl) hw)
      · rw [hbest] at hl
        refine lv_iload hx hb dL_law_718 (lv_at hl 0 rfl) ?_
        refine lv_if_lt (tgt := 789) hx hb dL_law_720 (by decide) (fun h => absurd h (inneg (by omega))) (fun j8 => ?_)
        refine lv_aload_n hx hb dL_law_723 rfl (lv_at hl 10 rfl) ?_
        refine lv_iload hx hb dL_law_724 (lv_at hl 0 rfl) ?_
        refine ccall_i hc hw (crunV (n := 1) (As := [.int (nI pp)]) (rest := []) hc hw (k_hasShepherd hst _ a z r u _ hH (by rw [l_hasShepherd hL (by omega), hr0])) gL_law_X3_hasShepherd rfl (by decide +kernel) ⟨Nat.le_of_ble_eq_true rfl, Nat.le_of_ble_eq_true rfl⟩ 0 rfl rfl rfl rfl hl.1 (Nat.le_of_ble_eq_true rfl) dL_law_726 (by first | exact ⟨Nat.le_of_ble_eq_true rfl, Nat.le_of_ble_eq_true rfl⟩ | (refine ⟨?_, ?_⟩ <;> ((try dsimp only); omega)))) (fun x0 u H locs hp hw => ?_)
        have hx0 : x0 = 0 := hp
        subst hx0
        refine lv_if_ne (tgt := 741) hx hb dL_law_729 (by decide) (fun h => absurd rfl h) (fun j9 => ?_)
        refine lv_aload_n hx hb dL_law_732 rfl (lv_at hl 10 rfl) ?_
        refine lv_iload hx hb dL_law_733 (lv_at hl 0 rfl) ?_
        obtain ⟨kt, hA1⟩ := kA_turnShep (l := l) (G := G) (sz := H.size) (a := a) (u := u) hst hA0 hpp
        rw [if_pos hr0] at kt hA1
        have hb3 : cT z (va_up r 1 (upd (r 1) pp 1)) q g = -1 ∨ ∃ w, cT z (va_up r 1 (upd (r 1) pp 1)) q g = nI w ∧ w ≤ 360 := by
          obtain ⟨_, _, _, _, -, -, -, -, -, -, -, hh⟩ := c_err hA1 h3 hN6 hB6 hy hyn hg
          rcases hh with ⟨-, h, -⟩ | ⟨-, _, _, -, ⟨-, -, -, w, h, h2, -⟩ | ⟨-, h, -⟩⟩
          · exact Or.inr ⟨0, h, by omega⟩
          · exact Or.inr ⟨w, h, h2⟩
          · exact Or.inl h
        refine ccall_i hc hw (crunV (n := 1) (As := [.int (nI pp)]) (rest := []) hc hw (kt) gL_law_X3_turnShepherd rfl (by decide +kernel) ⟨Nat.le_of_ble_eq_true rfl, Nat.le_of_ble_eq_true rfl⟩ 0 rfl rfl rfl rfl hl.1 (Nat.le_of_ble_eq_true rfl) dL_law_735 (by first | exact ⟨Nat.le_of_ble_eq_true rfl, Nat.le_of_ble_eq_true rfl⟩ | (refine ⟨?_, ?_⟩ <;> ((try dsimp only); omega)))) (fun x0 u H locs hp hw => ?_)
        have hx0 : x0 = 1 := hp
        subst hx0
        refine lv_if_ne (tgt := 743) hx hb dL_law_738 (by decide) (fun j10 => ?_) (fun h => absurd h (by decide))
        refine lv_aload_n hx hb dL_law_743 rfl (lv_at hl 10 rfl) ?_
        refine lv_iload hx hb dL_law_744 (lv_at hl 4 rfl) ?_
        refine ccall_i hc hw (crunV (n := 1) (As := [.int (nI g)]) (rest := []) hc hw (kk_would hst hA1 h3 hN6 hg) gL_law_X3_wouldWalk rfl (by decide +kernel) ⟨Nat.le_of_ble_eq_true rfl, Nat.le_of_ble_eq_true rfl⟩ 0 rfl rfl rfl rfl hl.1 (Nat.le_of_ble_eq_true rfl) dL_law_746 (by first | exact ⟨Nat.le_of_ble_eq_true rfl, Nat.le_of_ble_eq_true rfl⟩ | (refine ⟨?_, ?_⟩ <;> ((try dsimp only); omega)))) (fun x0 u H locs hp hw => ?_)
        have hx0 : x0 = _ := hp
        subst hx0
        obtain ⟨w8, hw8, hw9⟩ := hb3.resolve_left hb1
        refine lv_istore (lv' := [(14, .int (cT z (va_up r 1 (upd (r 1) pp 1)) q g)), (13, .int (nI pp)), (12, .int (tD d)), (11, .int (cT z r q g)), (10, .int (nI y)), (9, .int (nI g)), (7, .int (nI n)), (5, .long (cD z r)), (4, .int x4), (3, .int (nI tm)), (2, .ref aS), (1, .ref (a 0)), (0, .ref bs)]) hx hb dL_law_749 hl (by decide) rfl (fun ls hl => ?_)
        refine lv_iload hx hb dL_law_751 (lv_at hl 0 rfl) ?_
        refine lv_if_lt (tgt := 787) hx hb dL_law_753 (by decide) (fun h => absurd h (by rw [hw8]; exact inneg (by omega))) (fun j11 => ?_)
        refine lv_iload hx hb dL_law_756 (lv_at hl 3 rfl) ?_
        refine lv_if_lt (tgt := 768) hx hb dL_law_758 (by decide) (fun h => absurd h (by rw [c1]; exact inneg (by omega))) (fun j12 => ?_)
        refine lv_iload hx hb dL_law_761 (lv_at hl 0 rfl) ?_
        refine lv_iload hx hb dL_law_763 (lv_at hl 3 rfl) ?_
        refine lv_icmp_ge (tgt := 787) hx hb dL_law_765 (by decide) (fun h => absurd (hb2.resolve_left (by rw [c1]; intro h9; have h8 := congrArg Int32.toInt h9; rw [nI_toInt (by omega), show (-1 : Int32).toInt = -1 from rfl] at h8; omega)) (by rw [xltI]; have := (xle _ _).mp h; omega)) (fun j13 => ?_)
        refine lv_aload_n hx hb dL_law_768 rfl (lv_at hl 11 rfl) ?_
        refine lv_iload hx hb dL_law_769 (lv_at hl 1 rfl) ?_
        obtain ⟨kt2, -⟩ := kA_turnShep (l := l) (G := G) (sz := H.size) (a := a) (u := u) hst hA1 hpp
        have e1 : va_up r 1 (upd (r 1) pp 1) 1 pp = 1 := pk_us
        rw [if_neg (by rw [e1]; decide)] at kt2
        rw [show va_up (va_up r 1 (upd (r 1) pp 1)) 1 (upd (va_up r 1 (upd (r 1) pp 1) 1) pp 0) = r from upback hr0] at kt2
        refine ccall_i hc hw (crunV (n := 1) (As := [.int (nI pp)]) (rest := []) hc hw (kt2) gL_law_X3_turnShepherd rfl (by decide +kernel) ⟨Nat.le_of_ble_eq_true rfl, Nat.le_of_ble_eq_true rfl⟩ 0 rfl rfl rfl rfl hl.1 (Nat.le_of_ble_eq_true rfl) dL_law_771 (by first | exact ⟨Nat.le_of_ble_eq_true rfl, Nat.le_of_ble_eq_true rfl⟩ | (refine ⟨?_, ?_⟩ <;> ((try dsimp only); omega)))) (fun x0 u H locs hp hw => ?_)
        have hx0 : x0 = 0 := hp
        subst hx0
        refine lv_if_ne (tgt := 787) hx hb dL_law_774 (by decide) (fun h => absurd rfl h) (fun j14 => ?_)
        refine lv_aload_n hx hb dL_law_777 rfl (lv_at hl 11 rfl) ?_
        refine ccall_l hc hw (crunV (n := 0) (As := []) (rest := []) hc hw (k_digest _ a z r u (ans := cD z r) hH rfl) gL_law_X3_digest rfl (by decide +kernel) ⟨Nat.le_of_ble_eq_true rfl, Nat.le_of_ble_eq_true rfl⟩ 0 rfl rfl rfl rfl hl.1 (Nat.le_of_ble_eq_true rfl) dL_law_778 (by first | exact ⟨Nat.le_of_ble_eq_true rfl, Nat.le_of_ble_eq_true rfl⟩ | (refine ⟨?_, ?_⟩ <;> ((try dsimp only); omega)))) (fun x0 u H locs hp hw => ?_)
        have hx0 : x0 = _ := hp
        subst hx0
        refine lv_lload hx hb dL_law_781 (lv_at hl 7 rfl) ?_
        refine W.lcmp hx hb dL_law_783 ?_
        refine lv_if_eq (tgt := 789) hx hb dL_law_784 (by decide) (fun j15 => ?_) (fun h => absurd (lcmp0 rfl) h)
        refine lv_aload_n hx hb dL_law_789 rfl (lv_at hl 11 rfl) ?_
        refine ccall_i hc hw (crunV (n := 0) (As := []) (rest := []) hc hw (k_milesWalked _ a z r u (ans := v 9) (hv.1.2.2.2.1.symm)) gL_law_X3_milesWalked rfl (by decide +kernel) ⟨Nat.le_of_ble_eq_true rfl, Nat.le_of_ble_eq_true rfl⟩ 0 rfl rfl rfl rfl hl.1 (Nat.le_of_ble_eq_true rfl) dL_law_790 (by first | exact ⟨Nat.le_of_ble_eq_true rfl, Nat.le_of_ble_eq_true rfl⟩ | (refine ⟨?_, ?_⟩ <;> ((try dsimp only); omega)))) (fun x0 u H locs hp hw => ?_)
        have hx0 : x0 = _ := hp
        subst hx0
        refine lv_istore (lv' := [(14, .int (v 9)), (13, .int (nI pp)), (12, .int (tD d)), (11, .int (cT z r q g)), (10, .int (nI y)), (9, .int (nI g)), (7, .int (nI n)), (5, .long (cD z r)), (4, .int x4), (3, .int (nI tm)), (2, .ref aS), (1, .ref (a 0)), (0, .ref bs)]) hx hb dL_law_793 hl (by decide) rfl (fun ls hl => ?_)
        refine lv_aload_n hx hb dL_law_795 rfl (lv_at hl 11 rfl) ?_
        refine ccall_i hc hw (crunV (n := 0) (As := []) (rest := []) hc hw (k_milesDoubled _ a z r u (ans := v 10) (hv.1.2.2.2.2.1.symm)) gL_law_X3_milesDoubled rfl (by decide +kernel) ⟨Nat.le_of_ble_eq_true rfl, Nat.le_of_ble_eq_true rfl⟩ 0 rfl rfl rfl rfl hl.1 (Nat.le_of_ble_eq_true rfl) dL_law_796 (by first | exact ⟨Nat.le_of_ble_eq_true rfl, Nat.le_of_ble_eq_true rfl⟩ | (refine ⟨?_, ?_⟩ <;> ((try dsimp only); omega)))) (fun x0 u H locs hp hw => ?_)
        have hx0 : x0 = _ := hp
        subst hx0
        refine lv_istore (lv' := [(15, .int (v 10)), (14, .int (v 9)), (13, .int (nI pp)), (12, .int (tD d)), (11, .int (cT z r q g)), (10, .int (nI y)), (9, .int (nI g)), (7, .int (nI n)), (5, .long (cD z r)), (4, .int x4), (3, .int (nI tm)), (2, .ref aS), (1, .ref (a 0)), (0, .ref bs)]) hx hb dL_law_799 hl (by decide) rfl (fun ls hl => ?_)
        refine lv_aload_n hx hb dL_law_801 rfl (lv_at hl 12 rfl) ?_
        refine ccall_i hc hw (crunV (n := 0) (As := []) (rest := []) hc hw (k_errandsDone _ a z r u (ans := v 11) (hv.1.2.2.2.2.2.1.symm)) gL_law_X3_errandsDone rfl (by decide +kernel) ⟨Nat.le_of_ble_eq_true rfl, Nat.le_of_ble_eq_true rfl⟩ 0 rfl rfl rfl rfl hl.1 (Nat.le_of_ble_eq_true rfl) dL_law_802 (by first | exact ⟨Nat.le_of_ble_eq_true rfl, Nat.le_of_ble_eq_true rfl⟩ | (refine ⟨?_, ?_⟩ <;> ((try dsimp only); omega)))) (fun x0 u H locs hp hw => ?_)
        have hx0 : x0 = _ := hp
        subst hx0
        refine lv_istore (lv' := [(16, .int (v 11)), (15, .int (v 10)), (14, .int (v 9)), (13, .int (nI pp)), (12, .int (tD d)), (11, .int (cT z r q g)), (10, .int (nI y)), (9, .int (nI g)), (7, .int (nI n)), (5, .long (cD z r)), (4, .int x4), (3, .int (nI tm)), (2, .ref aS), (1, .ref (a 0)), (0, .ref bs)]) hx hb dL_law_805 hl (by decide) rfl (fun ls hl => ?_)
        refine lv_aload_n hx hb dL_law_807 rfl (lv_at hl 13 rfl) ?_
        refine ccall_i hc hw (crunV (n := 0) (As := []) (rest := []) hc hw (k_errandsInVain _ a z r u (ans := v 12) (hv.1.2.2.2.2.2.2.1.symm)) gL_law_X3_errandsInVain rfl (by decide +kernel) ⟨Nat.le_of_ble_eq_true rfl, Nat.le_of_ble_eq_true rfl⟩ 0 rfl rfl rfl rfl hl.1 (Nat.le_of_ble_eq_true rfl) dL_law_808 (by first | exact ⟨Nat.le_of_ble_eq_true rfl, Nat.le_of_ble_eq_true rfl⟩ | (refine ⟨?_, ?_⟩ <;> ((try dsimp only); omega)))) (fun x0 u H locs hp hw => ?_)
        have hx0 : x0 = _ := hp
        subst hx0
        refine lv_istore (lv' := [(17, .int (v 12)), (16, .int (v 11)), (15, .int (v 10)), (14, .int (v 9)), (13, .int (nI pp)), (12, .int (tD d)), (11, .int (cT z r q g)), (10, .int (nI y)), (9, .int (nI g)), (7, .int (nI n)), (5, .long (cD z r)), (4, .int x4), (3, .int (nI tm)), (2, .ref aS), (1, .ref (a 0)), (0, .ref bs)]) hx hb dL_law_811 hl (by decide) rfl (fun ls hl => ?_)
        exact W.widen (k := C + 70) (n := S + 400) (by (try dsimp only); omega) (by (try dsimp only); omega) (kx u H locs ls (lv_sub hl [0, 1, 2, 3, 5, 6, 7, 8, 11, 12, 13, 14, 15] rfl) hw)
set_option maxHeartbeats 40000000 in
set_option maxRecDepth 100000 in
theorem lpw_goes {p : Program} {l : Launch} {e : Env} {s : State} {m : MethodId} {args : Array Value} {below : List Frame} {meth : Method} {c : Code} {Q : State → Prop} {G : xG} {A : Nat → Prop} (hst : l.stackTraces = false) {a : Nat → Nat} {aS bs : Nat} {fr x4 : Int32} {tm : Nat} {ret : Option FieldType} {N : Nat} {B : Int} {z : Nat → Int32} {r : Nat → Nat → Int32} {rs : Int32} {q : Nat → Nat → Int32} {n : Nat} {xn : Nat → Nat} {xr : Nat → Nat → Int32} {nr : Nat} {v : Nat → Int32} {rw : Nat → Nat → Int32} {ak : Nat → Int32} {wl : Nat} {wy : Nat → Nat → Int32} {mp : Nat → Nat → Bool} {mm : Nat → Nat → Nat → Int32} (hc : xC p s m args meth c cL_law 20 RL wsL_law ret G A) (hA0 : cA N B z r rs q n xn xr nr v rw ak wl wy mp mm) {L : List Nat} {f : Nat → va_E} {C S : Nat} (hCS : C ≤ 600000 ∧ S ≤ 6000000) (hN : N < 100000) (hB : 0 ≤ B ∧ B ≤ 900000) {y g d : Nat} (hy : v 4 = nI y) (hyn : y < n) (hg : g < n) (h3 : z 3 = -1) {F : Nat → Nat} (hF : eD (zeo (z 0) (r 0) (r 5)) (zq (r 2)) (zq (r 4)) g F) (hFd : F y = d) (hdi : dI (z 0) (r 0) (r 2) (r 4) (r 5) y g d) (hS : Sh G L f aS v n xn xr nr rw (r 1) ak wl wy mp mm)
    {K0 : Prop} {S0 : Nat} (hcs : (y = g ∧ cT z r q g = 0) ∨ (y ≠ g ∧ ∃ (k : Nat) (Z : sS), sEnds n xn xr nr (r 1) Z k (rS0 nr v rw wy mp mm g) ∧ ((rXd (zeo (z 0) (r 0) (r 5)) (zq (r 2)) F y g (v 9).toInt (v 10).toInt (v 11) (v 12) K0 S0 Z.1 Z.2.2.2.2.2.1 Z.2.2.2.2.2.2 ∧ cT z r q g = Z.1 9 - z 6 ∧ d ≤ 9990 ∧ ∃ w, cT z r q g = nI w ∧ w ≤ 360) ∨ (rXv F y (v 9).toInt (v 10).toInt (v 11) (v 12) Z.1 ∧ cT z r q g = -1))))
    (kx : ∀ (w9 : lS) (H : Heap) (locs : List Loc) (ls : Array Slot), lZ (N + 1) (B + 400) G aS w9 → lv_has ls 20 [(3, .int (nI tm)), (2, .ref aS), (1, .ref (a 0)), (0, .ref bs)] → xW G A s.heap (lWN G a w9) H locs → W p l e ⟨12, 777134, 6770066, 438⟩ s m args below meth c H locs (C + 3100) (S + 14200) Q (F0 m 1018 ls [])) (u : cU) (H : Heap) (locs : List Loc) (ls : Array Slot) (hl : lv_has ls 20 [(17, .int (v 12)), (16, .int (v 11)), (15, .int (v 10)), (14, .int (v 9)), (12, .int (tD d)), (11, .int (cT z r q g)), (10, .int (nI y)), (9, .int (nI g)), (4, .int x4), (3, .int (nI tm)), (2, .ref aS), (1, .ref (a 0)), (0, .ref bs)]) (hw : xW G A s.heap (cW G a z r u ++ va_pl L f) H locs) : W p l e ⟨12, 777134, 6770066, 438⟩ s m args below meth c H locs C S Q (F0 m 813 ls []) := by
  obtain ⟨hx, hb, -, hown, hts, -⟩ := id hc
  have hH := cA_H hA0
  obtain ⟨hn1, hn2, hn3, hn4, hn5⟩ := cA_n hA0
  have hL := cA_L hA0
  have hM := zI_M hA0.1
  have hv := c_v hA0
  have hN6 : N < 1000000 := by omega
  have hB6 : 0 ≤ B ∧ B ≤ 1000000 := by omega
  obtain ⟨ad, oo, om, hO, hA⟩ := id hS
  have hO : objS L f aS 4 [.ref (ad 0), .ref (ad 1), .ref (ad 2), .ref (ad 3), .int (v 4), .int (v 5), .int (v 6), .ref (ad 4), .ref (ad 5), .int (v 9), .int (v 10), .int (v 11), .int (v 12), .int (v 13)] := hO
  refine lv_aload_n hx hb dL_law_813 rfl (lv_at hl 11 rfl) ?_
  refine lv_iload hx hb dL_law_814 (lv_at hl 7 rfl) ?_
  refine ccall_i hc hw (crunV (n := 1) (As := [.int (nI g)]) (rest := []) hc hw (kk_begin hst hA0 h3 hy hyn hg) gL_law_X3_beginErrand rfl (by decide +kernel) ⟨Nat.le_of_ble_eq_true rfl, Nat.le_of_ble_eq_true rfl⟩ 0 rfl rfl rfl rfl hl.1 (Nat.le_of_ble_eq_true rfl) dL_law_816 (by first | exact ⟨Nat.le_of_ble_eq_true rfl, Nat.le_of_ble_eq_true rfl⟩ | (refine ⟨?_, ?_⟩ <;> ((try dsimp only); omega)))) (fun x0 w1 H locs hp hw => ?_)
  obtain ⟨z1, r1, u1⟩ := w1
  have hw : xW G A s.heap (cW G a z1 r1 u1 ++ va_pl L f) H locs := hw
  obtain ⟨⟨d2, ex, hd5⟩, hr1, e0, -, -, -, e1, ur2, uk2, hq⟩ := hp
  have hr1 : r1 1 = r 1 := hr1
  have e0 : z1 0 = z 0 := e0
  have e1 : ∀ k, k < 6 → r1 k = r k := e1
  have e5 := cA_di hA0 hyn hg hdi hd5
  subst e5
  subst ex
  refine lv_iload hx hb dL_law_819 (lv_at hl 4 rfl) ?_
  refine lv_icmp_ne (tgt := 844) hx hb dL_law_821 (by decide) (fun h => absurd rfl h) (fun j1 => ?_)
  rcases hcs with ⟨hyg, hW0⟩ | ⟨hyg, k9, Z, hEn, hZ⟩
  · obtain ⟨hq2, hA1⟩ : z1 3 = -1 ∧ cA N B z1 r1 rs (qq (q 0) (q 1) (q 2) ur2 uk2 (q 5) (q 6) (q 7)) n xn xr nr (upd v 11 (v 11 + 1)) rw ak wl wy mp mm := by
      rcases hq with ⟨-, g1, g2⟩ | ⟨g1, -⟩
      · exact ⟨g1, g2⟩
      · exact absurd hyg g1
    have hv1 := c_v hA1
    refine lv_aload_n hx hb dL_law_824 rfl (lv_at hl 11 rfl) ?_
    refine ccall_i hc hw (crunV (n := 0) (As := []) (rest := []) hc hw (k_goal _ a z1 r1 u1 (ans := -1) (hq2)) gL_law_X3_goal rfl (by decide +kernel) ⟨Nat.le_of_ble_eq_true rfl, Nat.le_of_ble_eq_true rfl⟩ 0 rfl rfl rfl rfl hl.1 (Nat.le_of_ble_eq_true rfl) dL_law_825 (by first | exact ⟨Nat.le_of_ble_eq_true rfl, Nat.le_of_ble_eq_true rfl⟩ | (refine ⟨?_, ?_⟩ <;> ((try dsimp only); omega)))) (fun x0 u1 H locs hp hw => ?_)
    have hx0 : x0 = _ := hp
    subst hx0
    refine lv_iload hx hb dL_law_828 (lv_at hl 7 rfl) ?_
    refine lv_iload hx hb dL_law_830 (lv_at hl 6 rfl) ?_
    refine lv_icmp_ne (tgt := 839) hx hb dL_law_832 (by decide) (fun h => absurd (congrArg nI hyg.symm) h) (fun j2 => ?_)
    refine lv_iconst (v := (-1)) hx hb dL_law_835 (by decide) ?_
    refine lv_goto (tgt := 841) hx hb dL_law_836 (by decide) ?_
    refine lv_icmp_eq (tgt := 846) hx hb dL_law_841 (by decide) (fun j3x => ?_) (fun h => absurd rfl h)
    refine lv_aload_n hx hb dL_law_846 rfl (lv_at hl 10 rfl) ?_
    refine lv_iload hx hb dL_law_847 (lv_at hl 7 rfl) ?_
    refine pcall_i hc hw (prunV (n := 1) (As := [.int (nI g)]) (rest := []) hc hw (metS_begin l G _ _ _ aS v n xn xr nr rw _ ak wl wy mp mm hS hn5 g) gL_law_X4_begin rfl (by decide +kernel) ⟨Nat.le_of_ble_eq_true rfl, Nat.le_of_ble_eq_true rfl⟩ hO rfl rfl rfl hl.1 (Nat.le_of_ble_eq_true rfl) dL_law_849 (by first | exact ⟨Nat.le_of_ble_eq_true rfl, Nat.le_of_ble_eq_true rfl⟩ | (refine ⟨?_, ?_⟩ <;> ((try dsimp only); omega)))) (fun x8 L2 f2 H locs hp hw => ?_)
    obtain ⟨hb1, -⟩ := hp
    obtain ⟨-, hS2⟩ := hb1 (by rw [hy, hyg])
    refine lv_pop hx hb dL_law_852 rfl ?_
    refine lv_iload hx hb dL_law_853 (lv_at hl 7 rfl) ?_
    refine lv_iload hx hb dL_law_855 (lv_at hl 6 rfl) ?_
    refine lv_icmp_ne (tgt := 878) hx hb dL_law_857 (by decide) (fun h => absurd (congrArg nI hyg.symm) h) (fun j4 => ?_)
    refine lv_aload_n hx hb dL_law_860 rfl (lv_at hl 11 rfl) ?_
    refine ccall_i hc hw (crunV (n := 0) (As := []) (rest := []) hc hw (k_errandsDone _ a z1 r1 u1 (ans := v 11 + 1) ((show z1 8 = v 11 + 1 from hv1.1.2.2.2.2.2.1.symm))) gL_law_X3_errandsDone rfl (by decide +kernel) ⟨Nat.le_of_ble_eq_true rfl, Nat.le_of_ble_eq_true rfl⟩ 0 rfl rfl rfl rfl hl.1 (Nat.le_of_ble_eq_true rfl) dL_law_861 (by first | exact ⟨Nat.le_of_ble_eq_true rfl, Nat.le_of_ble_eq_true rfl⟩ | (refine ⟨?_, ?_⟩ <;> ((try dsimp only); omega)))) (fun x0 u1 H locs hp hw => ?_)
    have hx0 : x0 = _ := hp
    subst hx0
    refine lv_iload hx hb dL_law_864 (lv_at hl 1 rfl) ?_
    refine lv_iconst (v := 1) hx hb dL_law_866 (by decide) ?_
    refine lv_iadd hx hb dL_law_867 ?_
    refine lv_icmp_ne (tgt := 876) hx hb dL_law_868 (by decide) (fun h => absurd rfl h) (fun j5 => ?_)
    refine lv_iload hx hb dL_law_871 (lv_at hl 5 rfl) ?_
    refine lv_if_eq (tgt := 1018) hx hb dL_law_873 (by decide) (fun j6 => ?_) (fun h => absurd hW0 h)
    refine W.widen (k := C + 3100) (n := S + 14200) (by (try dsimp only); omega) (by (try dsimp only); omega) ?_
    exact kx ((z1, r1, u1), (L2, f2)) H locs ls ⟨_, _, _, _, _, _, _, _, _, _, _, cB_up ⟨_, _, hA1⟩ (by omega) (by omega), Sh_r hS2 hr1⟩ (lv_sub hl [9, 10, 11, 12] rfl) hw
  · obtain ⟨hq2, hA1⟩ : z1 3 = nI g ∧ cA N B z1 r1 rs (qq (q 0) (q 1) (q 2) ur2 uk2 (q 5) (q 6) (q 7)) n xn xr nr (upd v 6 (nI g)) (sOv rw nr) (fun _ => 0) 0 wy mp mm := by
      rcases hq with ⟨g1, -⟩ | ⟨-, g1, g2⟩
      · exact absurd g1 hyg
      · exact ⟨g1, g2⟩
    have h13 : ¬ z1 3 = -1 := by
      rw [hq2]
      intro h9
      have h8 := congrArg Int32.toInt h9
      rw [nI_toInt (by omega), show (-1 : Int32).toInt = -1 from rfl] at h8
      omega
    obtain ⟨L0, eL0, j, hj, hjE, J, E, hJ, hJ0, hend⟩ := c_go hA0 hN6 hB6 hy hyn hg hyg hEn hF e0 e1 hA1 h13
    subst eL0
    have hH1 := cA_H hA1
    have hgy : ¬ (nI g : Int32) = nI y := fun h => hyg (nI_inj (by omega) (by omega) h.symm)
    refine lv_aload_n hx hb dL_law_824 rfl (lv_at hl 11 rfl) ?_
    refine ccall_i hc hw (crunV (n := 0) (As := []) (rest := []) hc hw (k_goal _ a z1 r1 u1 (ans := nI g) (hq2)) gL_law_X3_goal rfl (by decide +kernel) ⟨Nat.le_of_ble_eq_true rfl, Nat.le_of_ble_eq_true rfl⟩ 0 rfl rfl rfl rfl hl.1 (Nat.le_of_ble_eq_true rfl) dL_law_825 (by first | exact ⟨Nat.le_of_ble_eq_true rfl, Nat.le_of_ble_eq_true rfl⟩ | (refine ⟨?_, ?_⟩ <;> ((try dsimp only); omega)))) (fun x0 u1 H locs hp hw => ?_)
    have hx0 : x0 = _ := hp
    subst hx0
    refine lv_iload hx hb dL_law_828 (lv_at hl 7 rfl) ?_
    refine lv_iload hx hb dL_law_830 (lv_at hl 6 rfl) ?_
    refine lv_icmp_ne (tgt := 839) hx hb dL_law_832 (by decide) (fun j2 => ?_) (fun h => absurd h hgy)
    refine lv_iload hx hb dL_law_839 (lv_at hl 7 rfl) ?_
    refine lv_icmp_eq (tgt := 846) hx hb dL_law_841 (by decide) (fun j3x => ?_) (fun h => absurd rfl h)
    refine lv_aload_n hx hb dL_law_846 rfl (lv_at hl 10 rfl) ?_
    refine lv_iload hx hb dL_law_847 (lv_at hl 7 rfl) ?_
    refine pcall_i hc hw (prunV (n := 1) (As := [.int (nI g)]) (rest := []) hc hw (metS_begin l G _ _ _ aS v n xn xr nr rw _ ak wl wy mp mm hS hn5 g) gL_law_X4_begin rfl (by decide +kernel) ⟨Nat.le_of_ble_eq_true rfl, Nat.le_of_ble_eq_true rfl⟩ hO rfl rfl rfl hl.1 (Nat.le_of_ble_eq_true rfl) dL_law_849 (by first | exact ⟨Nat.le_of_ble_eq_true rfl, Nat.le_of_ble_eq_true rfl⟩ | (refine ⟨?_, ?_⟩ <;> ((try dsimp only); omega)))) (fun x8 L2 f2 H locs hp hw => ?_)
    obtain ⟨-, hb2⟩ := hp
    obtain ⟨-, hS2⟩ := hb2 (by rw [hy]; exact hgy)
    obtain ⟨ad2, oo2, om2, hO2, -⟩ := id hS2
    have hO2 : objS L2 f2 aS 4 (sF ad2 (upd v 6 (nI g))) := hO2
    have hS2 := Sh_r hS2 hr1
    refine lv_pop hx hb dL_law_852 rfl ?_
    refine lv_iload hx hb dL_law_853 (lv_at hl 7 rfl) ?_
    refine lv_iload hx hb dL_law_855 (lv_at hl 6 rfl) ?_
    refine lv_icmp_ne (tgt := 878) hx hb dL_law_857 (by decide) (fun j4 => ?_) (fun h => absurd h hgy)
    refine lv_aload_n hx hb dL_law_878 rfl (lv_at hl 11 rfl) ?_
    refine lv_bipush (v := 100) hx hb dL_law_879 (by decide) ?_
    refine ccall_i hc hw (crunV (n := 1) (As := [.int 100]) (rest := []) hc hw (kk_goOn hst hA1 h13 hN6 (K := 100) (by omega) hj hjE) gL_law_X3_goOn rfl (by decide +kernel) ⟨Nat.le_of_ble_eq_true rfl, Nat.le_of_ble_eq_true rfl⟩ 0 rfl rfl rfl rfl hl.1 (Nat.le_of_ble_eq_true rfl) dL_law_881 (by first | exact ⟨Nat.le_of_ble_eq_true rfl, Nat.le_of_ble_eq_true rfl⟩ | (refine ⟨?_, ?_⟩ <;> ((try dsimp only); omega)))) (fun x0 w2 H locs hp hw => ?_)
    obtain ⟨z2, r2, u2⟩ := w2
    have hw : xW G A s.heap (cW G a z2 r2 u2 ++ va_pl L2 f2) H locs := hw
    obtain ⟨ex, hr2, f0, f1, ur3, uk3, uy3, xe3, sg3, hA2⟩ := hp
    subst ex
    have hr2 : r2 1 = r1 1 := hr2
    have f0 : z2 0 = z1 0 := f0
    have f1 : ∀ k, k < 6 → r2 k = r1 k := f1
    have hA2 : cA (N + 1) (B + 400) z2 r2 rs (qq (q 0) (q 1) (q 2) ur3 uk3 uy3 xe3 sg3) n xn xr nr Z.1 Z.2.1 Z.2.2.1 Z.2.2.2.1 Z.2.2.2.2.1 Z.2.2.2.2.2.1 Z.2.2.2.2.2.2 := hA2
    have hv2 := c_v hA2
    have hH2 := cA_H hA2
    refine lv_istore (lv' := [(18, .int (nI j)), (17, .int (v 12)), (16, .int (v 11)), (15, .int (v 10)), (14, .int (v 9)), (12, .int (tD d)), (11, .int (cT z r q g)), (10, .int (nI y)), (9, .int (nI g)), (4, .int x4), (3, .int (nI tm)), (2, .ref aS), (1, .ref (a 0)), (0, .ref bs)]) hx hb dL_law_884 hl (by decide) rfl (fun ls hl => ?_)
    refine lv_aload_n hx hb dL_law_886 rfl (lv_at hl 11 rfl) ?_
    refine lv_bipush (v := 100) hx hb dL_law_887 (by decide) ?_
    refine pcall_i hc hw (prunV (n := 1) (As := [.int 100]) (rest := []) hc hw (metS_go l G _ _ _ aS _ n xn xr nr _ _ _ _ _ _ _ 100 hS2 (Nat.le_refl _) J E hJ hH1.2.2.2.2.1 hJ0) gL_law_X4_go rfl (by decide +kernel) ⟨Nat.le_of_ble_eq_true rfl, Nat.le_of_ble_eq_true rfl⟩ hO2 rfl rfl rfl hl.1 (Nat.le_of_ble_eq_true rfl) dL_law_889 (by first | exact ⟨Nat.le_of_ble_eq_true rfl, Nat.le_of_ble_eq_true rfl⟩ | (refine ⟨?_, ?_⟩ <;> ((try dsimp only); omega)))) (fun x6 L3 f3 H locs hp hw => ?_)
    obtain ⟨i, v3, rw3, ak3, wl3, wy3, mp3, mm3, e9x, hi, hE9, hS3⟩ := hp
    obtain ⟨eZ, eij⟩ := hend i v3 rw3 ak3 wl3 wy3 mp3 mm3 hi hE9
    rw [eij] at e9x
    subst e9x
    subst eZ
    have hS3 : Sh G L3 f3 aS v3 n xn xr nr rw3 (r2 1) ak3 wl3 wy3 mp3 mm3 := Sh_r hS3 hr2
    refine lv_iload hx hb dL_law_892 (lv_at hl 0 rfl) ?_
    refine lv_icmp_ne (tgt := 905) hx hb dL_law_894 (by decide) (fun h => absurd rfl h) (fun j5 => ?_)
    have hdn : v3 6 = -1 := by
      rcases hZ with ⟨⟨⟨-, h, -⟩, -⟩, -⟩ | ⟨⟨⟨-, h, -⟩, -⟩, -⟩
      · exact h
      · exact h
    have hz20 : ¬ z2 0 = 0 := fun h => by
      rw [f0, e0] at h
      rw [h, show (0 : Int32).toInt = 0 from rfl] at hn1
      omega
    refine lv_aload_n hx hb dL_law_897 rfl (lv_at hl 12 rfl) ?_
    refine ccall_i hc hw (crunV (n := 0) (As := []) (rest := []) hc hw (k_goal _ a z2 r2 u2 (ans := -1) ((show z2 3 = -1 from hv2.1.2.2.1.symm.trans hdn))) gL_law_X3_goal rfl (by decide +kernel) ⟨Nat.le_of_ble_eq_true rfl, Nat.le_of_ble_eq_true rfl⟩ 0 rfl rfl rfl rfl hl.1 (Nat.le_of_ble_eq_true rfl) dL_law_898 (by first | exact ⟨Nat.le_of_ble_eq_true rfl, Nat.le_of_ble_eq_true rfl⟩ | (refine ⟨?_, ?_⟩ <;> ((try dsimp only); omega)))) (fun x0 u2 H locs hp hw => ?_)
    have hx0 : x0 = _ := hp
    subst hx0
    refine lv_iconst (v := (-1)) hx hb dL_law_901 (by decide) ?_
    refine lv_icmp_eq (tgt := 907) hx hb dL_law_902 (by decide) (fun j6 => ?_) (fun h => absurd rfl h)
    refine lv_aload_n hx hb dL_law_907 rfl (lv_at hl 12 rfl) ?_
    refine ccall_i hc hw (crunV (n := 0) (As := []) (rest := []) hc hw (k_milesWalked _ a z2 r2 u2 (ans := v3 9) ((show z2 6 = v3 9 from hv2.1.2.2.2.1.symm))) gL_law_X3_milesWalked rfl (by decide +kernel) ⟨Nat.le_of_ble_eq_true rfl, Nat.le_of_ble_eq_true rfl⟩ 0 rfl rfl rfl rfl hl.1 (Nat.le_of_ble_eq_true rfl) dL_law_908 (by first | exact ⟨Nat.le_of_ble_eq_true rfl, Nat.le_of_ble_eq_true rfl⟩ | (refine ⟨?_, ?_⟩ <;> ((try dsimp only); omega)))) (fun x0 u2 H locs hp hw => ?_)
    have hx0 : x0 = _ := hp
    subst hx0
    refine lv_iload hx hb dL_law_911 (lv_at hl 4 rfl) ?_
    refine lv_isub hx hb dL_law_913 ?_
    refine lv_istore (lv' := [(19, .int ((v3 9) - (v 9))), (18, .int (nI j)), (17, .int (v 12)), (16, .int (v 11)), (15, .int (v 10)), (14, .int (v 9)), (12, .int (tD d)), (11, .int (cT z r q g)), (10, .int (nI y)), (9, .int (nI g)), (4, .int x4), (3, .int (nI tm)), (2, .ref aS), (1, .ref (a 0)), (0, .ref bs)]) hx hb dL_law_914 hl (by decide) rfl (fun ls hl => ?_)
    rcases hZ with ⟨hZ, hW0, hd9, w0, hw0, hw1⟩ | ⟨hZ, hW0⟩
    · obtain ⟨⟨g4, g6, g11, g12⟩, -, M2, hE2⟩ := hZ
      have g4 : v3 4 = nI g := g4
      have g11 : v3 11 = v 11 + 1 := g11
      have g12 : v3 12 = v 12 := g12
      have hwh : FX3_whereIs (z2 1) (z2 0) = nI g := by
        rw [show z2 1 = _ from hv2.1.1.symm.trans g4]
        unfold FX3_whereIs
        rw [if_neg hz20]
      have hE3 : eR (zeo (z2 0) (r2 0) (r2 5)) (zq (r2 2)) (mp3 g) (dme mm3 g) g M2 y := by
        rw [f0, e0, f1 0 (by omega), f1 5 (by omega), f1 2 (by omega), e1 0 (by omega), e1 5 (by omega), e1 2 (by omega)]
        exact hE2
      have hkn2 := c_known hA2 hyn hg hE3
      have hF3 : eD (zeo (z2 0) (r2 0) (r2 5)) (zq (r2 2)) (zq (r2 4)) g F := by
        rw [f0, e0, f1 0 (by omega), f1 5 (by omega), f1 2 (by omega), f1 4 (by omega), e1 0 (by omega), e1 5 (by omega), e1 2 (by omega), e1 4 (by omega)]
        exact hF
      have hkn3 : eRs (zq (r2 2)) (zq (r2 4)) (dme mm3 g) M2 y ≤ 90 := hkn2.2
      have hle := eR_F hF3 hE3
      rw [hFd] at hle
      have emore : v3 9 - v 9 = cT z r q g := by rw [hW0, ← hv.1.2.2.2.1]
      refine lv_iload hx hb dL_law_916 (lv_at hl 7 rfl) ?_
      refine lv_if_ge (tgt := 967) hx hb dL_law_918 (by decide) (fun j7 => ?_) (fun h => absurd (show 0 ≤ cT z r q g by rw [hw0]; exact inle (by omega)) h)
      refine lv_aload_n hx hb dL_law_967 rfl (lv_at hl 13 rfl) ?_
      refine ccall_i hc hw (crunV (n := 0) (As := []) (rest := []) hc hw (k_whereIs _ a z2 r2 u2 (ans := nI g) (hwh)) gL_law_X3_whereIs rfl (by decide +kernel) ⟨Nat.le_of_ble_eq_true rfl, Nat.le_of_ble_eq_true rfl⟩ 0 rfl rfl rfl rfl hl.1 (Nat.le_of_ble_eq_true rfl) dL_law_968 (by first | exact ⟨Nat.le_of_ble_eq_true rfl, Nat.le_of_ble_eq_true rfl⟩ | (refine ⟨?_, ?_⟩ <;> ((try dsimp only); omega)))) (fun x0 u2 H locs hp hw => ?_)
      have hx0 : x0 = _ := hp
      subst hx0
      refine lv_iload hx hb dL_law_971 (lv_at hl 9 rfl) ?_
      refine lv_icmp_ne (tgt := 1016) hx hb dL_law_973 (by decide) (fun h => absurd rfl h) (fun j8 => ?_)
      refine lv_iload hx hb dL_law_976 (lv_at hl 0 rfl) ?_
      refine lv_iload hx hb dL_law_978 (lv_at hl 7 rfl) ?_
      refine lv_icmp_ne (tgt := 1016) hx hb dL_law_980 (by decide) (fun h => absurd emore h) (fun j9 => ?_)
      refine lv_aload_n hx hb dL_law_983 rfl (lv_at hl 13 rfl) ?_
      refine ccall_i hc hw (crunV (n := 0) (As := []) (rest := []) hc hw (k_errandsDone _ a z2 r2 u2 (ans := v 11 + 1) ((show z2 8 = v 11 + 1 from hv2.1.2.2.2.2.2.1.symm.trans g11))) gL_law_X3_errandsDone rfl (by decide +kernel) ⟨Nat.le_of_ble_eq_true rfl, Nat.le_of_ble_eq_true rfl⟩ 0 rfl rfl rfl rfl hl.1 (Nat.le_of_ble_eq_true rfl) dL_law_984 (by first | exact ⟨Nat.le_of_ble_eq_true rfl, Nat.le_of_ble_eq_true rfl⟩ | (refine ⟨?_, ?_⟩ <;> ((try dsimp only); omega)))) (fun x0 u2 H locs hp hw => ?_)
      have hx0 : x0 = _ := hp
      subst hx0
      refine lv_iload hx hb dL_law_987 (lv_at hl 3 rfl) ?_
      refine lv_iconst (v := 1) hx hb dL_law_989 (by decide) ?_
      refine lv_iadd hx hb dL_law_990 ?_
      refine lv_icmp_ne (tgt := 1016) hx hb dL_law_991 (by decide) (fun h => absurd rfl h) (fun j10 => ?_)
      refine lv_aload_n hx hb dL_law_994 rfl (lv_at hl 13 rfl) ?_
      refine ccall_i hc hw (crunV (n := 0) (As := []) (rest := []) hc hw (k_errandsInVain _ a z2 r2 u2 (ans := v 12) ((show z2 9 = v 12 from hv2.1.2.2.2.2.2.2.1.symm.trans g12))) gL_law_X3_errandsInVain rfl (by decide +kernel) ⟨Nat.le_of_ble_eq_true rfl, Nat.le_of_ble_eq_true rfl⟩ 0 rfl rfl rfl rfl hl.1 (Nat.le_of_ble_eq_true rfl) dL_law_995 (by first | exact ⟨Nat.le_of_ble_eq_true rfl, Nat.le_of_ble_eq_true rfl⟩ | (refine ⟨?_, ?_⟩ <;> ((try dsimp only); omega)))) (fun x0 u2 H locs hp hw => ?_)
      have hx0 : x0 = _ := hp
      subst hx0
      refine lv_iload hx hb dL_law_998 (lv_at hl 2 rfl) ?_
      refine lv_icmp_ne (tgt := 1016) hx hb dL_law_1000 (by decide) (fun h => absurd rfl h) (fun j11 => ?_)
      refine lv_aload_n hx hb dL_law_1003 rfl (lv_at hl 13 rfl) ?_
      refine lv_iload hx hb dL_law_1004 (lv_at hl 8 rfl) ?_
      refine lv_iload hx hb dL_law_1006 (lv_at hl 9 rfl) ?_
      refine wcall_i hc hw (wrunS (n := 3) (As := [.ref (a 0), .int (nI y), .int (nI g)]) (rest := []) hc hw (metL_known l G hst _ a u2 L3 f3 hA2 hyn hg) gL_law_L_known rfl (by decide +kernel) ⟨Nat.le_of_ble_eq_true rfl, Nat.le_of_ble_eq_true rfl⟩ rfl rfl hl.1 (Nat.le_of_ble_eq_true rfl) dL_law_1008 (by first | exact ⟨Nat.le_of_ble_eq_true rfl, Nat.le_of_ble_eq_true rfl⟩ | (refine ⟨?_, ?_⟩ <;> ((try dsimp only); omega)))) (fun x0 u2 H locs hp hw => ?_)
      have hx0 : x0 = _ := hp.trans hkn2.1
      subst hx0
      refine lv_iload hx hb dL_law_1011 (lv_at hl 6 rfl) ?_
      refine lv_icmp_ge (tgt := 1018) hx hb dL_law_1013 (by decide) (fun j12 => ?_) (fun h => absurd (show tD d ≤ nI (eRs (zq (r2 2)) (zq (r2 4)) (dme mm3 g) M2 y) by unfold tD; rw [if_neg (by omega)]; exact nI_le hle (by omega)) h)
      refine W.widen (k := C + 3100) (n := S + 14200) (by (try dsimp only); omega) (by (try dsimp only); omega) ?_
      exact kx ((z2, r2, u2), (L3, f3)) H locs ls ⟨_, _, _, _, _, _, _, _, _, _, _, ⟨_, _, hA2⟩, hS3⟩ (lv_sub hl [11, 12, 13, 14] rfl) hw
    · obtain ⟨⟨g4, g6, g11, g12⟩, -, db, g9, g10, g13⟩ := hZ
      have g4 : v3 4 = nI y := g4
      have g11 : v3 11 = v 11 := g11
      have g12 : v3 12 = v 12 + 1 := g12
      have hwh : FX3_whereIs (z2 1) (z2 0) = nI y := by
        rw [show z2 1 = _ from hv2.1.1.symm.trans g4]
        unfold FX3_whereIs
        rw [if_neg hz20]
      have emore : v3 9 - v 9 = 2 * (v3 10 - v 10) := nsub2 g9 g10 g13
      refine lv_iload hx hb dL_law_916 (lv_at hl 7 rfl) ?_
      refine lv_if_ge (tgt := 967) hx hb dL_law_918 (by decide) (fun h => absurd h (by rw [hW0]; decide)) (fun j7 => ?_)
      refine lv_aload_n hx hb dL_law_921 rfl (lv_at hl 13 rfl) ?_
      refine ccall_i hc hw (crunV (n := 0) (As := []) (rest := []) hc hw (k_whereIs _ a z2 r2 u2 (ans := nI y) (hwh)) gL_law_X3_whereIs rfl (by decide +kernel) ⟨Nat.le_of_ble_eq_true rfl, Nat.le_of_ble_eq_true rfl⟩ 0 rfl rfl rfl rfl hl.1 (Nat.le_of_ble_eq_true rfl) dL_law_922 (by first | exact ⟨Nat.le_of_ble_eq_true rfl, Nat.le_of_ble_eq_true rfl⟩ | (refine ⟨?_, ?_⟩ <;> ((try dsimp only); omega)))) (fun x0 u2 H locs hp hw => ?_)
      have hx0 : x0 = _ := hp
      subst hx0
      refine lv_iload hx hb dL_law_925 (lv_at hl 8 rfl) ?_
      refine lv_icmp_ne (tgt := 1016) hx hb dL_law_927 (by decide) (fun h => absurd rfl h) (fun j8 => ?_)
      refine lv_iload hx hb dL_law_930 (lv_at hl 0 rfl) ?_
      refine lv_iconst (v := 2) hx hb dL_law_932 (by decide) ?_
      refine lv_aload_n hx hb dL_law_933 rfl (lv_at hl 13 rfl) ?_
      refine ccall_i hc hw (crunV (n := 0) (As := []) (rest := [.int 2, .int ((v3 9) - (v 9))]) hc hw (k_milesDoubled _ a z2 r2 u2 (ans := v3 10) ((show z2 7 = v3 10 from hv2.1.2.2.2.2.1.symm))) gL_law_X3_milesDoubled rfl (by decide +kernel) ⟨Nat.le_of_ble_eq_true rfl, Nat.le_of_ble_eq_true rfl⟩ 0 rfl rfl rfl rfl hl.1 (Nat.le_of_ble_eq_true rfl) dL_law_934 (by first | exact ⟨Nat.le_of_ble_eq_true rfl, Nat.le_of_ble_eq_true rfl⟩ | (refine ⟨?_, ?_⟩ <;> ((try dsimp only); omega)))) (fun x0 u2 H locs hp hw => ?_)
      have hx0 : x0 = _ := hp
      subst hx0
      refine lv_iload hx hb dL_law_937 (lv_at hl 4 rfl) ?_
      refine lv_isub hx hb dL_law_939 ?_
      refine lv_imul hx hb dL_law_940 ?_
      refine lv_icmp_ne (tgt := 1016) hx hb dL_law_941 (by decide) (fun h => absurd emore h) (fun j9 => ?_)
      refine lv_aload_n hx hb dL_law_944 rfl (lv_at hl 13 rfl) ?_
      refine ccall_i hc hw (crunV (n := 0) (As := []) (rest := []) hc hw (k_errandsInVain _ a z2 r2 u2 (ans := v 12 + 1) ((show z2 9 = v 12 + 1 from hv2.1.2.2.2.2.2.2.1.symm.trans g12))) gL_law_X3_errandsInVain rfl (by decide +kernel) ⟨Nat.le_of_ble_eq_true rfl, Nat.le_of_ble_eq_true rfl⟩ 0 rfl rfl rfl rfl hl.1 (Nat.le_of_ble_eq_true rfl) dL_law_945 (by first | exact ⟨Nat.le_of_ble_eq_true rfl, Nat.le_of_ble_eq_true rfl⟩ | (refine ⟨?_, ?_⟩ <;> ((try dsimp only); omega)))) (fun x0 u2 H locs hp hw => ?_)
      have hx0 : x0 = _ := hp
      subst hx0
      refine lv_iload hx hb dL_law_948 (lv_at hl 2 rfl) ?_
      refine lv_iconst (v := 1) hx hb dL_law_950 (by decide) ?_
      refine lv_iadd hx hb dL_law_951 ?_
      refine lv_icmp_ne (tgt := 1016) hx hb dL_law_952 (by decide) (fun h => absurd rfl h) (fun j10 => ?_)
      refine lv_aload_n hx hb dL_law_955 rfl (lv_at hl 13 rfl) ?_
      refine ccall_i hc hw (crunV (n := 0) (As := []) (rest := []) hc hw (k_errandsDone _ a z2 r2 u2 (ans := v 11) ((show z2 8 = v 11 from hv2.1.2.2.2.2.2.1.symm.trans g11))) gL_law_X3_errandsDone rfl (by decide +kernel) ⟨Nat.le_of_ble_eq_true rfl, Nat.le_of_ble_eq_true rfl⟩ 0 rfl rfl rfl rfl hl.1 (Nat.le_of_ble_eq_true rfl) dL_law_956 (by first | exact ⟨Nat.le_of_ble_eq_true rfl, Nat.le_of_ble_eq_true rfl⟩ | (refine ⟨?_, ?_⟩ <;> ((try dsimp only); omega)))) (fun x0 u2 H locs hp hw => ?_)
      have hx0 : x0 = _ := hp
      subst hx0
      refine lv_iload hx hb dL_law_959 (lv_at hl 3 rfl) ?_
      refine lv_icmp_eq (tgt := 1018) hx hb dL_law_961 (by decide) (fun j11 => ?_) (fun h => absurd rfl h)
      refine W.widen (k := C + 3100) (n := S + 14200) (by (try dsimp only); omega) (by (try dsimp only); omega) ?_
      exact kx ((z2, r2, u2), (L3, f3)) H locs ls ⟨_, _, _, _, _, _, _, _, _, _, _, ⟨_, _, hA2⟩, hS3⟩ (lv_sub hl [11, 12, 13, 14] rfl) hw
