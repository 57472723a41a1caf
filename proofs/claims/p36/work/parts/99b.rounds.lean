
/-! the law's rounds, on the machine -/
theorem wcall_r {p : Program} {l : Launch} {e : Env} {R : Room} {s : State} {m : MethodId} {args : Array Value} {below : List Frame} {meth : Method} {c : Code} {H : Heap} {locs : List Loc} {cells slots : Nat} {Q : State → Prop} {cc : ByteArray} {nL : Nat} {own : String} {wds : List Cond} {ret : Option FieldType} {G : xG} {A : Nat → Prop} {ws : va_W} {pc : Nat} {ls : Array Slot} {st0 rest : List Value} {S : Type} {mc ms : Nat} {av : Array Value} {wn : S → va_W} {post : Nat → S → Prop} (hc : xC p s m args meth c cc nL own wds ret G A) (hw : xW G A s.heap ws H locs)
    (hr : va_Run p l e R s m args below meth c H locs cells slots mc ms (F0 m pc ls st0) rest (xQr G ws H.size post wn av) (va_A ws H.size))
    (kk : ∀ (r : Nat) (u : S) (H1 : Heap) (locs1 : List Loc), post r u → xW G A s.heap (wn u) H1 locs1 → W p l e R s m args below meth c H1 locs1 (cells + mc) (slots + ms) Q (F0 m (pc + 3) ls (.ref r :: rest))) : W p l e R s m args below meth c H locs cells slots Q (F0 m pc ls st0) := by
  have hF := wsz hc hw
  refine va_callq hr hw.2.2 (fun q _ h => hF q h) hF (fun r u t H1 locs1 ht hvm hp hB hz hk hS => ?_)
  obtain ⟨q, rfl, hp⟩ := hp
  obtain ⟨hP1, hD1⟩ := hB
  rw [ht] at hP1
  exact kk q u H1 locs1 hp ⟨hP1, va_D.weaken hD1 (fun k q _ h => hF q.1 h), hS⟩
set_option maxHeartbeats 40000000 in
set_option maxRecDepth 100000 in
theorem lpw_acts {p : Program} {l : Launch} {e : Env} {s : State} {m : MethodId} {args : Array Value} {below : List Frame} {meth : Method} {c : Code} {Q : State → Prop} {G : xG} {A : Nat → Prop} (hst : l.stackTraces = false) {a : Nat → Nat} {aS bs : Nat} {ret : Option FieldType} (hc : xC p s m args meth c cL_law 20 RL wsL_law ret G A) {tm N0 : Nat} {B0 : Int} {x4 : Int32} {C S : Nat} (hNB : N0 ≤ 90000 ∧ 0 ≤ B0 ∧ B0 ≤ 800000) (hCS : C ≤ 500000 ∧ S ≤ 5000000)
    (kx : ∀ (w9 : lS) (H : Heap) (locs : List Loc) (ls : Array Slot), lZ (N0 + 4) (B0 + 1600) G aS w9 → lv_has ls 20 [(4, .int x4), (3, .int (nI tm)), (2, .ref aS), (1, .ref (a 0)), (0, .ref bs)] → xW G A s.heap (lWN G a w9) H locs → W p l e ⟨12, 777134, 6770066, 438⟩ s m args below meth c H locs (C + 12040) (S + 54880) Q (F0 m 80 ls [])) :
    ∀ (d k : Nat), k + d = 4 → ∀ (w9 : lS) (H : Heap) (locs : List Loc) (ls : Array Slot), lZ (N0 + k) (B0 + 400 * k) G aS w9 → lv_has ls 20 [(5, .int (nI k)), (4, .int x4), (3, .int (nI tm)), (2, .ref aS), (1, .ref (a 0)), (0, .ref bs)] → xW G A s.heap (lWN G a w9) H locs → W p l e ⟨12, 777134, 6770066, 438⟩ s m args below meth c H locs (C + 3010 * k) (S + 13720 * k) Q (F0 m 45 ls []) := by
  obtain ⟨hx, hb, -, hown, hts, -⟩ := id hc
  intro d
  induction d with
  | zero =>
    intro k hd w9 H locs ls hZ hl hw
    have ek : k = 4 := by omega
    subst ek
    refine lv_iload hx hb dL_law_45 (lv_at hl 0 rfl) ?_
    refine lv_iconst (v := 4) hx hb dL_law_47 (by decide) ?_
    refine lv_icmp_ge (tgt := 80) hx hb dL_law_48 (by decide) (fun hz => ?_) (fun h => absurd (show (nI 4 : Int32) ≥ 4 by decide) h)
    exact W.widen (k := C + 12040) (n := S + 54880) (by (try dsimp only); omega) (by (try dsimp only); omega) (kx w9 H locs ls hZ (lv_sub hl [1, 2, 3, 4, 5] rfl) hw)
  | succ d ih =>
    intro k hd w9 H locs ls hZ hl hw
    obtain ⟨⟨z, r, u⟩, L, f⟩ := w9
    obtain ⟨n, xn, xr, nr, v, rw, ak, wl, wy, mp, mm, hB, hS⟩ := hZ
    have hw : xW G A s.heap (cW G a z r u ++ va_pl L f) H locs := hw
    have hB : cB (N0 + k) (B0 + 400 * k) z r n xn xr nr v rw ak wl wy mp mm := hB
    have hS : Sh G L f aS v n xn xr nr rw (r 1) ak wl wy mp mm := hS
    refine lv_iload hx hb dL_law_45 (lv_at hl 0 rfl) ?_
    refine lv_iconst (v := 4) hx hb dL_law_47 (by decide) ?_
    refine lv_icmp_ge (tgt := 80) hx hb dL_law_48 (by decide) (fun h => absurd h (show ¬ (4 : Int32) ≤ nI k from nI_ge (b := 4) (by omega) (by omega))) (fun hz => ?_)
    refine lv_aload_n hx hb dL_law_51 rfl (lv_at hl 4 rfl) ?_
    refine lv_aload_n hx hb dL_law_52 rfl (lv_at hl 3 rfl) ?_
    refine lv_iload hx hb dL_law_53 (lv_at hl 1 rfl) ?_
    refine lv_iconst (v := 3) hx hb dL_law_55 (by decide) ?_
    refine lv_iload hx hb dL_law_56 (lv_at hl 0 rfl) ?_
    refine lv_imul hx hb dL_law_58 ?_
    refine lv_ishr hx hb dL_law_59 ?_
    refine lv_bipush (v := 29) hx hb dL_law_60 (by decide) ?_
    refine lv_iload hx hb dL_law_62 (lv_at hl 0 rfl) ?_
    refine lv_imul hx hb dL_law_64 ?_
    refine lv_iadd hx hb dL_law_65 ?_
    refine wcall_i hc hw (wrunSW (n := 3) (As := [.ref (a 0), .ref aS, .int ((x4 >>> (3 * (nI k) &&& 31)) + (29 * (nI k)))]) (rest := []) hc hw (metL_act l G hst _ a aS u L f hB hS (by omega) _) gL_law_L_act rfl (by decide +kernel) ⟨Nat.le_of_ble_eq_true rfl, Nat.le_of_ble_eq_true rfl⟩ rfl rfl hl.1 (Nat.le_of_ble_eq_true rfl) dL_law_66 (by first | exact ⟨Nat.le_of_ble_eq_true rfl, Nat.le_of_ble_eq_true rfl⟩ | (refine ⟨?_, ?_⟩ <;> ((try dsimp only); omega)))) (fun x0 w8 H locs hp hw => ?_)
    obtain ⟨hx0, hZ⟩ := hp
    subst hx0
    refine lv_if_ne (tgt := 74) hx hb dL_law_69 (by decide) (fun hz1 => ?_) (fun h => absurd h (by decide))
    refine lv_iinc (v := nI (k + 1)) (lv' := [(5, .int (nI (k + 1))), (4, .int x4), (3, .int (nI tm)), (2, .ref aS), (1, .ref (a 0)), (0, .ref bs)]) hx hb dL_law_74 hl (k := 0) rfl (nI_1 _) (by decide) rfl (fun ls hl => ?_)
    refine lv_goto (tgt := 45) hx hb dL_law_77 (by decide) ?_
    refine W.widen (k := C + 3010 * (k + 1)) (n := S + 13720 * (k + 1)) (by (try dsimp only); omega) (by (try dsimp only); omega) ?_
    refine ih (k + 1) (by omega) w8 H locs ls ?_ (lv_sub hl [0, 1, 2, 3, 4, 5] rfl) hw
    rw [show B0 + 400 * ((k + 1 : Nat) : Int) = B0 + 400 * k + 400 by omega]
    exact hZ
set_option maxHeartbeats 40000000 in
set_option maxRecDepth 100000 in
theorem lpw_round {p : Program} {l : Launch} {e : Env} {s : State} {m : MethodId} {args : Array Value} {below : List Frame} {meth : Method} {c : Code} {Q : State → Prop} {G : xG} {A : Nat → Prop} (hst : l.stackTraces = false) {a : Nat → Nat} {aS bs : Nat} {ret : Option FieldType} (hc : xC p s m args meth c cL_law 20 RL wsL_law ret G A) {tm N0 : Nat} {B0 : Int} {x4 : Int32} {C S : Nat} (htm : tm ≤ 12) (hNB : N0 ≤ 90000 ∧ 0 ≤ B0 ∧ B0 ≤ 800000) (hCS : C ≤ 490000 ∧ S ≤ 4900000)
    (kx : ∀ (w9 : lS) (H : Heap) (locs : List Loc) (ls : Array Slot), lZ (N0 + 1) (B0 + 400) G aS w9 → lv_has ls 20 [(3, .int (nI tm)), (2, .ref aS), (1, .ref (a 0)), (0, .ref bs)] → xW G A s.heap (lWN G a w9) H locs → W p l e ⟨12, 777134, 6770066, 438⟩ s m args below meth c H locs (C + 6700) (S + 36000) Q (F0 m 1018 ls [])) (w9 : lS) (H : Heap) (locs : List Loc) (ls : Array Slot) (hZ : lZ N0 B0 G aS w9) (hl : lv_has ls 20 [(4, .int x4), (3, .int (nI tm)), (2, .ref aS), (1, .ref (a 0)), (0, .ref bs)]) (hw : xW G A s.heap (lWN G a w9) H locs) : W p l e ⟨12, 777134, 6770066, 438⟩ s m args below meth c H locs C S Q (F0 m 80 ls []) := by
  obtain ⟨⟨z, r, u⟩, L, f⟩ := w9
  obtain ⟨n, xn, xr, nr, v, rw, ak, wl, wy, mp, mm, ⟨rs, q, hA0⟩, hS⟩ := hZ
  have hw : xW G A s.heap (cW G a z r u ++ va_pl L f) H locs := hw
  have hA0 : cA N0 B0 z r rs q n xn xr nr v rw ak wl wy mp mm := hA0
  have hS : Sh G L f aS v n xn xr nr rw (r 1) ak wl wy mp mm := hS
  obtain ⟨hx, hb, -, hown, hts, -⟩ := id hc
  have hH := cA_H hA0
  obtain ⟨hn1, hn2, hn3, hn4, hn5⟩ := cA_n hA0
  have hL := cA_L hA0
  have hM := zI_M hA0.1
  have hv := c_v hA0
  have hcn := c_N hA0
  obtain ⟨y, hy, hyn⟩ := c_at hA0
  have hz0 : ¬ z 0 = 0 := fun h => by
    rw [h, show (0 : Int32).toInt = 0 from rfl] at hn1
    omega
  have hwhere : FX3_whereIs (z 1) (z 0) = nI y := by
    rw [← hv.1.1, hy]
    unfold FX3_whereIs
    rw [if_neg hz0]
  have hkw : FX3_knowsWay (z 1) (r 9) (r 10) (z 0) (r 0) (r 2) (r 5) (nI y) = (0, 1) := by
    rw [(c_knows hA0 hy hyn hyn).1, sKn, if_pos rfl]
  refine lv_aload_n hx hb dL_law_80 rfl (lv_at hl 3 rfl) ?_
  refine ccall_l hc hw (crunV (n := 0) (As := []) (rest := []) hc hw (k_digest _ a z r u (ans := cD z r) hH rfl) gL_law_X3_digest rfl (by decide +kernel) ⟨Nat.le_of_ble_eq_true rfl, Nat.le_of_ble_eq_true rfl⟩ 0 rfl rfl rfl rfl hl.1 (Nat.le_of_ble_eq_true rfl) dL_law_81 (by first | exact ⟨Nat.le_of_ble_eq_true rfl, Nat.le_of_ble_eq_true rfl⟩ | (refine ⟨?_, ?_⟩ <;> ((try dsimp only); omega)))) (fun x0 u H locs hp hw => ?_)
  have hx0 : x0 = _ := hp
  subst hx0
  refine lv_lstore (lv' := [(5, .long (cD z r)), (4, .int x4), (3, .int (nI tm)), (2, .ref aS), (1, .ref (a 0)), (0, .ref bs)]) hx hb dL_law_84 hl (by decide) rfl (fun ls hl => ?_)
  refine lv_aload_n hx hb dL_law_86 rfl (lv_at hl 4 rfl) ?_
  refine ccall_i hc hw (crunV (n := 0) (As := []) (rest := []) hc hw (k_places _ a z r u (ans := nI n) (show FX3_places (z 0) = nI n from hn2)) gL_law_X3_places rfl (by decide +kernel) ⟨Nat.le_of_ble_eq_true rfl, Nat.le_of_ble_eq_true rfl⟩ 0 rfl rfl rfl rfl hl.1 (Nat.le_of_ble_eq_true rfl) dL_law_87 (by first | exact ⟨Nat.le_of_ble_eq_true rfl, Nat.le_of_ble_eq_true rfl⟩ | (refine ⟨?_, ?_⟩ <;> ((try dsimp only); omega)))) (fun x0 u H locs hp hw => ?_)
  have hx0 : x0 = _ := hp
  subst hx0
  refine lv_istore (lv' := [(7, .int (nI n)), (5, .long (cD z r)), (4, .int x4), (3, .int (nI tm)), (2, .ref aS), (1, .ref (a 0)), (0, .ref bs)]) hx hb dL_law_90 hl (by decide) rfl (fun ls hl => ?_)
  rcases c_6 hA0 with ⟨h6, h3⟩ | ⟨g6, h6, hg6, h3, h6n⟩
  · refine lv_aload_n hx hb dL_law_92 rfl (lv_at hl 5 rfl) ?_
    refine ccall_i hc hw (crunV (n := 0) (As := []) (rest := []) hc hw (k_goal _ a z r u (ans := -1) ((show z 3 = -1 from h3))) gL_law_X3_goal rfl (by decide +kernel) ⟨Nat.le_of_ble_eq_true rfl, Nat.le_of_ble_eq_true rfl⟩ 0 rfl rfl rfl rfl hl.1 (Nat.le_of_ble_eq_true rfl) dL_law_93 (by first | exact ⟨Nat.le_of_ble_eq_true rfl, Nat.le_of_ble_eq_true rfl⟩ | (refine ⟨?_, ?_⟩ <;> ((try dsimp only); omega)))) (fun x0 u H locs hp hw => ?_)
    have hx0 : x0 = _ := hp
    subst hx0
    refine lv_if_ge (tgt := 103) hx hb dL_law_96 (by decide) (fun h => absurd h (by decide)) (fun j1 => ?_)
    refine lv_iconst (v := 1) hx hb dL_law_99 (by decide) ?_
    refine lv_goto (tgt := 104) hx hb dL_law_100 (by decide) ?_
    refine lv_istore (lv' := [(8, .int 1), (7, .int (nI n)), (5, .long (cD z r)), (4, .int x4), (3, .int (nI tm)), (2, .ref aS), (1, .ref (a 0)), (0, .ref bs)]) hx hb dL_law_104 hl (by decide) rfl (fun ls hl => ?_)
    refine lv_aload_n hx hb dL_law_106 rfl (lv_at hl 6 rfl) ?_
    refine ccall_i hc hw (crunV (n := 0) (As := []) (rest := []) hc hw (k_milesDoubled _ a z r u (ans := v 10) (hv.1.2.2.2.2.1.symm)) gL_law_X3_milesDoubled rfl (by decide +kernel) ⟨Nat.le_of_ble_eq_true rfl, Nat.le_of_ble_eq_true rfl⟩ 0 rfl rfl rfl rfl hl.1 (Nat.le_of_ble_eq_true rfl) dL_law_107 (by first | exact ⟨Nat.le_of_ble_eq_true rfl, Nat.le_of_ble_eq_true rfl⟩ | (refine ⟨?_, ?_⟩ <;> ((try dsimp only); omega)))) (fun x0 u H locs hp hw => ?_)
    have hx0 : x0 = _ := hp
    subst hx0
    refine lv_if_lt (tgt := 163) hx hb dL_law_110 (by decide) (fun h => absurd ((xltI _ _).mp h) (by rw [show (0 : Int32).toInt = 0 from rfl]; omega)) (fun j2 => ?_)
    refine lv_aload_n hx hb dL_law_113 rfl (lv_at hl 6 rfl) ?_
    refine ccall_i hc hw (crunV (n := 0) (As := []) (rest := []) hc hw (k_milesDoubled _ a z r u (ans := v 10) (hv.1.2.2.2.2.1.symm)) gL_law_X3_milesDoubled rfl (by decide +kernel) ⟨Nat.le_of_ble_eq_true rfl, Nat.le_of_ble_eq_true rfl⟩ 0 rfl rfl rfl rfl hl.1 (Nat.le_of_ble_eq_true rfl) dL_law_114 (by first | exact ⟨Nat.le_of_ble_eq_true rfl, Nat.le_of_ble_eq_true rfl⟩ | (refine ⟨?_, ?_⟩ <;> ((try dsimp only); omega)))) (fun x0 u H locs hp hw => ?_)
    have hx0 : x0 = _ := hp
    subst hx0
    refine lv_aload_n hx hb dL_law_117 rfl (lv_at hl 6 rfl) ?_
    refine ccall_i hc hw (crunV (n := 0) (As := []) (rest := [.int (v 10)]) hc hw (k_milesWalked _ a z r u (ans := v 9) (hv.1.2.2.2.1.symm)) gL_law_X3_milesWalked rfl (by decide +kernel) ⟨Nat.le_of_ble_eq_true rfl, Nat.le_of_ble_eq_true rfl⟩ 0 rfl rfl rfl rfl hl.1 (Nat.le_of_ble_eq_true rfl) dL_law_118 (by first | exact ⟨Nat.le_of_ble_eq_true rfl, Nat.le_of_ble_eq_true rfl⟩ | (refine ⟨?_, ?_⟩ <;> ((try dsimp only); omega)))) (fun x0 u H locs hp hw => ?_)
    have hx0 : x0 = _ := hp
    subst hx0
    refine lv_icmp_gt (tgt := 163) hx hb dL_law_121 (by decide) (fun h => absurd ((xltI _ _).mp h) (by omega)) (fun j3 => ?_)
    refine lv_aload_n hx hb dL_law_124 rfl (lv_at hl 6 rfl) ?_
    refine ccall_i hc hw (crunV (n := 0) (As := []) (rest := []) hc hw (k_coins _ a z r u (ans := v 5) (hv.1.2.1.symm)) gL_law_X3_coins rfl (by decide +kernel) ⟨Nat.le_of_ble_eq_true rfl, Nat.le_of_ble_eq_true rfl⟩ 0 rfl rfl rfl rfl hl.1 (Nat.le_of_ble_eq_true rfl) dL_law_125 (by first | exact ⟨Nat.le_of_ble_eq_true rfl, Nat.le_of_ble_eq_true rfl⟩ | (refine ⟨?_, ?_⟩ <;> ((try dsimp only); omega)))) (fun x0 u H locs hp hw => ?_)
    have hx0 : x0 = _ := hp
    subst hx0
    refine lv_if_lt (tgt := 163) hx hb dL_law_128 (by decide) (fun h => absurd ((xltI _ _).mp h) (by rw [show (0 : Int32).toInt = 0 from rfl]; omega)) (fun j4 => ?_)
    refine lv_aload_n hx hb dL_law_131 rfl (lv_at hl 6 rfl) ?_
    refine ccall_i hc hw (crunV (n := 0) (As := []) (rest := []) hc hw (k_coins _ a z r u (ans := v 5) (hv.1.2.1.symm)) gL_law_X3_coins rfl (by decide +kernel) ⟨Nat.le_of_ble_eq_true rfl, Nat.le_of_ble_eq_true rfl⟩ 0 rfl rfl rfl rfl hl.1 (Nat.le_of_ble_eq_true rfl) dL_law_132 (by first | exact ⟨Nat.le_of_ble_eq_true rfl, Nat.le_of_ble_eq_true rfl⟩ | (refine ⟨?_, ?_⟩ <;> ((try dsimp only); omega)))) (fun x0 u H locs hp hw => ?_)
    have hx0 : x0 = _ := hp
    subst hx0
    refine lv_bipush (v := 99) hx hb dL_law_135 (by decide) ?_
    refine lv_icmp_gt (tgt := 163) hx hb dL_law_137 (by decide) (fun h => absurd ((xltI _ _).mp h) (by rw [show (99 : Int32).toInt = 99 from rfl]; omega)) (fun j5 => ?_)
    refine lv_iload hx hb dL_law_140 (lv_at hl 0 rfl) ?_
    refine lv_if_eq (tgt := 152) hx hb dL_law_142 (by decide) (fun h => absurd h (by decide)) (fun j6 => ?_)
    refine lv_aload_n hx hb dL_law_145 rfl (lv_at hl 6 rfl) ?_
    refine ccall_i hc hw (crunV (n := 0) (As := []) (rest := []) hc hw (k_wayLength _ a z r u (ans := 0) (c_free hA0 h3)) gL_law_X3_wayLength rfl (by decide +kernel) ⟨Nat.le_of_ble_eq_true rfl, Nat.le_of_ble_eq_true rfl⟩ 0 rfl rfl rfl rfl hl.1 (Nat.le_of_ble_eq_true rfl) dL_law_146 (by first | exact ⟨Nat.le_of_ble_eq_true rfl, Nat.le_of_ble_eq_true rfl⟩ | (refine ⟨?_, ?_⟩ <;> ((try dsimp only); omega)))) (fun x0 u H locs hp hw => ?_)
    have hx0 : x0 = _ := hp
    subst hx0
    refine lv_if_ne (tgt := 163) hx hb dL_law_149 (by decide) (fun h => absurd rfl h) (fun j7 => ?_)
    refine lv_aload_n hx hb dL_law_152 rfl (lv_at hl 6 rfl) ?_
    refine lv_aload_n hx hb dL_law_153 rfl (lv_at hl 6 rfl) ?_
    refine ccall_i hc hw (crunV (n := 0) (As := []) (rest := [.ref (a 0)]) hc hw (k_whereIs _ a z r u (ans := nI y) (hwhere)) gL_law_X3_whereIs rfl (by decide +kernel) ⟨Nat.le_of_ble_eq_true rfl, Nat.le_of_ble_eq_true rfl⟩ 0 rfl rfl rfl rfl hl.1 (Nat.le_of_ble_eq_true rfl) dL_law_154 (by first | exact ⟨Nat.le_of_ble_eq_true rfl, Nat.le_of_ble_eq_true rfl⟩ | (refine ⟨?_, ?_⟩ <;> ((try dsimp only); omega)))) (fun x0 u H locs hp hw => ?_)
    have hx0 : x0 = _ := hp
    subst hx0
    refine ccall_i hc hw (crunV (n := 1) (As := [.int (nI y)]) (rest := []) hc hw (k_knowsWay hst _ a z r u _ hH hkw) gL_law_X3_knowsWay rfl (by decide +kernel) ⟨Nat.le_of_ble_eq_true rfl, Nat.le_of_ble_eq_true rfl⟩ 0 rfl rfl rfl rfl hl.1 (Nat.le_of_ble_eq_true rfl) dL_law_157 (by first | exact ⟨Nat.le_of_ble_eq_true rfl, Nat.le_of_ble_eq_true rfl⟩ | (refine ⟨?_, ?_⟩ <;> ((try dsimp only); omega)))) (fun x0 u H locs hp hw => ?_)
    have hx0 : x0 = _ := hp
    subst hx0
    refine lv_if_ne (tgt := 165) hx hb dL_law_160 (by decide) (fun j8 => ?_) (fun h => absurd h (by decide))
    refine lv_iconst (v := 0) hx hb dL_law_165 (by decide) ?_
    refine lv_istore (lv' := [(9, .int 0), (8, .int 1), (7, .int (nI n)), (5, .long (cD z r)), (4, .int x4), (3, .int (nI tm)), (2, .ref aS), (1, .ref (a 0)), (0, .ref bs)]) hx hb dL_law_166 hl (by decide) rfl (fun ls hl => ?_)
    refine W.widen (k := C + 50 + 340 * 0) (n := S + 300 + 2100 * 0) (by (try dsimp only); omega) (by (try dsimp only); omega) ?_
    refine lpw_places hst hc hA0 (C := C + 50) (S := S + 300) (by omega) htm (fr := 1) (Or.inl ⟨rfl, h3⟩) (fun u H locs ls hl hw => ?_) n 0 (by omega) u H locs ls (lv_sub hl [0, 1, 2, 3, 4, 5, 6, 7, 8] rfl) hw
    refine lv_aload_n hx hb dL_law_582 rfl (lv_at hl 6 rfl) ?_
    refine ccall_l hc hw (crunV (n := 0) (As := []) (rest := []) hc hw (k_digest _ a z r u (ans := cD z r) hH rfl) gL_law_X3_digest rfl (by decide +kernel) ⟨Nat.le_of_ble_eq_true rfl, Nat.le_of_ble_eq_true rfl⟩ 0 rfl rfl rfl rfl hl.1 (Nat.le_of_ble_eq_true rfl) dL_law_583 (by first | exact ⟨Nat.le_of_ble_eq_true rfl, Nat.le_of_ble_eq_true rfl⟩ | (refine ⟨?_, ?_⟩ <;> ((try dsimp only); omega)))) (fun x0 u H locs hp hw => ?_)
    have hx0 : x0 = _ := hp
    subst hx0
    refine lv_lload hx hb dL_law_586 (lv_at hl 2 rfl) ?_
    refine W.lcmp hx hb dL_law_588 ?_
    refine lv_if_eq (tgt := 594) hx hb dL_law_589 (by decide) (fun j9 => ?_) (fun h => absurd (lcmp0 rfl) h)
    refine lv_iload hx hb dL_law_594 (lv_at hl 0 rfl) ?_
    refine lv_if_ne (tgt := 602) hx hb dL_law_596 (by decide) (fun j10 => ?_) (fun h => absurd h (by decide))
    refine lv_iload hx hb dL_law_602 (lv_at hl 3 rfl) ?_
    refine lv_iconst (v := 4) hx hb dL_law_604 (by decide) ?_
    refine lv_ishr hx hb dL_law_605 ?_
    refine lv_iload hx hb dL_law_606 (lv_at hl 1 rfl) ?_
    refine ncall_i hc hw (nrunS (n := 2) (As := [.int (x4 >>> ((4 : Int32) &&& 31)), .int (nI n)]) (rest := []) hc hw (metL_below l G _ (_) n (⟨hn3, by omega⟩)) gL_law_L_below rfl (by decide +kernel) ⟨Nat.le_of_ble_eq_true rfl, Nat.le_of_ble_eq_true rfl⟩ rfl rfl hl.1 (Nat.le_of_ble_eq_true rfl) dL_law_608 (by first | exact ⟨Nat.le_of_ble_eq_true rfl, Nat.le_of_ble_eq_true rfl⟩ | (refine ⟨?_, ?_⟩ <;> ((try dsimp only); omega)))) (fun x0 H locs hp hw => ?_)
    obtain ⟨g, hg, ej⟩ := hp
    subst ej
    refine lv_istore (lv' := [(9, .int (nI g)), (8, .int 1), (7, .int (nI n)), (5, .long (cD z r)), (4, .int x4), (3, .int (nI tm)), (2, .ref aS), (1, .ref (a 0)), (0, .ref bs)]) hx hb dL_law_611 hl (by decide) rfl (fun ls hl => ?_)
    obtain ⟨d, F, M, S0, hF, hFd, hd, hdi, hdist, hK1, hK2, hcs⟩ := c_err hA0 h3 (by omega) (by omega) hy hyn hg
    have hcm : (cT z r q g = -1 ∧ d = 9999 ∧ ¬ sKn rw xr mp mm g 10 y = 1) ∨ ∃ w, cT z r q g = nI w ∧ w ≤ 360 ∧ d ≤ w ∧ d ≤ 9990 ∧ (sKn rw xr mp mm g 10 y = 1 → w = S0) := by
      rcases hcs with ⟨-, c1, c2, c3⟩ | ⟨-, _, _, -, ⟨-, -, c3, w, c4, c5, c6, c7⟩ | ⟨-, c1, c2, c3⟩⟩
      · exact Or.inr ⟨0, c1, by omega, by omega, by omega, fun k => (c3 k).symm⟩
      · exact Or.inr ⟨w, c4, c5, c6, c3, c7⟩
      · exact Or.inl ⟨c1, c2, c3⟩
    have hcs2 : (y = g ∧ cT z r q g = 0) ∨ (y ≠ g ∧ ∃ (k : Nat) (Z : sS), sEnds n xn xr nr (r 1) Z k (rS0 nr v rw wy mp mm g) ∧ ((rXd (zeo (z 0) (r 0) (r 5)) (zq (r 2)) F y g (v 9).toInt (v 10).toInt (v 11) (v 12) (sKn rw xr mp mm g 10 y = 1) S0 Z.1 Z.2.2.2.2.2.1 Z.2.2.2.2.2.2 ∧ cT z r q g = Z.1 9 - z 6 ∧ d ≤ 9990 ∧ ∃ w, cT z r q g = nI w ∧ w ≤ 360) ∨ (rXv F y (v 9).toInt (v 10).toInt (v 11) (v 12) Z.1 ∧ cT z r q g = -1))) := by
      rcases hcs with ⟨c1, c2, -⟩ | ⟨c1, k, Z, c2, ⟨c3, c4, c5, w, c6, c7, -⟩ | ⟨c3, c4, -⟩⟩
      · exact Or.inl ⟨c1, c2⟩
      · exact Or.inr ⟨c1, k, Z, c2, Or.inl ⟨c3, c4, c5, w, c6, c7⟩⟩
      · exact Or.inr ⟨c1, k, Z, c2, Or.inr ⟨c3, c4⟩⟩
    refine W.widen (k := C + 3455) (n := S + 21310) (by (try dsimp only); omega) (by (try dsimp only); omega) ?_
    refine lpw_told hst hc hA0 (fr := 1) (C := C + 3455) (S := S + 21310) (by omega) (by omega) (by omega) hy hyn hg h3 hd hdist hK2 hcm (fun u H locs ls hl hw => ?_) u H locs ls (lv_sub hl [0, 2, 3, 4, 5, 6, 7, 8] rfl) hw
    refine lpw_goes hst hc hA0 (fr := 1) (C := C + 3525) (S := S + 21710) (by omega) (by omega) (by omega) hy hyn hg h3 hF hFd hdi hS hcs2 (fun w9 H locs ls hZ hl hw => ?_) u H locs ls hl hw
    exact W.widen (k := C + 6700) (n := S + 36000) (by (try dsimp only); omega) (by (try dsimp only); omega) (kx w9 H locs ls hZ hl hw)
  · refine lv_aload_n hx hb dL_law_92 rfl (lv_at hl 5 rfl) ?_
    refine ccall_i hc hw (crunV (n := 0) (As := []) (rest := []) hc hw (k_goal _ a z r u (ans := nI g6) (hv.1.2.2.1.symm.trans h6)) gL_law_X3_goal rfl (by decide +kernel) ⟨Nat.le_of_ble_eq_true rfl, Nat.le_of_ble_eq_true rfl⟩ 0 rfl rfl rfl rfl hl.1 (Nat.le_of_ble_eq_true rfl) dL_law_93 (by first | exact ⟨Nat.le_of_ble_eq_true rfl, Nat.le_of_ble_eq_true rfl⟩ | (refine ⟨?_, ?_⟩ <;> ((try dsimp only); omega)))) (fun x0 u H locs hp hw => ?_)
    have hx0 : x0 = _ := hp
    subst hx0
    refine lv_if_ge (tgt := 103) hx hb dL_law_96 (by decide) (fun j1 => ?_) (fun h => absurd (inle (by omega)) h)
    refine lv_iconst (v := 0) hx hb dL_law_103 (by decide) ?_
    refine lv_istore (lv' := [(8, .int 0), (7, .int (nI n)), (5, .long (cD z r)), (4, .int x4), (3, .int (nI tm)), (2, .ref aS), (1, .ref (a 0)), (0, .ref bs)]) hx hb dL_law_104 hl (by decide) rfl (fun ls hl => ?_)
    refine lv_aload_n hx hb dL_law_106 rfl (lv_at hl 6 rfl) ?_
    refine ccall_i hc hw (crunV (n := 0) (As := []) (rest := []) hc hw (k_milesDoubled _ a z r u (ans := v 10) (hv.1.2.2.2.2.1.symm)) gL_law_X3_milesDoubled rfl (by decide +kernel) ⟨Nat.le_of_ble_eq_true rfl, Nat.le_of_ble_eq_true rfl⟩ 0 rfl rfl rfl rfl hl.1 (Nat.le_of_ble_eq_true rfl) dL_law_107 (by first | exact ⟨Nat.le_of_ble_eq_true rfl, Nat.le_of_ble_eq_true rfl⟩ | (refine ⟨?_, ?_⟩ <;> ((try dsimp only); omega)))) (fun x0 u H locs hp hw => ?_)
    have hx0 : x0 = _ := hp
    subst hx0
    refine lv_if_lt (tgt := 163) hx hb dL_law_110 (by decide) (fun h => absurd ((xltI _ _).mp h) (by rw [show (0 : Int32).toInt = 0 from rfl]; omega)) (fun j2 => ?_)
    refine lv_aload_n hx hb dL_law_113 rfl (lv_at hl 6 rfl) ?_
    refine ccall_i hc hw (crunV (n := 0) (As := []) (rest := []) hc hw (k_milesDoubled _ a z r u (ans := v 10) (hv.1.2.2.2.2.1.symm)) gL_law_X3_milesDoubled rfl (by decide +kernel) ⟨Nat.le_of_ble_eq_true rfl, Nat.le_of_ble_eq_true rfl⟩ 0 rfl rfl rfl rfl hl.1 (Nat.le_of_ble_eq_true rfl) dL_law_114 (by first | exact ⟨Nat.le_of_ble_eq_true rfl, Nat.le_of_ble_eq_true rfl⟩ | (refine ⟨?_, ?_⟩ <;> ((try dsimp only); omega)))) (fun x0 u H locs hp hw => ?_)
    have hx0 : x0 = _ := hp
    subst hx0
    refine lv_aload_n hx hb dL_law_117 rfl (lv_at hl 6 rfl) ?_
    refine ccall_i hc hw (crunV (n := 0) (As := []) (rest := [.int (v 10)]) hc hw (k_milesWalked _ a z r u (ans := v 9) (hv.1.2.2.2.1.symm)) gL_law_X3_milesWalked rfl (by decide +kernel) ⟨Nat.le_of_ble_eq_true rfl, Nat.le_of_ble_eq_true rfl⟩ 0 rfl rfl rfl rfl hl.1 (Nat.le_of_ble_eq_true rfl) dL_law_118 (by first | exact ⟨Nat.le_of_ble_eq_true rfl, Nat.le_of_ble_eq_true rfl⟩ | (refine ⟨?_, ?_⟩ <;> ((try dsimp only); omega)))) (fun x0 u H locs hp hw => ?_)
    have hx0 : x0 = _ := hp
    subst hx0
    refine lv_icmp_gt (tgt := 163) hx hb dL_law_121 (by decide) (fun h => absurd ((xltI _ _).mp h) (by omega)) (fun j3 => ?_)
    refine lv_aload_n hx hb dL_law_124 rfl (lv_at hl 6 rfl) ?_
    refine ccall_i hc hw (crunV (n := 0) (As := []) (rest := []) hc hw (k_coins _ a z r u (ans := v 5) (hv.1.2.1.symm)) gL_law_X3_coins rfl (by decide +kernel) ⟨Nat.le_of_ble_eq_true rfl, Nat.le_of_ble_eq_true rfl⟩ 0 rfl rfl rfl rfl hl.1 (Nat.le_of_ble_eq_true rfl) dL_law_125 (by first | exact ⟨Nat.le_of_ble_eq_true rfl, Nat.le_of_ble_eq_true rfl⟩ | (refine ⟨?_, ?_⟩ <;> ((try dsimp only); omega)))) (fun x0 u H locs hp hw => ?_)
    have hx0 : x0 = _ := hp
    subst hx0
    refine lv_if_lt (tgt := 163) hx hb dL_law_128 (by decide) (fun h => absurd ((xltI _ _).mp h) (by rw [show (0 : Int32).toInt = 0 from rfl]; omega)) (fun j4 => ?_)
    refine lv_aload_n hx hb dL_law_131 rfl (lv_at hl 6 rfl) ?_
    refine ccall_i hc hw (crunV (n := 0) (As := []) (rest := []) hc hw (k_coins _ a z r u (ans := v 5) (hv.1.2.1.symm)) gL_law_X3_coins rfl (by decide +kernel) ⟨Nat.le_of_ble_eq_true rfl, Nat.le_of_ble_eq_true rfl⟩ 0 rfl rfl rfl rfl hl.1 (Nat.le_of_ble_eq_true rfl) dL_law_132 (by first | exact ⟨Nat.le_of_ble_eq_true rfl, Nat.le_of_ble_eq_true rfl⟩ | (refine ⟨?_, ?_⟩ <;> ((try dsimp only); omega)))) (fun x0 u H locs hp hw => ?_)
    have hx0 : x0 = _ := hp
    subst hx0
    refine lv_bipush (v := 99) hx hb dL_law_135 (by decide) ?_
    refine lv_icmp_gt (tgt := 163) hx hb dL_law_137 (by decide) (fun h => absurd ((xltI _ _).mp h) (by rw [show (99 : Int32).toInt = 99 from rfl]; omega)) (fun j5 => ?_)
    refine lv_iload hx hb dL_law_140 (lv_at hl 0 rfl) ?_
    refine lv_if_eq (tgt := 152) hx hb dL_law_142 (by decide) (fun j6 => ?_) (fun h => absurd rfl h)
    refine lv_aload_n hx hb dL_law_152 rfl (lv_at hl 6 rfl) ?_
    refine lv_aload_n hx hb dL_law_153 rfl (lv_at hl 6 rfl) ?_
    refine ccall_i hc hw (crunV (n := 0) (As := []) (rest := [.ref (a 0)]) hc hw (k_whereIs _ a z r u (ans := nI y) (hwhere)) gL_law_X3_whereIs rfl (by decide +kernel) ⟨Nat.le_of_ble_eq_true rfl, Nat.le_of_ble_eq_true rfl⟩ 0 rfl rfl rfl rfl hl.1 (Nat.le_of_ble_eq_true rfl) dL_law_154 (by first | exact ⟨Nat.le_of_ble_eq_true rfl, Nat.le_of_ble_eq_true rfl⟩ | (refine ⟨?_, ?_⟩ <;> ((try dsimp only); omega)))) (fun x0 u H locs hp hw => ?_)
    have hx0 : x0 = _ := hp
    subst hx0
    refine ccall_i hc hw (crunV (n := 1) (As := [.int (nI y)]) (rest := []) hc hw (k_knowsWay hst _ a z r u _ hH hkw) gL_law_X3_knowsWay rfl (by decide +kernel) ⟨Nat.le_of_ble_eq_true rfl, Nat.le_of_ble_eq_true rfl⟩ 0 rfl rfl rfl rfl hl.1 (Nat.le_of_ble_eq_true rfl) dL_law_157 (by first | exact ⟨Nat.le_of_ble_eq_true rfl, Nat.le_of_ble_eq_true rfl⟩ | (refine ⟨?_, ?_⟩ <;> ((try dsimp only); omega)))) (fun x0 u H locs hp hw => ?_)
    have hx0 : x0 = _ := hp
    subst hx0
    refine lv_if_ne (tgt := 165) hx hb dL_law_160 (by decide) (fun j8 => ?_) (fun h => absurd h (by decide))
    refine lv_iconst (v := 0) hx hb dL_law_165 (by decide) ?_
    refine lv_istore (lv' := [(9, .int 0), (8, .int 0), (7, .int (nI n)), (5, .long (cD z r)), (4, .int x4), (3, .int (nI tm)), (2, .ref aS), (1, .ref (a 0)), (0, .ref bs)]) hx hb dL_law_166 hl (by decide) rfl (fun ls hl => ?_)
    refine W.widen (k := C + 50 + 340 * 0) (n := S + 300 + 2100 * 0) (by (try dsimp only); omega) (by (try dsimp only); omega) ?_
    refine lpw_places hst hc hA0 (C := C + 50) (S := S + 300) (by omega) htm (fr := 0) (Or.inr ⟨rfl, h3⟩) (fun u H locs ls hl hw => ?_) n 0 (by omega) u H locs ls (lv_sub hl [0, 1, 2, 3, 4, 5, 6, 7, 8] rfl) hw
    refine lv_aload_n hx hb dL_law_582 rfl (lv_at hl 6 rfl) ?_
    refine ccall_l hc hw (crunV (n := 0) (As := []) (rest := []) hc hw (k_digest _ a z r u (ans := cD z r) hH rfl) gL_law_X3_digest rfl (by decide +kernel) ⟨Nat.le_of_ble_eq_true rfl, Nat.le_of_ble_eq_true rfl⟩ 0 rfl rfl rfl rfl hl.1 (Nat.le_of_ble_eq_true rfl) dL_law_583 (by first | exact ⟨Nat.le_of_ble_eq_true rfl, Nat.le_of_ble_eq_true rfl⟩ | (refine ⟨?_, ?_⟩ <;> ((try dsimp only); omega)))) (fun x0 u H locs hp hw => ?_)
    have hx0 : x0 = _ := hp
    subst hx0
    refine lv_lload hx hb dL_law_586 (lv_at hl 2 rfl) ?_
    refine W.lcmp hx hb dL_law_588 ?_
    refine lv_if_eq (tgt := 594) hx hb dL_law_589 (by decide) (fun j9 => ?_) (fun h => absurd (lcmp0 rfl) h)
    refine lv_iload hx hb dL_law_594 (lv_at hl 0 rfl) ?_
    refine lv_if_ne (tgt := 602) hx hb dL_law_596 (by decide) (fun h => absurd rfl h) (fun j10 => ?_)
    refine lv_goto (tgt := 1018) hx hb dL_law_599 (by decide) ?_
    exact W.widen (k := C + 6700) (n := S + 36000) (by (try dsimp only); omega) (by (try dsimp only); omega) (kx (((z, r, u), (L, f)) : lS) H locs ls ⟨_, _, _, _, _, _, _, _, _, _, _, cB_up ⟨_, _, hA0⟩ (by omega) (by omega), hS⟩ (lv_sub hl [4, 5, 6, 7] rfl) hw)
set_option maxHeartbeats 40000000 in
set_option maxRecDepth 100000 in
theorem lpw_rounds {p : Program} {l : Launch} {e : Env} {s : State} {m : MethodId} {args : Array Value} {below : List Frame} {meth : Method} {c : Code} {Q : State → Prop} {G : xG} {A : Nat → Prop} (hst : l.stackTraces = false) {a : Nat → Nat} {aS bs : Nat} {ret : Option FieldType} (hc : xC p s m args meth c cL_law 20 RL wsL_law ret G A) {L0 : Nat} {xs : Nat → Int32} (hX : va_X bs L0 xs s s.heap) (hbl : bs < s.heap.size) (hbA : ¬ A bs) (hL0 : L0 ≤ 1000)
    (kx : ∀ (w9 : lS) (H : Heap) (locs : List Loc) (ls : Array Slot), lZ 60 24000 G aS w9 → lv_has ls 20 [(2, .ref aS), (1, .ref (a 0)), (0, .ref bs)] → xW G A s.heap (lWN G a w9) H locs → W p l e ⟨12, 777134, 6770066, 438⟩ s m args below meth c H locs 241000 1300000 Q (F0 m 1024 ls [])) :
    ∀ (d tm : Nat), tm + d = 12 → ∀ (w9 : lS) (H : Heap) (locs : List Loc) (ls : Array Slot), lZ (5 * tm) (2000 * tm) G aS w9 → lv_has ls 20 [(3, .int (nI tm)), (2, .ref aS), (1, .ref (a 0)), (0, .ref bs)] → xW G A s.heap (lWN G a w9) H locs → W p l e ⟨12, 777134, 6770066, 438⟩ s m args below meth c H locs (500 + 20000 * tm) (5000 + 100000 * tm) Q (F0 m 22 ls []) := by
  obtain ⟨hx, hb, -, hown, hts, -⟩ := id hc
  intro d
  induction d with
  | zero =>
    intro tm hd w9 H locs ls hZ hl hw
    have ek : tm = 12 := by omega
    subst ek
    refine lv_iload_n hx hb dL_law_22 rfl (lv_at hl 0 rfl) ?_
    refine lv_bipush (v := 12) hx hb dL_law_23 (by decide) ?_
    refine lv_icmp_ge (tgt := 1024) hx hb dL_law_25 (by decide) (fun hz => ?_) (fun h => absurd (show (12 : Int32) ≤ nI 12 by decide) h)
    exact W.widen (k := 241000) (n := 1300000) (by (try dsimp only); omega) (by (try dsimp only); omega) (kx w9 H locs ls hZ (lv_sub hl [1, 2, 3] rfl) hw)
  | succ d ih =>
    intro tm hd w9 H locs ls hZ hl hw
    refine lv_iload_n hx hb dL_law_22 rfl (lv_at hl 0 rfl) ?_
    refine lv_bipush (v := 12) hx hb dL_law_23 (by decide) ?_
    refine lv_icmp_ge (tgt := 1024) hx hb dL_law_25 (by decide) (fun h => absurd h (show ¬ (12 : Int32) ≤ nI tm from nI_ge (b := 12) (by omega) (by omega))) (fun hz => ?_)
    refine lv_aload_n hx hb dL_law_28 rfl (lv_at hl 3 rfl) ?_
    refine lv_iload_n hx hb dL_law_29 rfl (lv_at hl 0 rfl) ?_
    refine ncall_i hc hw (nrunSs (n := 2) (As := [.ref bs, .int (nI tm)]) (rest := []) hc hw hX hbl hbA (metL_cell l G _ _ _ _ tm (by omega) hL0) gL_law_L_cell rfl (by decide +kernel) ⟨Nat.le_of_ble_eq_true rfl, Nat.le_of_ble_eq_true rfl⟩ rfl rfl hl.1 (Nat.le_of_ble_eq_true rfl) dL_law_30 (by first | exact ⟨Nat.le_of_ble_eq_true rfl, Nat.le_of_ble_eq_true rfl⟩ | (refine ⟨?_, ?_⟩ <;> ((try dsimp only); omega)))) (fun x5 H locs hp9 hw => ?_)
    refine lv_iconst (v := 2) hx hb dL_law_33 (by decide) ?_
    refine lv_ishr hx hb dL_law_34 ?_
    refine lv_bipush (v := 53) hx hb dL_law_35 (by decide) ?_
    refine lv_iload_n hx hb dL_law_37 rfl (lv_at hl 0 rfl) ?_
    refine lv_imul hx hb dL_law_38 ?_
    refine lv_iadd hx hb dL_law_39 ?_
    refine lv_istore (lv' := [(4, .int ((x5 >>> ((2 : Int32) &&& 31)) + (53 * (nI tm)))), (3, .int (nI tm)), (2, .ref aS), (1, .ref (a 0)), (0, .ref bs)]) hx hb dL_law_40 hl (by decide) rfl (fun ls hl => ?_)
    refine lv_iconst (v := 0) hx hb dL_law_42 (by decide) ?_
    refine lv_istore (lv' := [(5, .int 0), (4, .int ((x5 >>> ((2 : Int32) &&& 31)) + (53 * (nI tm)))), (3, .int (nI tm)), (2, .ref aS), (1, .ref (a 0)), (0, .ref bs)]) hx hb dL_law_43 hl (by decide) rfl (fun ls hl => ?_)
    refine W.widen (k := 500 + 20000 * tm + 3010 * 0) (n := 5000 + 100000 * tm + 13720 * 0) (by (try dsimp only); omega) (by (try dsimp only); omega) ?_
    refine lpw_acts hst hc (N0 := 5 * tm) (B0 := 2000 * tm) (C := 500 + 20000 * tm) (S := 5000 + 100000 * tm) (by omega) (by omega) (fun w9 H locs ls hZ hl hw => ?_) 4 0 rfl w9 H locs ls (by rw [show (2000 : Int) * (tm : Int) + 400 * ((0 : Nat) : Int) = 2000 * tm by omega]; exact hZ) (lv_sub hl [0, 1, 2, 3, 4, 5] rfl) hw
    refine lpw_round hst hc (N0 := 5 * tm + 4) (B0 := 2000 * tm + 1600) (C := 500 + 20000 * tm + 12040) (S := 5000 + 100000 * tm + 54880) (by omega) (by omega) (by omega) (fun w9 H locs ls hZ hl hw => ?_) w9 H locs ls hZ hl hw
    refine lv_iinc (v := nI (tm + 1)) (lv' := [(3, .int (nI (tm + 1))), (2, .ref aS), (1, .ref (a 0)), (0, .ref bs)]) hx hb dL_law_1018 hl (k := 0) rfl (nI_1 _) (by decide) rfl (fun ls hl => ?_)
    refine lv_goto (tgt := 22) hx hb dL_law_1021 (by decide) ?_
    refine W.widen (k := 500 + 20000 * (tm + 1)) (n := 5000 + 100000 * (tm + 1)) (by (try dsimp only); omega) (by (try dsimp only); omega) ?_
    refine ih (tm + 1) (by omega) w9 H locs ls ?_ (lv_sub hl [0, 1, 2, 3] rfl) hw
    rw [show (2000 : Int) * ((tm + 1 : Nat) : Int) = 2000 * tm + 1600 + 400 by omega]
    exact hZ
