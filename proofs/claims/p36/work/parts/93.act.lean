theorem lkL_act_c30 : Cond.classLink RL 30 "java/lang/IllegalStateException" ∈ wsL_act := List.mem_of_getElem? (i := 1) (by decide +kernel)
theorem inL_act_X4 : ∀ w ∈ u_ws RX4 TX4 14, w ∈ wsL_act := fun _ h => List.mem_cons_of_mem _ (List.mem_append_left _ (List.mem_append_left _ (List.mem_append_left _ (List.mem_append_left _ (List.mem_append_left _ (List.mem_append_left _ (List.mem_append_left _ (List.mem_append_right _ h))))))))
theorem lkL_act_f9 : Cond.fieldLink RL 9 "MapCarrierLaw$Sim" "exits" "[[I" ∈ wsL_act := List.mem_of_getElem? (i := 2) (by decide +kernel)
theorem lkL_act_f39 : Cond.fieldLink RL 39 "MapCarrierLaw$Sim" "roads" "[[I" ∈ wsL_act := List.mem_of_getElem? (i := 3) (by decide +kernel)
theorem lkL_act_f46 : Cond.fieldLink RL 46 "MapCarrierLaw$Sim" "shepherd" "[Z" ∈ wsL_act := List.mem_of_getElem? (i := 4) (by decide +kernel)
theorem lkL_act_f54 : Cond.fieldLink RL 54 "MapCarrierLaw$Sim" "coins" "I" ∈ wsL_act := List.mem_of_getElem? (i := 5) (by decide +kernel)
theorem lkL_act_m58 : Cond.methodLink RL 58 Lib.Math.min.name ∈ wsL_act := List.mem_of_getElem? (i := 6) (by decide +kernel)
theorem lkL_act_mst : Cond.static Lib.Math.min.name ∈ wsL_act := List.mem_of_getElem? (i := 7) (by decide +kernel)
theorem lkL_act_min : Cond.initialized "java/lang/Math" ∈ wsL_act := List.mem_of_getElem? (i := 8) (by decide +kernel)
theorem lkL_act_mco : Cond.code Lib.Math.min.name Lib.Math.min.code 2 (some .int) ∈ wsL_act := List.mem_of_getElem? (i := 9) (by decide +kernel)
theorem lkL_act_f73 : Cond.fieldLink RL 73 "MapCarrierLaw$Sim" "goal" "I" ∈ wsL_act := List.mem_of_getElem? (i := 10) (by decide +kernel)
theorem lkL_act_f76 : Cond.fieldLink RL 76 "MapCarrierLaw$Sim" "way" "[[I" ∈ wsL_act := List.mem_of_getElem? (i := 11) (by decide +kernel)
theorem lkL_act_f85 : Cond.fieldLink RL 85 "MapCarrierLaw$Sim" "where" "I" ∈ wsL_act := List.mem_of_getElem? (i := 12) (by decide +kernel)
/-! the law's act: one thing is done, on both sides, and the answers are the same -/
def lZ (N : Nat) (B : Int) (G : xG) (aS : Nat) (w : lS) : Prop := ∃ n xn xr nr v rw ak wl wy mp mm, cB N B w.1.1 w.1.2.1 n xn xr nr v rw ak wl wy mp mm ∧ Sh G w.2.1 w.2.2 aS v n xn xr nr rw (w.1.2.1 1) ak wl wy mp mm
theorem l1k {k : Nat} {M : Nat} (h : k < M) (hM : M ≤ 1000) : (1 : Int32) + nI k = nI (1 + k) ∧ (1 ≤ 1 + k ∧ 1 + k ≤ M) ∧ (1 ≤ ((1 : Int32) + nI k).toInt ∧ ((1 : Int32) + nI k).toInt ≤ M) := by
  have e : (1 : Int32) + nI k = nI (1 + k) := nI_add 1 k
  refine ⟨e, by omega, ?_⟩
  rw [e, nI_toInt (by omega)]
  omega
theorem lge {k M : Nat} (hk : k < 100000) (hM : M < 100000) : (nI M : Int32) ≤ nI k ↔ M ≤ k := by
  rw [xle, nI_toInt (by omega), nI_toInt (by omega)]
  omega
theorem Sh_r {G : xG} {L : List Nat} {f : Nat → va_E} {aS : Nat} {v : Nat → Int32} {n : Nat} {xn : Nat → Nat} {xr : Nat → Nat → Int32} {nr : Nat} {rw : Nat → Nat → Int32} {sh sh2 ak : Nat → Int32} {wl : Nat} {wy : Nat → Nat → Int32} {mp : Nat → Nat → Bool} {mm : Nat → Nat → Nat → Int32} (h : Sh G L f aS v n xn xr nr rw sh ak wl wy mp mm) (e : sh2 = sh) : Sh G L f aS v n xn xr nr rw sh2 ak wl wy mp mm := by rw [e]; exact h
theorem Sh_new {G : xG} {L L1 : List Nat} {f f1 : Nat → va_E} {aS : Nat} {v : Nat → Int32} {n : Nat} {xn : Nat → Nat} {xr : Nat → Nat → Int32} {nr : Nat} {rw : Nat → Nat → Int32} {sh ak : Nat → Int32} {wl : Nat} {wy : Nat → Nat → Int32} {mp : Nat → Nat → Bool} {mm : Nat → Nat → Nat → Int32} (h : Sh G L f aS v n xn xr nr rw sh ak wl wy mp mm) (k : pk (fun _ => False) L f L1 f1) : Sh G L1 f1 aS v n xn xr nr rw sh ak wl wy mp mm := by
  obtain ⟨ad, oo, om, hO, hA⟩ := h
  exact ⟨ad, oo, om, hO.kp k (fun z => z), hA.fresh k⟩
theorem rG_J {n : Nat} {xn : Nat → Nat} {xr : Nat → Nat → Int32} {nr : Nat} {pl rs : Int32} {ex sh ld tw le op rd ml cz : Nat → Int32} {B : Int} {L0 : rLoop} (hL : zL pl rs ex ld tw le op rd ml cz) (hn : n ≤ 10) (hB : 0 ≤ B ∧ B ≤ 1000000) (i : Nat) (v : Nat → Int32) (rw : Nat → Nat → Int32) (ak : Nat → Int32) (wl : Nat) (wy : Nat → Nat → Int32) (mp : Nat → Nat → Bool) (mm : Nat → Nat → Nat → Int32) (hG : rG n xn xr nr pl rs ex ld rd ml cz sh B L0 i v rw ak wl wy mp mm) (h6 : ¬ v 6 < 0) :
    ∃ q g, sX n xn xr nr rw ∧ sVd n xn v wl wy mp mm ∧ v 4 = nI q ∧ q < n ∧ v 6 = nI g ∧ g < n ∧ ∀ b v2 rw2 ak2 wl2 wy2 mp2 mm2, sStR v n xn xr nr rw sh ak wl wy mp mm q g b v2 rw2 ak2 wl2 wy2 mp2 mm2 → (¬ b = 0 → rG n xn xr nr pl rs ex ld rd ml cz sh B L0 (i + 1) v2 rw2 ak2 wl2 wy2 mp2 mm2) ∧ (b = 0 → rE n xn xr nr pl rs ex ld rd ml cz B L0 i v2 rw2 ak2 wl2 wy2 mp2 mm2) := by
  obtain ⟨q, g, a1, a2, a3, a4, -⟩ := rG_at hn hG h6
  refine ⟨q, g, rL_sX hL hG.2.1, hG.2.2.1, a1, a2, a3, a4, fun b v2 rw2 ak2 wl2 wy2 mp2 mm2 hst => ?_⟩
  obtain ⟨-, s1, s2⟩ := rG_step hL hB (fun _ _ => Iff.rfl) hG h6 a1 a2 a3 a4 hst
  exact ⟨s1, s2⟩
theorem cA_di {N : Nat} {B : Int} {z : Nat → Int32} {r : Nat → Nat → Int32} {rs : Int32} {q : Nat → Nat → Int32} {n : Nat} {xn : Nat → Nat} {xr : Nat → Nat → Int32} {nr : Nat} {v : Nat → Int32} {rw : Nat → Nat → Int32} {ak : Nat → Int32} {wl : Nat} {wy : Nat → Nat → Int32} {mp : Nat → Nat → Bool} {mm : Nat → Nat → Nat → Int32} (h : cA N B z r rs q n xn xr nr v rw ak wl wy mp mm) {x y : Nat} (hx : x < n) (hy : y < n) {d d2 : Nat} (h1 : dI (z 0) (r 0) (r 2) (r 4) (r 5) x y d) (h2 : dI (z 0) (r 0) (r 2) (r 4) (r 5) x y d2) : d = d2 := by
  have hn := cA_n h
  obtain ⟨w, k1, -⟩ := a_far h hy hx
  have e1 := dI_u (cA_L h) (by omega) (by omega) h1 k1
  have e2 := dI_u (cA_L h) (by omega) (by omega) h2 k1
  omega
set_option maxHeartbeats 40000000 in
set_option maxRecDepth 100000 in
theorem act_0 {p : Program} {l : Launch} {e : Env} {s : State} {m : MethodId} {args : Array Value} {below : List Frame} {meth : Method} {c : Code} {H : Heap} {locs : List Loc} {ls : Array Slot} {G : xG} {w0 : va_W} {sz : Nat} (hst : l.stackTraces = false) {a : Nat → Nat} {aS : Nat} {u : cU} {L : List Nat} {f : Nat → va_E} {N : Nat} {B : Int} {z : Nat → Int32} {r : Nat → Nat → Int32} {n : Nat} {xn : Nat → Nat} {xr : Nat → Nat → Int32} {nr : Nat} {v : Nat → Int32} {rw : Nat → Nat → Int32} {ak : Nat → Int32} {wl : Nat} {wy : Nat → Nat → Int32} {mp : Nat → Nat → Bool} {mm : Nat → Nat → Nat → Int32} (hc : xC p s m args meth c cL_act 10 RL wsL_act (some .boolean) G (va_A w0 sz)) (ht : c.exceptionTable.toList = tableOf [(116, 122, 125, 30), (212, 224, 227, 30), (544, 550, 553, 30), (614, 622, 625, 30), (687, 695, 698, 30)]) (hB : cB N B z r n xn xr nr v rw ak wl wy mp mm) (hS : Sh G L f aS v n xn xr nr rw (r 1) ak wl wy mp mm) (hNB : N < 100000 ∧ 0 ≤ B ∧ B ≤ 1000000) {x : Int32} {pp : Nat} (hp0 : pp < n) (hl : lv_has ls 10 [(6, .int (-9)), (4, .int (nI pp)), (3, .int (nI n)), (0, .ref (a 0)), (1, .ref aS), (2, .int x)]) (hw : xW G (va_A w0 sz) s.heap (cW G a z r u ++ va_pl L f) H locs) : W p l e ⟨8, 3010, 13720, 172⟩ s m args below meth c H locs 0 0 (MQ below (xQi G w0 sz (fun (x0 : Int32) (w : lS) => x0 = 1 ∧ lZ (N + 1) (B + 400) G aS w) (lWN G a)) args s 3010 13720 (va_A w0 sz)) (F0 m 92 ls []) := by
  obtain ⟨hx, hb, -, hown, hts, -⟩ := id hc
  have hH := cB_H hB
  obtain ⟨hn1, hn2, hn3, hn4, hn5⟩ := cB_n hB
  obtain ⟨ad, oo, om, hO, hA⟩ := id hS
  obtain ⟨⟨hR1, hR2, hR3⟩, ⟨hE1, hE2⟩, ⟨hZ1, hZ2, hZ3⟩, ⟨hW1, hW2⟩, hM, hNe⟩ := id hA
  have hO : objS L f aS 4 [.ref (ad 0), .ref (ad 1), .ref (ad 2), .ref (ad 3), .int (v 4), .int (v 5), .int (v 6), .ref (ad 4), .ref (ad 5), .int (v 9), .int (v 10), .int (v 11), .int (v 12), .int (v 13)] := hO
  refine lv_iload_n hx hb dL_act_92 rfl (lv_at hl 2 rfl) ?_
  refine lv_bipush (v := 10) hx hb dL_act_93 (by decide) ?_
  refine lv_icmp_ge (tgt := 102) hx hb dL_act_95 (by decide) (fun hz => ?_) (fun hz => ?_)
  · have hn : ¬ n < 10 := by have := (lge (k := n) (M := 10) (by omega) (by omega)).mp hz; omega
    obtain ⟨rs, q, hA0⟩ := id hB
    refine lv_bipush (v := (-9)) hx hb dL_act_102 (by decide) ?_
    refine lv_istore (lv' := [(6, .int (-9)), (4, .int (nI pp)), (3, .int (nI n)), (0, .ref (a 0)), (1, .ref aS), (2, .int x)]) hx hb dL_act_104 hl (by decide) rfl (fun ls hl => ?_)
    refine lv_iload_n hx hb dL_act_106 rfl (lv_at hl 2 rfl) ?_
    refine lv_bipush (v := 10) hx hb dL_act_107 (by decide) ?_
    refine lv_icmp_ge (tgt := 116) hx hb dL_act_109 (by decide) (fun hz2 => ?_) (fun h => absurd hz h)
    refine lv_aload_n hx hb dL_act_116 rfl (lv_at hl 3 rfl) ?_
    have t3 := congrArg Prod.fst (t_place hA0 hn)
    refine ccallX_i hc hw (crunVX (n := 0) (As := []) (rest := []) hc hw (kX_addPlace hst _ a z r u (k0 := 3) (by decide) t3) gL_act_X3_addPlace rfl (by decide +kernel) ⟨Nat.le_of_ble_eq_true rfl, Nat.le_of_ble_eq_true rfl⟩ 0 rfl rfl rfl rfl hl.1 (Nat.le_of_ble_eq_true rfl) dL_act_117 (by first | exact ⟨Nat.le_of_ble_eq_true rfl, Nat.le_of_ble_eq_true rfl⟩ | (refine ⟨?_, ?_⟩ <;> ((try dsimp only); omega)))) (fun E ce q9 H locs hpx hw h9 hv9 hc9 => ?_) (fun x0 w1 H locs hp hw => hp.elim)
    have hE := lIS t3 hpx
    subst hE
    refine lcatch (own := RL) hc [] ⟨116, 122, 125, 30⟩ [⟨212, 224, 227, 30⟩, ⟨544, 550, 553, 30⟩, ⟨614, 622, 625, 30⟩, ⟨687, 695, 698, 30⟩] ht rfl rfl (by decide) lkL_act_c30 (by decide +kernel) h9 hv9 hc9 ?_
    refine lv_astore (lv' := [(7, .ref q9), (6, .int (-9)), (4, .int (nI pp)), (3, .int (nI n)), (0, .ref (a 0)), (1, .ref aS), (2, .int x)]) hx hb dL_act_125 hl (by decide) rfl (fun ls hl => ?_)
    refine lv_bipush (v := (-9)) hx hb dL_act_127 (by decide) ?_
    refine lv_istore (lv' := [(5, .int (-9)), (7, .ref q9), (6, .int (-9)), (4, .int (nI pp)), (3, .int (nI n)), (0, .ref (a 0)), (1, .ref aS), (2, .int x)]) hx hb dL_act_129 hl (by decide) rfl (fun ls hl => ?_)
    refine lv_iload hx hb dL_act_131 (lv_at hl 0 rfl) ?_
    refine lv_iload hx hb dL_act_133 (lv_at hl 2 rfl) ?_
    refine lv_icmp_ne (tgt := 142) hx hb dL_act_135 (by decide) (fun h => absurd rfl h) (fun hz3 => ?_)
    refine lv_iconst (v := 1) hx hb dL_act_138 (by decide) ?_
    refine lv_goto (tgt := 143) hx hb dL_act_139 (by decide) ?_
    exact xret_z (wn := lWN G a) ((z, r, u), (L, f)) hc hw rfl ⟨rfl, _, _, _, _, _, _, _, _, _, _, _, cB_up (hB) (by omega) (by omega), hS⟩ (by first | exact ⟨Nat.le_of_ble_eq_true rfl, Nat.le_of_ble_eq_true rfl⟩ | (refine ⟨?_, ?_⟩ <;> ((try dsimp only); omega))) dL_act_143
  · have hn : n < 10 := by
      rcases Nat.lt_or_ge n 10 with h | h
      · exact h
      · exact absurd ((lge (k := n) (M := 10) (by omega) (by omega)).mpr h) hz
    refine lv_iload_n hx hb dL_act_98 rfl (lv_at hl 2 rfl) ?_
    refine lv_goto (tgt := 104) hx hb dL_act_99 (by decide) ?_
    refine lv_istore (lv' := [(6, .int (nI n)), (4, .int (nI pp)), (3, .int (nI n)), (0, .ref (a 0)), (1, .ref aS), (2, .int x)]) hx hb dL_act_104 hl (by decide) rfl (fun ls hl => ?_)
    refine lv_iload_n hx hb dL_act_106 rfl (lv_at hl 2 rfl) ?_
    refine lv_bipush (v := 10) hx hb dL_act_107 (by decide) ?_
    refine lv_icmp_ge (tgt := 116) hx hb dL_act_109 (by decide) (fun h => absurd h hz) (fun hz2 => ?_)
    refine lv_aload_n hx hb dL_act_112 rfl (lv_at hl 4 rfl) ?_
    refine pcall_v hc hw (prunV (n := 0) (As := []) (rest := []) hc hw (metS_place l G _ _ _ aS v n xn xr nr rw _ ak wl wy mp mm hS (by omega)) gL_act_X4_place rfl (by decide +kernel) ⟨Nat.le_of_ble_eq_true rfl, Nat.le_of_ble_eq_true rfl⟩ hO rfl rfl rfl hl.1 (Nat.le_of_ble_eq_true rfl) dL_act_113 (by first | exact ⟨Nat.le_of_ble_eq_true rfl, Nat.le_of_ble_eq_true rfl⟩ | (refine ⟨?_, ?_⟩ <;> ((try dsimp only); omega)))) (fun L1 f1 H locs hp hw => ?_)
    obtain ⟨y4, hy4, hy5⟩ := cB_at hB
    have hv4 : ¬ v 4 < 0 := by rw [hy4, xltI, nI_toInt (by omega), show (0 : Int32).toInt = 0 from rfl]; omega
    have hS1 : Sh G L1 f1 aS (if v 4 < 0 then upd v 4 0 else v) (n + 1) (va_up xn n 0) xr nr rw (r 1) ak wl wy mp mm := hp
    rw [if_neg hv4] at hS1
    refine lv_aload_n hx hb dL_act_116 rfl (lv_at hl 3 rfl) ?_
    refine ccall_i hc hw (crunV (n := 0) (As := []) (rest := []) hc hw (kk_addPlace hst hB hn) gL_act_X3_addPlace rfl (by decide +kernel) ⟨Nat.le_of_ble_eq_true rfl, Nat.le_of_ble_eq_true rfl⟩ 0 rfl rfl rfl rfl hl.1 (Nat.le_of_ble_eq_true rfl) dL_act_117 (by first | exact ⟨Nat.le_of_ble_eq_true rfl, Nat.le_of_ble_eq_true rfl⟩ | (refine ⟨?_, ?_⟩ <;> ((try dsimp only); omega)))) (fun x0 w1 H locs hp hw => ?_)
    obtain ⟨z2, r2, u2⟩ := w1
    have hw : xW G (va_A w0 sz) s.heap (cW G a z2 r2 u2 ++ va_pl L1 f1) H locs := hw
    obtain ⟨ex, hB2, hr2⟩ := hp
    subst ex
    refine lv_istore (lv' := [(5, .int (nI n)), (6, .int (nI n)), (4, .int (nI pp)), (3, .int (nI n)), (0, .ref (a 0)), (1, .ref aS), (2, .int x)]) hx hb dL_act_120 hl (by decide) rfl (fun ls hl => ?_)
    refine lv_goto (tgt := 131) hx hb dL_act_122 (by decide) ?_
    refine lv_iload hx hb dL_act_131 (lv_at hl 0 rfl) ?_
    refine lv_iload hx hb dL_act_133 (lv_at hl 1 rfl) ?_
    refine lv_icmp_ne (tgt := 142) hx hb dL_act_135 (by decide) (fun h => absurd rfl h) (fun hz3 => ?_)
    refine lv_iconst (v := 1) hx hb dL_act_138 (by decide) ?_
    refine lv_goto (tgt := 143) hx hb dL_act_139 (by decide) ?_
    exact xret_z (wn := lWN G a) ((z2, r2, u2), (L1, f1)) hc hw rfl ⟨rfl, _, _, _, _, _, _, _, _, _, _, _, cB_up (hB2) (by omega) (by omega), Sh_r hS1 hr2⟩ (by first | exact ⟨Nat.le_of_ble_eq_true rfl, Nat.le_of_ble_eq_true rfl⟩ | (refine ⟨?_, ?_⟩ <;> ((try dsimp only); omega))) dL_act_143
set_option maxHeartbeats 40000000 in
set_option maxRecDepth 100000 in
theorem act_1 {p : Program} {l : Launch} {e : Env} {s : State} {m : MethodId} {args : Array Value} {below : List Frame} {meth : Method} {c : Code} {H : Heap} {locs : List Loc} {ls : Array Slot} {G : xG} {w0 : va_W} {sz : Nat} (hst : l.stackTraces = false) {a : Nat → Nat} {aS : Nat} {u : cU} {L : List Nat} {f : Nat → va_E} {N : Nat} {B : Int} {z : Nat → Int32} {r : Nat → Nat → Int32} {n : Nat} {xn : Nat → Nat} {xr : Nat → Nat → Int32} {nr : Nat} {v : Nat → Int32} {rw : Nat → Nat → Int32} {ak : Nat → Int32} {wl : Nat} {wy : Nat → Nat → Int32} {mp : Nat → Nat → Bool} {mm : Nat → Nat → Nat → Int32} (hc : xC p s m args meth c cL_act 10 RL wsL_act (some .boolean) G (va_A w0 sz)) (ht : c.exceptionTable.toList = tableOf [(116, 122, 125, 30), (212, 224, 227, 30), (544, 550, 553, 30), (614, 622, 625, 30), (687, 695, 698, 30)]) (hB : cB N B z r n xn xr nr v rw ak wl wy mp mm) (hS : Sh G L f aS v n xn xr nr rw (r 1) ak wl wy mp mm) (hNB : N < 100000 ∧ 0 ≤ B ∧ B ≤ 1000000) {x : Int32} {pp : Nat} (hp0 : pp < n) (hl : lv_has ls 10 [(6, .int (-9)), (4, .int (nI pp)), (3, .int (nI n)), (0, .ref (a 0)), (1, .ref aS), (2, .int x)]) (hw : xW G (va_A w0 sz) s.heap (cW G a z r u ++ va_pl L f) H locs) : W p l e ⟨8, 3010, 13720, 172⟩ s m args below meth c H locs 0 0 (MQ below (xQi G w0 sz (fun (x0 : Int32) (w : lS) => x0 = 1 ∧ lZ (N + 1) (B + 400) G aS w) (lWN G a)) args s 3010 13720 (va_A w0 sz)) (F0 m 144 ls []) := by
  obtain ⟨hx, hb, -, hown, hts, -⟩ := id hc
  have hH := cB_H hB
  obtain ⟨hn1, hn2, hn3, hn4, hn5⟩ := cB_n hB
  obtain ⟨ad, oo, om, hO, hA⟩ := id hS
  obtain ⟨⟨hR1, hR2, hR3⟩, ⟨hE1, hE2⟩, ⟨hZ1, hZ2, hZ3⟩, ⟨hW1, hW2⟩, hM, hNe⟩ := id hA
  have hO : objS L f aS 4 [.ref (ad 0), .ref (ad 1), .ref (ad 2), .ref (ad 3), .int (v 4), .int (v 5), .int (v 6), .ref (ad 4), .ref (ad 5), .int (v 9), .int (v 10), .int (v 11), .int (v 12), .int (v 13)] := hO
  refine lv_iload_n hx hb dL_act_144 rfl (lv_at hl 5 rfl) ?_
  refine lv_bipush (v := 6) hx hb dL_act_145 (by decide) ?_
  refine lv_ishr hx hb dL_act_147 ?_
  refine lv_iload_n hx hb dL_act_148 rfl (lv_at hl 2 rfl) ?_
  refine ncall_i hc hw (nrunS (n := 2) (As := [.int (x >>> ((6 : Int32) &&& 31)), .int (nI n)]) (rest := []) hc hw (metL_below l G _ (_) n (⟨hn3, by omega⟩)) gL_act_L_below rfl (by decide +kernel) ⟨Nat.le_of_ble_eq_true rfl, Nat.le_of_ble_eq_true rfl⟩ rfl rfl hl.1 (Nat.le_of_ble_eq_true rfl) dL_act_149 (by first | exact ⟨Nat.le_of_ble_eq_true rfl, Nat.le_of_ble_eq_true rfl⟩ | (refine ⟨?_, ?_⟩ <;> ((try dsimp only); omega)))) (fun x0 H locs hp hw => ?_)
  obtain ⟨y, hy, ej⟩ := hp
  subst ej
  refine lv_istore (lv' := [(7, .int (nI y)), (6, .int (-9)), (4, .int (nI pp)), (3, .int (nI n)), (0, .ref (a 0)), (1, .ref aS), (2, .int x)]) hx hb dL_act_152 hl (by decide) rfl (fun ls hl => ?_)
  refine lv_iload hx hb dL_act_154 (lv_at hl 0 rfl) ?_
  refine lv_iload hx hb dL_act_156 (lv_at hl 2 rfl) ?_
  refine lv_icmp_ne (tgt := 163) hx hb dL_act_158 (by decide) (fun hz => ?_) (fun hz => ?_)
  · have hne : pp ≠ y := fun h => hz (congrArg nI h.symm)
    obtain ⟨hx4, ea, he1, he2⟩ := hE2 pp hp0
    obtain ⟨hy4, eb, hf1, hf2⟩ := hE2 y hy
    refine lv_iconst (v := 1) hx hb dL_act_163 (by decide) ?_
    refine lv_iload_n hx hb dL_act_164 rfl (lv_at hl 6 rfl) ?_
    refine lv_bipush (v := 8) hx hb dL_act_165 (by decide) ?_
    refine lv_ishr hx hb dL_act_167 ?_
    refine lv_bipush (v := 9) hx hb dL_act_168 (by decide) ?_
    refine ncall_i hc hw (nrunS (n := 2) (As := [.int (x >>> ((8 : Int32) &&& 31)), .int 9]) (rest := [.int 1]) hc hw (metL_below l G _ (_) 9 (by decide)) gL_act_L_below rfl (by decide +kernel) ⟨Nat.le_of_ble_eq_true rfl, Nat.le_of_ble_eq_true rfl⟩ rfl rfl hl.1 (Nat.le_of_ble_eq_true rfl) dL_act_170 (by first | exact ⟨Nat.le_of_ble_eq_true rfl, Nat.le_of_ble_eq_true rfl⟩ | (refine ⟨?_, ?_⟩ <;> ((try dsimp only); omega)))) (fun x0 H locs hp hw => ?_)
    obtain ⟨k, hk, ej⟩ := hp
    subst ej
    obtain ⟨e1, e2, e3⟩ := l1k hk (by decide)
    refine lv_iadd hx hb dL_act_173 ?_
    refine lv_istore (lv' := [(8, .int (1 + (nI k))), (7, .int (nI y)), (6, .int (-9)), (4, .int (nI pp)), (3, .int (nI n)), (0, .ref (a 0)), (1, .ref aS), (2, .int x)]) hx hb dL_act_174 hl (by decide) rfl (fun ls hl => ?_)
    refine lv_aload_n hx hb dL_act_176 rfl (lv_at hl 6 rfl) ?_
    refine pget (C := RX4) (T := TX4) (N := 14) (ci := 4) hc hw inL_act_X4 hO rfl 1 (by decide) lkL_act_f9 rfl rfl dL_act_177 ?_
    refine lv_iload hx hb dL_act_180 (lv_at hl 3 rfl) ?_
    refine pald hc hw hE1 pp rfl hp0 (by omega) (v := .ref ea) (by rw [he1]; rfl) dL_act_182 ?_
    refine plenI hc hw he2 dL_act_183 ?_
    refine lv_iconst (v := 4) hx hb dL_act_184 (by decide) ?_
    refine lv_icmp_ge (tgt := 212) hx hb dL_act_185 (by decide) (fun hz2 => ?_) (fun hz2 => ?_)
    · have hf := (lge (k := xn pp) (M := 4) (by omega) (by omega)).mp hz2
      obtain ⟨rs, q, hA0⟩ := id hB
      refine lv_aload_n hx hb dL_act_212 rfl (lv_at hl 5 rfl) ?_
      refine lv_iload hx hb dL_act_213 (lv_at hl 3 rfl) ?_
      refine lv_iload hx hb dL_act_215 (lv_at hl 1 rfl) ?_
      refine lv_iload hx hb dL_act_217 (lv_at hl 0 rfl) ?_
      have t3 := congrArg Prod.fst (t_road hA0 hp0 hy hne (Or.inl (by omega)) e3)
      refine ccallX_i hc hw (crunVX (n := 3) (As := [.int (nI pp), .int (nI y), .int (1 + (nI k))]) (rest := []) hc hw (kX_addRoad hst _ a z r u _ _ _ hH (k0 := 3) (by decide) t3) gL_act_X3_addRoad rfl (by decide +kernel) ⟨Nat.le_of_ble_eq_true rfl, Nat.le_of_ble_eq_true rfl⟩ 0 rfl rfl rfl rfl hl.1 (Nat.le_of_ble_eq_true rfl) dL_act_219 (by first | exact ⟨Nat.le_of_ble_eq_true rfl, Nat.le_of_ble_eq_true rfl⟩ | (refine ⟨?_, ?_⟩ <;> ((try dsimp only); omega)))) (fun E ce q9 H locs hpx hw h9 hv9 hc9 => ?_) (fun x0 w1 H locs hp hw => hp.elim)
      have hE := lIS t3 hpx
      subst hE
      refine lcatch (own := RL) hc [⟨116, 122, 125, 30⟩] ⟨212, 224, 227, 30⟩ [⟨544, 550, 553, 30⟩, ⟨614, 622, 625, 30⟩, ⟨687, 695, 698, 30⟩] ht rfl rfl (by decide) lkL_act_c30 (by decide +kernel) h9 hv9 hc9 ?_
      refine lv_astore (lv' := [(9, .ref q9), (8, .int (1 + (nI k))), (7, .int (nI y)), (6, .int (-9)), (4, .int (nI pp)), (3, .int (nI n)), (0, .ref (a 0)), (1, .ref aS), (2, .int x)]) hx hb dL_act_227 hl (by decide) rfl (fun ls hl => ?_)
      refine lv_bipush (v := (-9)) hx hb dL_act_229 (by decide) ?_
      refine lv_istore (lv' := [(5, .int (-9)), (9, .ref q9), (8, .int (1 + (nI k))), (7, .int (nI y)), (6, .int (-9)), (4, .int (nI pp)), (3, .int (nI n)), (0, .ref (a 0)), (1, .ref aS), (2, .int x)]) hx hb dL_act_231 hl (by decide) rfl (fun ls hl => ?_)
      refine lv_iload hx hb dL_act_233 (lv_at hl 0 rfl) ?_
      refine lv_iload hx hb dL_act_235 (lv_at hl 4 rfl) ?_
      refine lv_icmp_ne (tgt := 244) hx hb dL_act_237 (by decide) (fun h => absurd rfl h) (fun hz3 => ?_)
      refine lv_iconst (v := 1) hx hb dL_act_240 (by decide) ?_
      refine lv_goto (tgt := 245) hx hb dL_act_241 (by decide) ?_
      exact xret_z (wn := lWN G a) ((z, r, u), (L, f)) hc hw rfl ⟨rfl, _, _, _, _, _, _, _, _, _, _, _, cB_up (hB) (by omega) (by omega), hS⟩ (by first | exact ⟨Nat.le_of_ble_eq_true rfl, Nat.le_of_ble_eq_true rfl⟩ | (refine ⟨?_, ?_⟩ <;> ((try dsimp only); omega))) dL_act_245
    · refine lv_aload_n hx hb dL_act_188 rfl (lv_at hl 6 rfl) ?_
      refine pget (C := RX4) (T := TX4) (N := 14) (ci := 4) hc hw inL_act_X4 hO rfl 1 (by decide) lkL_act_f9 rfl rfl dL_act_189 ?_
      refine lv_iload hx hb dL_act_192 (lv_at hl 1 rfl) ?_
      refine pald hc hw hE1 y rfl hy (by omega) (v := .ref eb) (by rw [hf1]; rfl) dL_act_194 ?_
      refine plenI hc hw hf2 dL_act_195 ?_
      refine lv_iconst (v := 4) hx hb dL_act_196 (by decide) ?_
      refine lv_icmp_ge (tgt := 212) hx hb dL_act_197 (by decide) (fun hz4 => ?_) (fun hz4 => ?_)
      · have hf := (lge (k := xn y) (M := 4) (by omega) (by omega)).mp hz4
        obtain ⟨rs, q, hA0⟩ := id hB
        refine lv_aload_n hx hb dL_act_212 rfl (lv_at hl 5 rfl) ?_
        refine lv_iload hx hb dL_act_213 (lv_at hl 3 rfl) ?_
        refine lv_iload hx hb dL_act_215 (lv_at hl 1 rfl) ?_
        refine lv_iload hx hb dL_act_217 (lv_at hl 0 rfl) ?_
        have t3 := congrArg Prod.fst (t_road hA0 hp0 hy hne (Or.inr (by omega)) e3)
        refine ccallX_i hc hw (crunVX (n := 3) (As := [.int (nI pp), .int (nI y), .int (1 + (nI k))]) (rest := []) hc hw (kX_addRoad hst _ a z r u _ _ _ hH (k0 := 3) (by decide) t3) gL_act_X3_addRoad rfl (by decide +kernel) ⟨Nat.le_of_ble_eq_true rfl, Nat.le_of_ble_eq_true rfl⟩ 0 rfl rfl rfl rfl hl.1 (Nat.le_of_ble_eq_true rfl) dL_act_219 (by first | exact ⟨Nat.le_of_ble_eq_true rfl, Nat.le_of_ble_eq_true rfl⟩ | (refine ⟨?_, ?_⟩ <;> ((try dsimp only); omega)))) (fun E ce q9 H locs hpx hw h9 hv9 hc9 => ?_) (fun x0 w1 H locs hp hw => hp.elim)
        have hE := lIS t3 hpx
        subst hE
        refine lcatch (own := RL) hc [⟨116, 122, 125, 30⟩] ⟨212, 224, 227, 30⟩ [⟨544, 550, 553, 30⟩, ⟨614, 622, 625, 30⟩, ⟨687, 695, 698, 30⟩] ht rfl rfl (by decide) lkL_act_c30 (by decide +kernel) h9 hv9 hc9 ?_
        refine lv_astore (lv' := [(9, .ref q9), (8, .int (1 + (nI k))), (7, .int (nI y)), (6, .int (-9)), (4, .int (nI pp)), (3, .int (nI n)), (0, .ref (a 0)), (1, .ref aS), (2, .int x)]) hx hb dL_act_227 hl (by decide) rfl (fun ls hl => ?_)
        refine lv_bipush (v := (-9)) hx hb dL_act_229 (by decide) ?_
        refine lv_istore (lv' := [(5, .int (-9)), (9, .ref q9), (8, .int (1 + (nI k))), (7, .int (nI y)), (6, .int (-9)), (4, .int (nI pp)), (3, .int (nI n)), (0, .ref (a 0)), (1, .ref aS), (2, .int x)]) hx hb dL_act_231 hl (by decide) rfl (fun ls hl => ?_)
        refine lv_iload hx hb dL_act_233 (lv_at hl 0 rfl) ?_
        refine lv_iload hx hb dL_act_235 (lv_at hl 4 rfl) ?_
        refine lv_icmp_ne (tgt := 244) hx hb dL_act_237 (by decide) (fun h => absurd rfl h) (fun hz3 => ?_)
        refine lv_iconst (v := 1) hx hb dL_act_240 (by decide) ?_
        refine lv_goto (tgt := 245) hx hb dL_act_241 (by decide) ?_
        exact xret_z (wn := lWN G a) ((z, r, u), (L, f)) hc hw rfl ⟨rfl, _, _, _, _, _, _, _, _, _, _, _, cB_up (hB) (by omega) (by omega), hS⟩ (by first | exact ⟨Nat.le_of_ble_eq_true rfl, Nat.le_of_ble_eq_true rfl⟩ | (refine ⟨?_, ?_⟩ <;> ((try dsimp only); omega))) dL_act_245
      · have g1 : xn pp ≤ 3 := by
          rcases Nat.lt_or_ge (xn pp) 4 with h | h
          · omega
          · exact absurd ((lge (k := xn pp) (M := 4) (by omega) (by omega)).mpr h) hz2
        have g2 : xn y ≤ 3 := by
          rcases Nat.lt_or_ge (xn y) 4 with h | h
          · omega
          · exact absurd ((lge (k := xn y) (M := 4) (by omega) (by omega)).mpr h) hz4
        have g3 : nr ≤ 19 := by
          obtain ⟨rs, q, hA0⟩ := id hB
          exact a_nr hA0 hp0 hy hne g1 g2
        refine lv_aload_n hx hb dL_act_200 rfl (lv_at hl 6 rfl) ?_
        refine lv_iload hx hb dL_act_201 (lv_at hl 3 rfl) ?_
        refine lv_iload hx hb dL_act_203 (lv_at hl 1 rfl) ?_
        refine lv_iload hx hb dL_act_205 (lv_at hl 0 rfl) ?_
        refine pcall_i hc hw (prunV (n := 3) (As := [.int (nI pp), .int (nI y), .int (1 + (nI k))]) (rest := []) hc hw (metS_road l G _ _ _ aS v n xn xr nr rw _ ak wl wy mp mm hS pp y _ hp0 hy hne hn4 g3 g1 g2) gL_act_X4_road rfl (by decide +kernel) ⟨Nat.le_of_ble_eq_true rfl, Nat.le_of_ble_eq_true rfl⟩ hO rfl rfl rfl hl.1 (Nat.le_of_ble_eq_true rfl) dL_act_207 (by first | exact ⟨Nat.le_of_ble_eq_true rfl, Nat.le_of_ble_eq_true rfl⟩ | (refine ⟨?_, ?_⟩ <;> ((try dsimp only); omega)))) (fun x6 L1 f1 H locs hp hw => ?_)
        obtain ⟨e6, hS1⟩ := hp
        subst e6
        refine lv_istore (lv' := [(6, .int (nI (xn pp))), (8, .int (1 + (nI k))), (7, .int (nI y)), (4, .int (nI pp)), (3, .int (nI n)), (0, .ref (a 0)), (1, .ref aS), (2, .int x)]) hx hb dL_act_210 hl (by decide) rfl (fun ls hl => ?_)
        refine lv_aload_n hx hb dL_act_212 rfl (lv_at hl 5 rfl) ?_
        refine lv_iload hx hb dL_act_213 (lv_at hl 3 rfl) ?_
        refine lv_iload hx hb dL_act_215 (lv_at hl 2 rfl) ?_
        refine lv_iload hx hb dL_act_217 (lv_at hl 1 rfl) ?_
        refine ccall_i hc hw (crunV (n := 3) (As := [.int (nI pp), .int (nI y), .int (1 + (nI k))]) (rest := []) hc hw (kk_addRoad hst hB hp0 hy hne g1 g2 e3) gL_act_X3_addRoad rfl (by decide +kernel) ⟨Nat.le_of_ble_eq_true rfl, Nat.le_of_ble_eq_true rfl⟩ 0 rfl rfl rfl rfl hl.1 (Nat.le_of_ble_eq_true rfl) dL_act_219 (by first | exact ⟨Nat.le_of_ble_eq_true rfl, Nat.le_of_ble_eq_true rfl⟩ | (refine ⟨?_, ?_⟩ <;> ((try dsimp only); omega)))) (fun x0 w1 H locs hp hw => ?_)
        obtain ⟨z2, r2, u2⟩ := w1
        have hw : xW G (va_A w0 sz) s.heap (cW G a z2 r2 u2 ++ va_pl L1 f1) H locs := hw
        obtain ⟨ex, hB2, hr2⟩ := hp
        subst ex
        refine lv_istore (lv' := [(5, .int (nI (xn pp))), (6, .int (nI (xn pp))), (8, .int (1 + (nI k))), (7, .int (nI y)), (4, .int (nI pp)), (3, .int (nI n)), (0, .ref (a 0)), (1, .ref aS), (2, .int x)]) hx hb dL_act_222 hl (by decide) rfl (fun ls hl => ?_)
        refine lv_goto (tgt := 233) hx hb dL_act_224 (by decide) ?_
        refine lv_iload hx hb dL_act_233 (lv_at hl 0 rfl) ?_
        refine lv_iload hx hb dL_act_235 (lv_at hl 1 rfl) ?_
        refine lv_icmp_ne (tgt := 244) hx hb dL_act_237 (by decide) (fun h => absurd rfl h) (fun hz3 => ?_)
        refine lv_iconst (v := 1) hx hb dL_act_240 (by decide) ?_
        refine lv_goto (tgt := 245) hx hb dL_act_241 (by decide) ?_
        exact xret_z (wn := lWN G a) ((z2, r2, u2), (L1, f1)) hc hw rfl ⟨rfl, _, _, _, _, _, _, _, _, _, _, _, cB_up (hB2) (by omega) (by omega), Sh_r hS1 hr2⟩ (by first | exact ⟨Nat.le_of_ble_eq_true rfl, Nat.le_of_ble_eq_true rfl⟩ | (refine ⟨?_, ?_⟩ <;> ((try dsimp only); omega))) dL_act_245
  · refine lv_iconst (v := 1) hx hb dL_act_161 (by decide) ?_
    exact xret_z (wn := lWN G a) ((z, r, u), (L, f)) hc hw rfl ⟨rfl, _, _, _, _, _, _, _, _, _, _, _, cB_up (hB) (by omega) (by omega), hS⟩ (by first | exact ⟨Nat.le_of_ble_eq_true rfl, Nat.le_of_ble_eq_true rfl⟩ | (refine ⟨?_, ?_⟩ <;> ((try dsimp only); omega))) dL_act_162
set_option maxHeartbeats 40000000 in
set_option maxRecDepth 100000 in
theorem act_3 {p : Program} {l : Launch} {e : Env} {s : State} {m : MethodId} {args : Array Value} {below : List Frame} {meth : Method} {c : Code} {H : Heap} {locs : List Loc} {ls : Array Slot} {G : xG} {w0 : va_W} {sz : Nat} (hst : l.stackTraces = false) {a : Nat → Nat} {aS : Nat} {u : cU} {L : List Nat} {f : Nat → va_E} {N : Nat} {B : Int} {z : Nat → Int32} {r : Nat → Nat → Int32} {n : Nat} {xn : Nat → Nat} {xr : Nat → Nat → Int32} {nr : Nat} {v : Nat → Int32} {rw : Nat → Nat → Int32} {ak : Nat → Int32} {wl : Nat} {wy : Nat → Nat → Int32} {mp : Nat → Nat → Bool} {mm : Nat → Nat → Nat → Int32} (hc : xC p s m args meth c cL_act 10 RL wsL_act (some .boolean) G (va_A w0 sz)) (ht : c.exceptionTable.toList = tableOf [(116, 122, 125, 30), (212, 224, 227, 30), (544, 550, 553, 30), (614, 622, 625, 30), (687, 695, 698, 30)]) (hB : cB N B z r n xn xr nr v rw ak wl wy mp mm) (hS : Sh G L f aS v n xn xr nr rw (r 1) ak wl wy mp mm) (hNB : N < 100000 ∧ 0 ≤ B ∧ B ≤ 1000000) {x : Int32} {pp : Nat} (hp0 : pp < n) (hl : lv_has ls 10 [(6, .int (-9)), (4, .int (nI pp)), (3, .int (nI n)), (0, .ref (a 0)), (1, .ref aS), (2, .int x)]) (hw : xW G (va_A w0 sz) s.heap (cW G a z r u ++ va_pl L f) H locs) : W p l e ⟨8, 3010, 13720, 172⟩ s m args below meth c H locs 0 0 (MQ below (xQi G w0 sz (fun (x0 : Int32) (w : lS) => x0 = 1 ∧ lZ (N + 1) (B + 400) G aS w) (lWN G a)) args s 3010 13720 (va_A w0 sz)) (F0 m 246 ls []) := by
  obtain ⟨hx, hb, -, hown, hts, -⟩ := id hc
  have hH := cB_H hB
  obtain ⟨hn1, hn2, hn3, hn4, hn5⟩ := cB_n hB
  obtain ⟨ad, oo, om, hO, hA⟩ := id hS
  obtain ⟨⟨hR1, hR2, hR3⟩, ⟨hE1, hE2⟩, ⟨hZ1, hZ2, hZ3⟩, ⟨hW1, hW2⟩, hM, hNe⟩ := id hA
  have hO : objS L f aS 4 [.ref (ad 0), .ref (ad 1), .ref (ad 2), .ref (ad 3), .int (v 4), .int (v 5), .int (v 6), .ref (ad 4), .ref (ad 5), .int (v 9), .int (v 10), .int (v 11), .int (v 12), .int (v 13)] := hO
  obtain ⟨hx4, ea, he1, he2⟩ := hE2 pp hp0
  refine lv_aload_n hx hb dL_act_246 rfl (lv_at hl 4 rfl) ?_
  refine pget (C := RX4) (T := TX4) (N := 14) (ci := 4) hc hw inL_act_X4 hO rfl 1 (by decide) lkL_act_f9 rfl rfl dL_act_247 ?_
  refine lv_iload hx hb dL_act_250 (lv_at hl 1 rfl) ?_
  refine pald hc hw hE1 pp rfl hp0 (by omega) (v := .ref ea) (by rw [he1]; rfl) dL_act_252 ?_
  refine plenI hc hw he2 dL_act_253 ?_
  refine lv_if_ne (tgt := 259) hx hb dL_act_254 (by decide) (fun hz => ?_) (fun hz => ?_)
  · have hx1 : 1 ≤ xn pp := by
      rcases Nat.eq_zero_or_pos (xn pp) with h | h
      · rw [h] at hz; exact absurd rfl hz
      · exact h
    refine lv_iload_n hx hb dL_act_259 rfl (lv_at hl 5 rfl) ?_
    refine lv_bipush (v := 6) hx hb dL_act_260 (by decide) ?_
    refine lv_ishr hx hb dL_act_262 ?_
    refine lv_aload_n hx hb dL_act_263 rfl (lv_at hl 4 rfl) ?_
    refine pget (C := RX4) (T := TX4) (N := 14) (ci := 4) hc hw inL_act_X4 hO rfl 1 (by decide) lkL_act_f9 rfl rfl dL_act_264 ?_
    refine lv_iload hx hb dL_act_267 (lv_at hl 1 rfl) ?_
    refine pald hc hw hE1 pp rfl hp0 (by omega) (v := .ref ea) (by rw [he1]; rfl) dL_act_269 ?_
    refine plenI hc hw he2 dL_act_270 ?_
    refine ncall_i hc hw (nrunS (n := 2) (As := [.int (x >>> ((6 : Int32) &&& 31)), .int (nI (xn pp))]) (rest := []) hc hw (metL_below l G _ (_) (xn pp) (⟨hx1, by omega⟩)) gL_act_L_below rfl (by decide +kernel) ⟨Nat.le_of_ble_eq_true rfl, Nat.le_of_ble_eq_true rfl⟩ rfl rfl hl.1 (Nat.le_of_ble_eq_true rfl) dL_act_271 (by first | exact ⟨Nat.le_of_ble_eq_true rfl, Nat.le_of_ble_eq_true rfl⟩ | (refine ⟨?_, ?_⟩ <;> ((try dsimp only); omega)))) (fun x0 H locs hp hw => ?_)
    obtain ⟨y, hy, ej⟩ := hp
    subst ej
    obtain ⟨k, hk1, hk2⟩ := (cB_sX hB).2.2.1 pp y hp0 hy
    obtain ⟨ra, hr1, hr2⟩ := hR2 k hk2
    have hkc : (xr pp y).toNatClampNeg = k := by rw [hk1, nI_clamp (by omega)]
    refine lv_istore (lv' := [(7, .int (nI y)), (6, .int (-9)), (4, .int (nI pp)), (3, .int (nI n)), (0, .ref (a 0)), (1, .ref aS), (2, .int x)]) hx hb dL_act_274 hl (by decide) rfl (fun ls hl => ?_)
    refine lv_aload_n hx hb dL_act_276 rfl (lv_at hl 5 rfl) ?_
    refine pget (C := RX4) (T := TX4) (N := 14) (ci := 4) hc hw inL_act_X4 hO rfl 0 (by decide) lkL_act_f39 rfl rfl dL_act_277 ?_
    refine lv_aload_n hx hb dL_act_280 rfl (lv_at hl 5 rfl) ?_
    refine pget (C := RX4) (T := TX4) (N := 14) (ci := 4) hc hw inL_act_X4 hO rfl 1 (by decide) lkL_act_f9 rfl rfl dL_act_281 ?_
    refine lv_iload hx hb dL_act_284 (lv_at hl 2 rfl) ?_
    refine pald hc hw hE1 pp rfl hp0 (by omega) (v := .ref ea) (by rw [he1]; rfl) dL_act_286 ?_
    refine lv_iload hx hb dL_act_287 (lv_at hl 0 rfl) ?_
    refine pild hc hw he2 y rfl hy (by omega) (v := (nI k)) hk1 dL_act_289 ?_
    refine pald hc hw hR1 k rfl hk2 (by omega) (v := .ref ra) (by rw [hr1]; rfl) dL_act_290 ?_
    refine lv_astore (lv' := [(8, .ref ra), (7, .int (nI y)), (6, .int (-9)), (4, .int (nI pp)), (3, .int (nI n)), (0, .ref (a 0)), (1, .ref aS), (2, .int x)]) hx hb dL_act_291 hl (by decide) rfl (fun ls hl => ?_)
    refine lv_aload hx hb dL_act_293 (lv_at hl 0 rfl) ?_
    refine lv_iconst (v := 3) hx hb dL_act_295 (by decide) ?_
    refine lv_iconst (v := 1) hx hb dL_act_296 (by decide) ?_
    refine lv_aload hx hb dL_act_297 (lv_at hl 0 rfl) ?_
    refine lv_iconst (v := 3) hx hb dL_act_299 (by decide) ?_
    refine pild hc hw hr2 3 rfl (by decide) (by omega) (v := (rw k 3)) rfl dL_act_300 ?_
    refine lv_isub hx hb dL_act_301 ?_
    refine pist hc hw hr2 3 rfl (by decide) (by omega) dL_act_302 (fun f H locs kp hrow hw => ?_)
    have hS1 : Sh G L f aS v n xn xr nr (va_up rw k (upd (rw k) 3 (1 - rw k 3))) (r 1) ak wl wy mp mm := ⟨ad, oo, om, hO.kp kp (hO.neI hr2), hA.setRoad hk2 hr1 kp hrow⟩
    refine lv_aload_n hx hb dL_act_303 rfl (lv_at hl 5 rfl) ?_
    refine lv_iload hx hb dL_act_304 (lv_at hl 3 rfl) ?_
    refine lv_iload hx hb dL_act_306 (lv_at hl 1 rfl) ?_
    refine ccall_i hc hw (crunV (n := 2) (As := [.int (nI pp), .int (nI y)]) (rest := []) hc hw (kk_turnRoad hst hB hp0 hy) gL_act_X3_turnRoad rfl (by decide +kernel) ⟨Nat.le_of_ble_eq_true rfl, Nat.le_of_ble_eq_true rfl⟩ 0 rfl rfl rfl rfl hl.1 (Nat.le_of_ble_eq_true rfl) dL_act_308 (by first | exact ⟨Nat.le_of_ble_eq_true rfl, Nat.le_of_ble_eq_true rfl⟩ | (refine ⟨?_, ?_⟩ <;> ((try dsimp only); omega)))) (fun x0 w1 H locs hp hw => ?_)
    obtain ⟨z2, r2, u2⟩ := w1
    have hw : xW G (va_A w0 sz) s.heap (cW G a z2 r2 u2 ++ va_pl L f) H locs := hw
    obtain ⟨ex, h01, hB2, hr3⟩ := hp
    rw [hkc] at ex h01 hB2
    rcases h01 with h01 | h01
    · have ex : x0 = 1 := by rw [ex, h01]; rfl
      subst ex
      refine lv_aload hx hb dL_act_311 (lv_at hl 0 rfl) ?_
      refine lv_iconst (v := 3) hx hb dL_act_313 (by decide) ?_
      refine pild hc hw hrow 3 rfl (by decide) (by omega) (v := 1) (by rw [pk_us, h01]; rfl) dL_act_314 ?_
      refine lv_iconst (v := 1) hx hb dL_act_315 (by decide) ?_
      refine lv_icmp_ne (tgt := 323) hx hb dL_act_316 (by decide) (fun h => absurd rfl h) (fun hz4 => ?_)
      refine lv_iconst (v := 1) hx hb dL_act_319 (by decide) ?_
      refine lv_goto (tgt := 324) hx hb dL_act_320 (by decide) ?_
      refine lv_icmp_ne (tgt := 331) hx hb dL_act_324 (by decide) (fun h => absurd rfl h) (fun hz3 => ?_)
      refine lv_iconst (v := 1) hx hb dL_act_327 (by decide) ?_
      refine lv_goto (tgt := 332) hx hb dL_act_328 (by decide) ?_
      exact xret_z (wn := lWN G a) ((z2, r2, u2), (L, f)) hc hw rfl ⟨rfl, _, _, _, _, _, _, _, _, _, _, _, cB_up (hB2) (by omega) (by omega), Sh_r hS1 hr3⟩ (by first | exact ⟨Nat.le_of_ble_eq_true rfl, Nat.le_of_ble_eq_true rfl⟩ | (refine ⟨?_, ?_⟩ <;> ((try dsimp only); omega))) dL_act_332
    · have ex : x0 = 0 := by rw [ex, h01]; rfl
      subst ex
      refine lv_aload hx hb dL_act_311 (lv_at hl 0 rfl) ?_
      refine lv_iconst (v := 3) hx hb dL_act_313 (by decide) ?_
      refine pild hc hw hrow 3 rfl (by decide) (by omega) (v := 0) (by rw [pk_us, h01]; rfl) dL_act_314 ?_
      refine lv_iconst (v := 1) hx hb dL_act_315 (by decide) ?_
      refine lv_icmp_ne (tgt := 323) hx hb dL_act_316 (by decide) (fun hz4 => ?_) (fun h => absurd h (by decide))
      refine lv_iconst (v := 0) hx hb dL_act_323 (by decide) ?_
      refine lv_icmp_ne (tgt := 331) hx hb dL_act_324 (by decide) (fun h => absurd rfl h) (fun hz3 => ?_)
      refine lv_iconst (v := 1) hx hb dL_act_327 (by decide) ?_
      refine lv_goto (tgt := 332) hx hb dL_act_328 (by decide) ?_
      exact xret_z (wn := lWN G a) ((z2, r2, u2), (L, f)) hc hw rfl ⟨rfl, _, _, _, _, _, _, _, _, _, _, _, cB_up (hB2) (by omega) (by omega), Sh_r hS1 hr3⟩ (by first | exact ⟨Nat.le_of_ble_eq_true rfl, Nat.le_of_ble_eq_true rfl⟩ | (refine ⟨?_, ?_⟩ <;> ((try dsimp only); omega))) dL_act_332
  · refine lv_iconst (v := 1) hx hb dL_act_257 (by decide) ?_
    exact xret_z (wn := lWN G a) ((z, r, u), (L, f)) hc hw rfl ⟨rfl, _, _, _, _, _, _, _, _, _, _, _, cB_up (hB) (by omega) (by omega), hS⟩ (by first | exact ⟨Nat.le_of_ble_eq_true rfl, Nat.le_of_ble_eq_true rfl⟩ | (refine ⟨?_, ?_⟩ <;> ((try dsimp only); omega))) dL_act_258
set_option maxHeartbeats 40000000 in
set_option maxRecDepth 100000 in
theorem act_5 {p : Program} {l : Launch} {e : Env} {s : State} {m : MethodId} {args : Array Value} {below : List Frame} {meth : Method} {c : Code} {H : Heap} {locs : List Loc} {ls : Array Slot} {G : xG} {w0 : va_W} {sz : Nat} (hst : l.stackTraces = false) {a : Nat → Nat} {aS : Nat} {u : cU} {L : List Nat} {f : Nat → va_E} {N : Nat} {B : Int} {z : Nat → Int32} {r : Nat → Nat → Int32} {n : Nat} {xn : Nat → Nat} {xr : Nat → Nat → Int32} {nr : Nat} {v : Nat → Int32} {rw : Nat → Nat → Int32} {ak : Nat → Int32} {wl : Nat} {wy : Nat → Nat → Int32} {mp : Nat → Nat → Bool} {mm : Nat → Nat → Nat → Int32} (hc : xC p s m args meth c cL_act 10 RL wsL_act (some .boolean) G (va_A w0 sz)) (ht : c.exceptionTable.toList = tableOf [(116, 122, 125, 30), (212, 224, 227, 30), (544, 550, 553, 30), (614, 622, 625, 30), (687, 695, 698, 30)]) (hB : cB N B z r n xn xr nr v rw ak wl wy mp mm) (hS : Sh G L f aS v n xn xr nr rw (r 1) ak wl wy mp mm) (hNB : N < 100000 ∧ 0 ≤ B ∧ B ≤ 1000000) {x : Int32} {pp : Nat} (hp0 : pp < n) (hl : lv_has ls 10 [(6, .int (-9)), (4, .int (nI pp)), (3, .int (nI n)), (0, .ref (a 0)), (1, .ref aS), (2, .int x)]) (hw : xW G (va_A w0 sz) s.heap (cW G a z r u ++ va_pl L f) H locs) : W p l e ⟨8, 3010, 13720, 172⟩ s m args below meth c H locs 0 0 (MQ below (xQi G w0 sz (fun (x0 : Int32) (w : lS) => x0 = 1 ∧ lZ (N + 1) (B + 400) G aS w) (lWN G a)) args s 3010 13720 (va_A w0 sz)) (F0 m 333 ls []) := by
  obtain ⟨hx, hb, -, hown, hts, -⟩ := id hc
  have hH := cB_H hB
  obtain ⟨hn1, hn2, hn3, hn4, hn5⟩ := cB_n hB
  obtain ⟨ad, oo, om, hO, hA⟩ := id hS
  obtain ⟨⟨hR1, hR2, hR3⟩, ⟨hE1, hE2⟩, ⟨hZ1, hZ2, hZ3⟩, ⟨hW1, hW2⟩, hM, hNe⟩ := id hA
  have hO : objS L f aS 4 [.ref (ad 0), .ref (ad 1), .ref (ad 2), .ref (ad 3), .int (v 4), .int (v 5), .int (v 6), .ref (ad 4), .ref (ad 5), .int (v 9), .int (v 10), .int (v 11), .int (v 12), .int (v 13)] := hO
  refine lv_aload_n hx hb dL_act_333 rfl (lv_at hl 4 rfl) ?_
  refine pget (C := RX4) (T := TX4) (N := 14) (ci := 4) hc hw inL_act_X4 hO rfl 2 (by decide) lkL_act_f46 rfl rfl dL_act_334 ?_
  refine lv_iload hx hb dL_act_337 (lv_at hl 1 rfl) ?_
  refine lv_aload_n hx hb dL_act_339 rfl (lv_at hl 4 rfl) ?_
  refine pget (C := RX4) (T := TX4) (N := 14) (ci := 4) hc hw inL_act_X4 hO rfl 2 (by decide) lkL_act_f46 rfl rfl dL_act_340 ?_
  refine lv_iload hx hb dL_act_343 (lv_at hl 1 rfl) ?_
  refine pzld hc hw hZ1 pp rfl (by omega) (by omega) (v := (r 1 pp)) rfl dL_act_345 ?_
  refine lv_if_ne (tgt := 353) hx hb dL_act_346 (by decide) (fun hz => ?_) (fun hz => ?_)
  · refine lv_iconst (v := 0) hx hb dL_act_353 (by decide) ?_
    refine pzst hc hw hZ1 pp rfl (by omega) (by omega) rfl dL_act_354 (fun f H locs kp hrow hw => ?_)
    have hS1 : Sh G L f aS v n xn xr nr rw (upd (r 1) pp 0) ak wl wy mp mm := ⟨ad, oo, om, hO.kp kp (hO.neZ hZ1), hA.setSh kp hrow⟩
    have hO := hO.kp kp (hO.neZ hZ1)
    refine lv_aload_n hx hb dL_act_355 rfl (lv_at hl 3 rfl) ?_
    refine lv_iload hx hb dL_act_356 (lv_at hl 1 rfl) ?_
    refine ccall_i hc hw (crunV (n := 1) (As := [.int (nI pp)]) (rest := []) hc hw (kk_turnShep hst hB hp0) gL_act_X3_turnShepherd rfl (by decide +kernel) ⟨Nat.le_of_ble_eq_true rfl, Nat.le_of_ble_eq_true rfl⟩ 0 rfl rfl rfl rfl hl.1 (Nat.le_of_ble_eq_true rfl) dL_act_358 (by first | exact ⟨Nat.le_of_ble_eq_true rfl, Nat.le_of_ble_eq_true rfl⟩ | (refine ⟨?_, ?_⟩ <;> ((try dsimp only); omega)))) (fun x0 w1 H locs hp hw => ?_)
    obtain ⟨z2, r2, u2⟩ := w1
    have hw : xW G (va_A w0 sz) s.heap (cW G a z2 r2 u2 ++ va_pl L f) H locs := hw
    obtain ⟨ex, hB2, hr2⟩ := hp
    rw [if_neg hz] at ex hr2
    subst ex
    refine lv_aload_n hx hb dL_act_361 rfl (lv_at hl 4 rfl) ?_
    refine pget (C := RX4) (T := TX4) (N := 14) (ci := 4) hc hw inL_act_X4 hO rfl 2 (by decide) lkL_act_f46 rfl rfl dL_act_362 ?_
    refine lv_iload hx hb dL_act_365 (lv_at hl 1 rfl) ?_
    refine pzld hc hw hrow pp rfl (by omega) (by omega) (v := 0) (pk_us) dL_act_367 ?_
    refine lv_icmp_ne (tgt := 375) hx hb dL_act_368 (by decide) (fun h => absurd rfl h) (fun hz3 => ?_)
    refine lv_iconst (v := 1) hx hb dL_act_371 (by decide) ?_
    refine lv_goto (tgt := 376) hx hb dL_act_372 (by decide) ?_
    exact xret_z (wn := lWN G a) ((z2, r2, u2), (L, f)) hc hw rfl ⟨rfl, _, _, _, _, _, _, _, _, _, _, _, cB_up (hB2) (by omega) (by omega), Sh_r hS1 hr2⟩ (by first | exact ⟨Nat.le_of_ble_eq_true rfl, Nat.le_of_ble_eq_true rfl⟩ | (refine ⟨?_, ?_⟩ <;> ((try dsimp only); omega))) dL_act_376
  · refine lv_iconst (v := 1) hx hb dL_act_349 (by decide) ?_
    refine lv_goto (tgt := 354) hx hb dL_act_350 (by decide) ?_
    refine pzst hc hw hZ1 pp rfl (by omega) (by omega) rfl dL_act_354 (fun f H locs kp hrow hw => ?_)
    have hS1 : Sh G L f aS v n xn xr nr rw (upd (r 1) pp 1) ak wl wy mp mm := ⟨ad, oo, om, hO.kp kp (hO.neZ hZ1), hA.setSh kp hrow⟩
    have hO := hO.kp kp (hO.neZ hZ1)
    refine lv_aload_n hx hb dL_act_355 rfl (lv_at hl 3 rfl) ?_
    refine lv_iload hx hb dL_act_356 (lv_at hl 1 rfl) ?_
    refine ccall_i hc hw (crunV (n := 1) (As := [.int (nI pp)]) (rest := []) hc hw (kk_turnShep hst hB hp0) gL_act_X3_turnShepherd rfl (by decide +kernel) ⟨Nat.le_of_ble_eq_true rfl, Nat.le_of_ble_eq_true rfl⟩ 0 rfl rfl rfl rfl hl.1 (Nat.le_of_ble_eq_true rfl) dL_act_358 (by first | exact ⟨Nat.le_of_ble_eq_true rfl, Nat.le_of_ble_eq_true rfl⟩ | (refine ⟨?_, ?_⟩ <;> ((try dsimp only); omega)))) (fun x0 w1 H locs hp hw => ?_)
    obtain ⟨z2, r2, u2⟩ := w1
    have hw : xW G (va_A w0 sz) s.heap (cW G a z2 r2 u2 ++ va_pl L f) H locs := hw
    obtain ⟨ex, hB2, hr2⟩ := hp
    rw [if_pos hz] at ex hr2
    subst ex
    refine lv_aload_n hx hb dL_act_361 rfl (lv_at hl 4 rfl) ?_
    refine pget (C := RX4) (T := TX4) (N := 14) (ci := 4) hc hw inL_act_X4 hO rfl 2 (by decide) lkL_act_f46 rfl rfl dL_act_362 ?_
    refine lv_iload hx hb dL_act_365 (lv_at hl 1 rfl) ?_
    refine pzld hc hw hrow pp rfl (by omega) (by omega) (v := 1) (pk_us) dL_act_367 ?_
    refine lv_icmp_ne (tgt := 375) hx hb dL_act_368 (by decide) (fun h => absurd rfl h) (fun hz3 => ?_)
    refine lv_iconst (v := 1) hx hb dL_act_371 (by decide) ?_
    refine lv_goto (tgt := 376) hx hb dL_act_372 (by decide) ?_
    exact xret_z (wn := lWN G a) ((z2, r2, u2), (L, f)) hc hw rfl ⟨rfl, _, _, _, _, _, _, _, _, _, _, _, cB_up (hB2) (by omega) (by omega), Sh_r hS1 hr2⟩ (by first | exact ⟨Nat.le_of_ble_eq_true rfl, Nat.le_of_ble_eq_true rfl⟩ | (refine ⟨?_, ?_⟩ <;> ((try dsimp only); omega))) dL_act_376
set_option maxHeartbeats 40000000 in
set_option maxRecDepth 100000 in
theorem act_6 {p : Program} {l : Launch} {e : Env} {s : State} {m : MethodId} {args : Array Value} {below : List Frame} {meth : Method} {c : Code} {H : Heap} {locs : List Loc} {ls : Array Slot} {G : xG} {w0 : va_W} {sz : Nat} (hst : l.stackTraces = false) {a : Nat → Nat} {aS : Nat} {u : cU} {L : List Nat} {f : Nat → va_E} {N : Nat} {B : Int} {z : Nat → Int32} {r : Nat → Nat → Int32} {n : Nat} {xn : Nat → Nat} {xr : Nat → Nat → Int32} {nr : Nat} {v : Nat → Int32} {rw : Nat → Nat → Int32} {ak : Nat → Int32} {wl : Nat} {wy : Nat → Nat → Int32} {mp : Nat → Nat → Bool} {mm : Nat → Nat → Nat → Int32} (hc : xC p s m args meth c cL_act 10 RL wsL_act (some .boolean) G (va_A w0 sz)) (ht : c.exceptionTable.toList = tableOf [(116, 122, 125, 30), (212, 224, 227, 30), (544, 550, 553, 30), (614, 622, 625, 30), (687, 695, 698, 30)]) (hB : cB N B z r n xn xr nr v rw ak wl wy mp mm) (hS : Sh G L f aS v n xn xr nr rw (r 1) ak wl wy mp mm) (hNB : N < 100000 ∧ 0 ≤ B ∧ B ≤ 1000000) {x : Int32} {pp : Nat} (hp0 : pp < n) (hl : lv_has ls 10 [(6, .int (-9)), (4, .int (nI pp)), (3, .int (nI n)), (0, .ref (a 0)), (1, .ref aS), (2, .int x)]) (hw : xW G (va_A w0 sz) s.heap (cW G a z r u ++ va_pl L f) H locs) : W p l e ⟨8, 3010, 13720, 172⟩ s m args below meth c H locs 0 0 (MQ below (xQi G w0 sz (fun (x0 : Int32) (w : lS) => x0 = 1 ∧ lZ (N + 1) (B + 400) G aS w) (lWN G a)) args s 3010 13720 (va_A w0 sz)) (F0 m 377 ls []) := by
  obtain ⟨hx, hb, -, hown, hts, -⟩ := id hc
  have hH := cB_H hB
  obtain ⟨hn1, hn2, hn3, hn4, hn5⟩ := cB_n hB
  obtain ⟨ad, oo, om, hO, hA⟩ := id hS
  obtain ⟨⟨hR1, hR2, hR3⟩, ⟨hE1, hE2⟩, ⟨hZ1, hZ2, hZ3⟩, ⟨hW1, hW2⟩, hM, hNe⟩ := id hA
  have hO : objS L f aS 4 [.ref (ad 0), .ref (ad 1), .ref (ad 2), .ref (ad 3), .int (v 4), .int (v 5), .int (v 6), .ref (ad 4), .ref (ad 5), .int (v 9), .int (v 10), .int (v 11), .int (v 12), .int (v 13)] := hO
  refine lv_iconst (v := 1) hx hb dL_act_377 (by decide) ?_
  refine lv_iload_n hx hb dL_act_378 rfl (lv_at hl 5 rfl) ?_
  refine lv_bipush (v := 6) hx hb dL_act_379 (by decide) ?_
  refine lv_ishr hx hb dL_act_381 ?_
  refine lv_iload_n hx hb dL_act_382 rfl (lv_at hl 5 rfl) ?_
  refine lv_bipush (v := 8) hx hb dL_act_383 (by decide) ?_
  refine lv_ishr hx hb dL_act_385 ?_
  refine lv_iconst (v := 3) hx hb dL_act_386 (by decide) ?_
  refine ncall_i hc hw (nrunS (n := 2) (As := [.int (x >>> ((8 : Int32) &&& 31)), .int 3]) (rest := [.int (x >>> ((6 : Int32) &&& 31)), .int 1]) hc hw (metL_below l G _ (_) 3 (by decide)) gL_act_L_below rfl (by decide +kernel) ⟨Nat.le_of_ble_eq_true rfl, Nat.le_of_ble_eq_true rfl⟩ rfl rfl hl.1 (Nat.le_of_ble_eq_true rfl) dL_act_387 (by first | exact ⟨Nat.le_of_ble_eq_true rfl, Nat.le_of_ble_eq_true rfl⟩ | (refine ⟨?_, ?_⟩ <;> ((try dsimp only); omega)))) (fun x0 H locs hp hw => ?_)
  obtain ⟨c3, hc3, ej⟩ := hp
  subst ej
  refine lv_if_ne (tgt := 398) hx hb dL_act_390 (by decide) (fun hz => ?_) (fun hz => ?_)
  · refine lv_iconst (v := 3) hx hb dL_act_398 (by decide) ?_
    refine ncall_i hc hw (nrunS (n := 2) (As := [.int (x >>> ((6 : Int32) &&& 31)), .int 3]) (rest := [.int 1]) hc hw (metL_below l G _ (_) 3 (by decide)) gL_act_L_below rfl (by decide +kernel) ⟨Nat.le_of_ble_eq_true rfl, Nat.le_of_ble_eq_true rfl⟩ rfl rfl hl.1 (Nat.le_of_ble_eq_true rfl) dL_act_399 (by first | exact ⟨Nat.le_of_ble_eq_true rfl, Nat.le_of_ble_eq_true rfl⟩ | (refine ⟨?_, ?_⟩ <;> ((try dsimp only); omega)))) (fun x0 H locs hp hw => ?_)
    obtain ⟨k, hk, ej⟩ := hp
    subst ej
    obtain ⟨e1, e2, e3⟩ := l1k hk (by decide)
    refine lv_iadd hx hb dL_act_402 ?_
    refine lv_istore (lv' := [(7, .int (1 + (nI k))), (6, .int (-9)), (4, .int (nI pp)), (3, .int (nI n)), (0, .ref (a 0)), (1, .ref aS), (2, .int x)]) hx hb dL_act_403 hl (by decide) rfl (fun ls hl => ?_)
    refine lv_aload_n hx hb dL_act_405 rfl (lv_at hl 5 rfl) ?_
    refine lv_bipush (v := 99) hx hb dL_act_406 (by decide) ?_
    refine lv_aload_n hx hb dL_act_408 rfl (lv_at hl 5 rfl) ?_
    refine pget (C := RX4) (T := TX4) (N := 14) (ci := 4) hc hw inL_act_X4 hO rfl 5 (by decide) lkL_act_f54 rfl rfl dL_act_409 ?_
    refine lv_iload hx hb dL_act_412 (lv_at hl 0 rfl) ?_
    refine lv_iadd hx hb dL_act_414 ?_
    refine pmin hc lkL_act_m58 lkL_act_mst lkL_act_min lkL_act_mco hl.1 (Nat.le_of_ble_eq_true rfl) (Nat.le_of_ble_eq_true rfl) ⟨Nat.le_of_ble_eq_true rfl, Nat.le_of_ble_eq_true rfl⟩ dL_act_415 ?_
    refine pput (C := RX4) (T := TX4) (N := 14) (ci := 4) (ty := .int) hc hw inL_act_X4 tyX4 tyX4_ok nmX4 hO rfl 5 (by decide) lkL_act_f54 rfl rfl rfl rfl (Nat.le_of_ble_eq_true rfl) [.ref (ad 0), .ref (ad 1), .ref (ad 2), .ref (ad 3), .int (v 4), .int (sMin 99 ((v 5) + (1 + (nI k)))), .int (v 6), .ref (ad 4), .ref (ad 5), .int (v 9), .int (v 10), .int (v 11), .int (v 12), .int (v 13)] rfl dL_act_418 (fun f H locs kp hO2 hw => ?_)
    have hS1 : Sh G L f aS (upd v 5 (sMin 99 ((v 5) + (1 + (nI k))))) n xn xr nr rw (r 1) ak wl wy mp mm := ⟨ad, oo, om, hO2, hA.obj hO kp⟩
    refine lv_aload_n hx hb dL_act_421 rfl (lv_at hl 4 rfl) ?_
    refine lv_iload hx hb dL_act_422 (lv_at hl 0 rfl) ?_
    refine ccall_i hc hw (crunV (n := 1) (As := [.int (1 + (nI k))]) (rest := []) hc hw (kk_pay hst hB (x := 1 + nI k) ⟨e3.1, Int.le_trans e3.2 (by decide)⟩) gL_act_X3_pay rfl (by decide +kernel) ⟨Nat.le_of_ble_eq_true rfl, Nat.le_of_ble_eq_true rfl⟩ 0 rfl rfl rfl rfl hl.1 (Nat.le_of_ble_eq_true rfl) dL_act_424 (by first | exact ⟨Nat.le_of_ble_eq_true rfl, Nat.le_of_ble_eq_true rfl⟩ | (refine ⟨?_, ?_⟩ <;> ((try dsimp only); omega)))) (fun x0 w1 H locs hp hw => ?_)
    obtain ⟨z2, r2, u2⟩ := w1
    have hw : xW G (va_A w0 sz) s.heap (cW G a z2 r2 u2 ++ va_pl L f) H locs := hw
    obtain ⟨ex, hB2, hr2⟩ := hp
    subst ex
    refine lv_aload_n hx hb dL_act_427 rfl (lv_at hl 5 rfl) ?_
    refine pget (C := RX4) (T := TX4) (N := 14) (ci := 4) hc hw inL_act_X4 hO2 rfl 5 (by decide) lkL_act_f54 rfl rfl dL_act_428 ?_
    refine lv_icmp_ne (tgt := 438) hx hb dL_act_431 (by decide) (fun h => absurd rfl h) (fun hz3 => ?_)
    refine lv_iconst (v := 1) hx hb dL_act_434 (by decide) ?_
    refine lv_goto (tgt := 439) hx hb dL_act_435 (by decide) ?_
    exact xret_z (wn := lWN G a) ((z2, r2, u2), (L, f)) hc hw rfl ⟨rfl, _, _, _, _, _, _, _, _, _, _, _, cB_up (hB2) (by omega) (by omega), Sh_r hS1 hr2⟩ (by first | exact ⟨Nat.le_of_ble_eq_true rfl, Nat.le_of_ble_eq_true rfl⟩ | (refine ⟨?_, ?_⟩ <;> ((try dsimp only); omega))) dL_act_439
  · refine lv_bipush (v := 99) hx hb dL_act_393 (by decide) ?_
    refine lv_goto (tgt := 399) hx hb dL_act_395 (by decide) ?_
    refine ncall_i hc hw (nrunS (n := 2) (As := [.int (x >>> ((6 : Int32) &&& 31)), .int 99]) (rest := [.int 1]) hc hw (metL_below l G _ (_) 99 (by decide)) gL_act_L_below rfl (by decide +kernel) ⟨Nat.le_of_ble_eq_true rfl, Nat.le_of_ble_eq_true rfl⟩ rfl rfl hl.1 (Nat.le_of_ble_eq_true rfl) dL_act_399 (by first | exact ⟨Nat.le_of_ble_eq_true rfl, Nat.le_of_ble_eq_true rfl⟩ | (refine ⟨?_, ?_⟩ <;> ((try dsimp only); omega)))) (fun x0 H locs hp hw => ?_)
    obtain ⟨k, hk, ej⟩ := hp
    subst ej
    obtain ⟨e1, e2, e3⟩ := l1k hk (by decide)
    refine lv_iadd hx hb dL_act_402 ?_
    refine lv_istore (lv' := [(7, .int (1 + (nI k))), (6, .int (-9)), (4, .int (nI pp)), (3, .int (nI n)), (0, .ref (a 0)), (1, .ref aS), (2, .int x)]) hx hb dL_act_403 hl (by decide) rfl (fun ls hl => ?_)
    refine lv_aload_n hx hb dL_act_405 rfl (lv_at hl 5 rfl) ?_
    refine lv_bipush (v := 99) hx hb dL_act_406 (by decide) ?_
    refine lv_aload_n hx hb dL_act_408 rfl (lv_at hl 5 rfl) ?_
    refine pget (C := RX4) (T := TX4) (N := 14) (ci := 4) hc hw inL_act_X4 hO rfl 5 (by decide) lkL_act_f54 rfl rfl dL_act_409 ?_
    refine lv_iload hx hb dL_act_412 (lv_at hl 0 rfl) ?_
    refine lv_iadd hx hb dL_act_414 ?_
    refine pmin hc lkL_act_m58 lkL_act_mst lkL_act_min lkL_act_mco hl.1 (Nat.le_of_ble_eq_true rfl) (Nat.le_of_ble_eq_true rfl) ⟨Nat.le_of_ble_eq_true rfl, Nat.le_of_ble_eq_true rfl⟩ dL_act_415 ?_
    refine pput (C := RX4) (T := TX4) (N := 14) (ci := 4) (ty := .int) hc hw inL_act_X4 tyX4 tyX4_ok nmX4 hO rfl 5 (by decide) lkL_act_f54 rfl rfl rfl rfl (Nat.le_of_ble_eq_true rfl) [.ref (ad 0), .ref (ad 1), .ref (ad 2), .ref (ad 3), .int (v 4), .int (sMin 99 ((v 5) + (1 + (nI k)))), .int (v 6), .ref (ad 4), .ref (ad 5), .int (v 9), .int (v 10), .int (v 11), .int (v 12), .int (v 13)] rfl dL_act_418 (fun f H locs kp hO2 hw => ?_)
    have hS1 : Sh G L f aS (upd v 5 (sMin 99 ((v 5) + (1 + (nI k))))) n xn xr nr rw (r 1) ak wl wy mp mm := ⟨ad, oo, om, hO2, hA.obj hO kp⟩
    refine lv_aload_n hx hb dL_act_421 rfl (lv_at hl 4 rfl) ?_
    refine lv_iload hx hb dL_act_422 (lv_at hl 0 rfl) ?_
    refine ccall_i hc hw (crunV (n := 1) (As := [.int (1 + (nI k))]) (rest := []) hc hw (kk_pay hst hB (x := 1 + nI k) ⟨e3.1, Int.le_trans e3.2 (by decide)⟩) gL_act_X3_pay rfl (by decide +kernel) ⟨Nat.le_of_ble_eq_true rfl, Nat.le_of_ble_eq_true rfl⟩ 0 rfl rfl rfl rfl hl.1 (Nat.le_of_ble_eq_true rfl) dL_act_424 (by first | exact ⟨Nat.le_of_ble_eq_true rfl, Nat.le_of_ble_eq_true rfl⟩ | (refine ⟨?_, ?_⟩ <;> ((try dsimp only); omega)))) (fun x0 w1 H locs hp hw => ?_)
    obtain ⟨z2, r2, u2⟩ := w1
    have hw : xW G (va_A w0 sz) s.heap (cW G a z2 r2 u2 ++ va_pl L f) H locs := hw
    obtain ⟨ex, hB2, hr2⟩ := hp
    subst ex
    refine lv_aload_n hx hb dL_act_427 rfl (lv_at hl 5 rfl) ?_
    refine pget (C := RX4) (T := TX4) (N := 14) (ci := 4) hc hw inL_act_X4 hO2 rfl 5 (by decide) lkL_act_f54 rfl rfl dL_act_428 ?_
    refine lv_icmp_ne (tgt := 438) hx hb dL_act_431 (by decide) (fun h => absurd rfl h) (fun hz3 => ?_)
    refine lv_iconst (v := 1) hx hb dL_act_434 (by decide) ?_
    refine lv_goto (tgt := 439) hx hb dL_act_435 (by decide) ?_
    exact xret_z (wn := lWN G a) ((z2, r2, u2), (L, f)) hc hw rfl ⟨rfl, _, _, _, _, _, _, _, _, _, _, _, cB_up (hB2) (by omega) (by omega), Sh_r hS1 hr2⟩ (by first | exact ⟨Nat.le_of_ble_eq_true rfl, Nat.le_of_ble_eq_true rfl⟩ | (refine ⟨?_, ?_⟩ <;> ((try dsimp only); omega))) dL_act_439
set_option maxHeartbeats 40000000 in
set_option maxRecDepth 100000 in
theorem act_7lp {p : Program} {l : Launch} {e : Env} {s : State} {m : MethodId} {args : Array Value} {below : List Frame} {meth : Method} {c : Code} {Q : State → Prop} {G : xG} {A : Nat → Prop} {a : Nat → Nat} {aS : Nat} {u : cU} {z : Nat → Int32} {r : Nat → Nat → Int32} {n : Nat} {xn : Nat → Nat} {xr : Nat → Nat → Int32} {nr : Nat} {v : Nat → Int32} {rw : Nat → Nat → Int32} {sh ak : Nat → Int32} {wl : Nat} {wy : Nat → Nat → Int32} {mp : Nat → Nat → Bool} {mm : Nat → Nat → Nat → Int32} (hc : xC p s m args meth c cL_act 10 RL wsL_act (some .boolean) G A) {K : Nat} (hK : 1 ≤ K ∧ K ≤ 9)
    (kx : ∀ (L : List Nat) (f : Nat → va_E) (H : Heap) (locs : List Loc) (ls : Array Slot), Sh G L f aS v n xn xr nr rw sh ak wl wy (dNs mp mm K).1 (dNs mp mm K).2.1 → lv_has ls 10 [(8, .int (nI K)), (6, .int (nI (dNs mp mm K).2.2)), (7, .int (nI K)), (0, .ref (a 0)), (1, .ref aS)] → xW G A s.heap (cW G a z r u ++ va_pl L f) H locs → W p l e ⟨8, 3010, 13720, 172⟩ s m args below meth c H locs 900 1800 Q (F0 m 496 ls [])) :
    ∀ (d i : Nat), i + d = K → ∀ (L : List Nat) (f : Nat → va_E) (H : Heap) (locs : List Loc) (ls : Array Slot), Sh G L f aS v n xn xr nr rw sh ak wl wy (dNs mp mm i).1 (dNs mp mm i).2.1 → lv_has ls 10 [(8, .int (nI i)), (6, .int (nI (dNs mp mm i).2.2)), (7, .int (nI K)), (0, .ref (a 0)), (1, .ref aS)] → xW G A s.heap (cW G a z r u ++ va_pl L f) H locs → W p l e ⟨8, 3010, 13720, 172⟩ s m args below meth c H locs (100 * i) (200 * i) Q (F0 m 474 ls []) := by
  obtain ⟨hx, hb, -, hown, hts, -⟩ := id hc
  intro d
  induction d with
  | zero =>
    intro i hd L f H locs ls hS hl hw
    have ei : i = K := by omega
    subst ei
    refine lv_iload hx hb dL_act_474 (lv_at hl 0 rfl) ?_
    refine lv_iload hx hb dL_act_476 (lv_at hl 2 rfl) ?_
    refine lv_icmp_ge (tgt := 496) hx hb dL_act_478 (by decide) (fun hz => ?_) (fun h => absurd (nI_le (by omega) (by omega)) h)
    exact W.widen (k := 900) (n := 1800) (by omega) (by omega) (kx L f H locs ls hS hl hw)
  | succ d ih =>
    intro i hd L f H locs ls hS hl hw
    obtain ⟨ad, oo, om, hO, hA⟩ := id hS
    have hO : objS L f aS 4 [.ref (ad 0), .ref (ad 1), .ref (ad 2), .ref (ad 3), .int (v 4), .int (v 5), .int (v 6), .ref (ad 4), .ref (ad 5), .int (v 9), .int (v 10), .int (v 11), .int (v 12), .int (v 13)] := hO
    refine lv_iload hx hb dL_act_474 (lv_at hl 0 rfl) ?_
    refine lv_iload hx hb dL_act_476 (lv_at hl 2 rfl) ?_
    refine lv_icmp_ge (tgt := 496) hx hb dL_act_478 (by decide) (fun h => absurd h (nI_ge (by omega) (by omega))) (fun hz => ?_)
    refine lv_iload hx hb dL_act_481 (lv_at hl 1 rfl) ?_
    refine lv_aload_n hx hb dL_act_483 rfl (lv_at hl 4 rfl) ?_
    refine pcall_i hc hw (prunV (n := 0) (As := []) (rest := [.int (nI (dNs mp mm i).2.2)]) hc hw (metS_night l G _ _ _ aS v n xn xr nr rw _ ak wl wy _ _ hS) gL_act_X4_night rfl (by decide +kernel) ⟨Nat.le_of_ble_eq_true rfl, Nat.le_of_ble_eq_true rfl⟩ hO rfl rfl rfl hl.1 (Nat.le_of_ble_eq_true rfl) dL_act_484 (by first | exact ⟨Nat.le_of_ble_eq_true rfl, Nat.le_of_ble_eq_true rfl⟩ | (refine ⟨?_, ?_⟩ <;> ((try dsimp only); omega)))) (fun x6 L1 f1 H locs hp hw => ?_)
    obtain ⟨e6, hS1⟩ := hp
    subst e6
    refine lv_iadd hx hb dL_act_487 ?_
    rw [nI_add]
    refine lv_istore (lv' := [(6, .int (nI (dNs mp mm (i + 1)).2.2)), (8, .int (nI i)), (7, .int (nI K)), (0, .ref (a 0)), (1, .ref aS)]) hx hb dL_act_488 hl (by decide) rfl (fun ls hl => ?_)
    refine lv_iinc (v := nI (i + 1)) (lv' := [(8, .int (nI (i + 1))), (6, .int (nI (dNs mp mm (i + 1)).2.2)), (7, .int (nI K)), (0, .ref (a 0)), (1, .ref aS)]) hx hb dL_act_490 hl (k := 1) rfl (nI_1 _) (by decide) rfl (fun ls hl => ?_)
    refine lv_goto (tgt := 474) hx hb dL_act_493 (by decide) ?_
    refine W.widen (k := 100 * (i + 1)) (n := 200 * (i + 1)) (by (try dsimp only); omega) (by (try dsimp only); omega) ?_
    exact ih (i + 1) (by omega) L1 f1 H locs ls hS1 (lv_sub hl [0, 1, 2, 3, 4] rfl) hw
set_option maxHeartbeats 40000000 in
set_option maxRecDepth 100000 in
theorem act_7 {p : Program} {l : Launch} {e : Env} {s : State} {m : MethodId} {args : Array Value} {below : List Frame} {meth : Method} {c : Code} {H : Heap} {locs : List Loc} {ls : Array Slot} {G : xG} {w0 : va_W} {sz : Nat} (hst : l.stackTraces = false) {a : Nat → Nat} {aS : Nat} {u : cU} {L : List Nat} {f : Nat → va_E} {N : Nat} {B : Int} {z : Nat → Int32} {r : Nat → Nat → Int32} {n : Nat} {xn : Nat → Nat} {xr : Nat → Nat → Int32} {nr : Nat} {v : Nat → Int32} {rw : Nat → Nat → Int32} {ak : Nat → Int32} {wl : Nat} {wy : Nat → Nat → Int32} {mp : Nat → Nat → Bool} {mm : Nat → Nat → Nat → Int32} (hc : xC p s m args meth c cL_act 10 RL wsL_act (some .boolean) G (va_A w0 sz)) (ht : c.exceptionTable.toList = tableOf [(116, 122, 125, 30), (212, 224, 227, 30), (544, 550, 553, 30), (614, 622, 625, 30), (687, 695, 698, 30)]) (hB : cB N B z r n xn xr nr v rw ak wl wy mp mm) (hS : Sh G L f aS v n xn xr nr rw (r 1) ak wl wy mp mm) (hNB : N < 100000 ∧ 0 ≤ B ∧ B ≤ 1000000) {x : Int32} {pp : Nat} (hp0 : pp < n) (hl : lv_has ls 10 [(6, .int (-9)), (4, .int (nI pp)), (3, .int (nI n)), (0, .ref (a 0)), (1, .ref aS), (2, .int x)]) (hw : xW G (va_A w0 sz) s.heap (cW G a z r u ++ va_pl L f) H locs) : W p l e ⟨8, 3010, 13720, 172⟩ s m args below meth c H locs 0 0 (MQ below (xQi G w0 sz (fun (x0 : Int32) (w : lS) => x0 = 1 ∧ lZ (N + 1) (B + 400) G aS w) (lWN G a)) args s 3010 13720 (va_A w0 sz)) (F0 m 440 ls []) := by
  obtain ⟨hx, hb, -, hown, hts, -⟩ := id hc
  have hH := cB_H hB
  obtain ⟨hn1, hn2, hn3, hn4, hn5⟩ := cB_n hB
  obtain ⟨ad, oo, om, hO, hA⟩ := id hS
  obtain ⟨⟨hR1, hR2, hR3⟩, ⟨hE1, hE2⟩, ⟨hZ1, hZ2, hZ3⟩, ⟨hW1, hW2⟩, hM, hNe⟩ := id hA
  have hO : objS L f aS 4 [.ref (ad 0), .ref (ad 1), .ref (ad 2), .ref (ad 3), .int (v 4), .int (v 5), .int (v 6), .ref (ad 4), .ref (ad 5), .int (v 9), .int (v 10), .int (v 11), .int (v 12), .int (v 13)] := hO
  refine lv_iconst (v := 1) hx hb dL_act_440 (by decide) ?_
  refine lv_iload_n hx hb dL_act_441 rfl (lv_at hl 5 rfl) ?_
  refine lv_bipush (v := 6) hx hb dL_act_442 (by decide) ?_
  refine lv_ishr hx hb dL_act_444 ?_
  refine lv_iload_n hx hb dL_act_445 rfl (lv_at hl 5 rfl) ?_
  refine lv_bipush (v := 8) hx hb dL_act_446 (by decide) ?_
  refine lv_ishr hx hb dL_act_448 ?_
  refine lv_iconst (v := 3) hx hb dL_act_449 (by decide) ?_
  refine ncall_i hc hw (nrunS (n := 2) (As := [.int (x >>> ((8 : Int32) &&& 31)), .int 3]) (rest := [.int (x >>> ((6 : Int32) &&& 31)), .int 1]) hc hw (metL_below l G _ (_) 3 (by decide)) gL_act_L_below rfl (by decide +kernel) ⟨Nat.le_of_ble_eq_true rfl, Nat.le_of_ble_eq_true rfl⟩ rfl rfl hl.1 (Nat.le_of_ble_eq_true rfl) dL_act_450 (by first | exact ⟨Nat.le_of_ble_eq_true rfl, Nat.le_of_ble_eq_true rfl⟩ | (refine ⟨?_, ?_⟩ <;> ((try dsimp only); omega)))) (fun x0 H locs hp hw => ?_)
  obtain ⟨c3, hc3, ej⟩ := hp
  subst ej
  refine lv_if_ne (tgt := 461) hx hb dL_act_453 (by decide) (fun hz => ?_) (fun hz => ?_)
  · refine lv_iconst (v := 2) hx hb dL_act_461 (by decide) ?_
    refine ncall_i hc hw (nrunS (n := 2) (As := [.int (x >>> ((6 : Int32) &&& 31)), .int 2]) (rest := [.int 1]) hc hw (metL_below l G _ (_) 2 (by decide)) gL_act_L_below rfl (by decide +kernel) ⟨Nat.le_of_ble_eq_true rfl, Nat.le_of_ble_eq_true rfl⟩ rfl rfl hl.1 (Nat.le_of_ble_eq_true rfl) dL_act_462 (by first | exact ⟨Nat.le_of_ble_eq_true rfl, Nat.le_of_ble_eq_true rfl⟩ | (refine ⟨?_, ?_⟩ <;> ((try dsimp only); omega)))) (fun x0 H locs hp hw => ?_)
    obtain ⟨k, hk, ej⟩ := hp
    subst ej
    obtain ⟨e1, e2, e3⟩ := l1k hk (by decide)
    refine lv_iadd hx hb dL_act_465 ?_
    rw [e1]
    refine lv_istore (lv' := [(7, .int (nI (1 + k))), (6, .int (-9)), (4, .int (nI pp)), (3, .int (nI n)), (0, .ref (a 0)), (1, .ref aS), (2, .int x)]) hx hb dL_act_466 hl (by decide) rfl (fun ls hl => ?_)
    refine lv_iconst (v := 0) hx hb dL_act_468 (by decide) ?_
    refine lv_istore (lv' := [(6, .int 0), (7, .int (nI (1 + k))), (4, .int (nI pp)), (3, .int (nI n)), (0, .ref (a 0)), (1, .ref aS), (2, .int x)]) hx hb dL_act_469 hl (by decide) rfl (fun ls hl => ?_)
    refine lv_iconst (v := 0) hx hb dL_act_471 (by decide) ?_
    refine lv_istore (lv' := [(8, .int 0), (6, .int 0), (7, .int (nI (1 + k))), (4, .int (nI pp)), (3, .int (nI n)), (0, .ref (a 0)), (1, .ref aS), (2, .int x)]) hx hb dL_act_472 hl (by decide) rfl (fun ls hl => ?_)
    refine act_7lp (A := va_A w0 sz) hc (K := 1 + k) (by omega) (fun L1 f1 H locs ls hS1 hl hw => ?_) (1 + k) 0 (by omega) L f H locs ls hS (lv_sub hl [0, 1, 2, 5, 6] rfl) hw
    refine lv_aload_n hx hb dL_act_496 rfl (lv_at hl 3 rfl) ?_
    refine lv_iload hx hb dL_act_497 (lv_at hl 2 rfl) ?_
    refine ccall_i hc hw (crunV (n := 1) (As := [.int (nI (1 + k))]) (rest := []) hc hw (kk_sleep hst hB (K := 1 + k) (by omega)) gL_act_X3_sleep rfl (by decide +kernel) ⟨Nat.le_of_ble_eq_true rfl, Nat.le_of_ble_eq_true rfl⟩ 0 rfl rfl rfl rfl hl.1 (Nat.le_of_ble_eq_true rfl) dL_act_499 (by first | exact ⟨Nat.le_of_ble_eq_true rfl, Nat.le_of_ble_eq_true rfl⟩ | (refine ⟨?_, ?_⟩ <;> ((try dsimp only); omega)))) (fun x0 w1 H locs hp hw => ?_)
    obtain ⟨z2, r2, u2⟩ := w1
    have hw : xW G (va_A w0 sz) s.heap (cW G a z2 r2 u2 ++ va_pl L1 f1) H locs := hw
    obtain ⟨ex, hB2, hr2⟩ := hp
    subst ex
    refine lv_iload hx hb dL_act_502 (lv_at hl 1 rfl) ?_
    refine lv_icmp_ne (tgt := 511) hx hb dL_act_504 (by decide) (fun h => absurd rfl h) (fun hz3 => ?_)
    refine lv_iconst (v := 1) hx hb dL_act_507 (by decide) ?_
    refine lv_goto (tgt := 512) hx hb dL_act_508 (by decide) ?_
    exact xret_z (wn := lWN G a) ((z2, r2, u2), (L1, f1)) hc hw rfl ⟨rfl, _, _, _, _, _, _, _, _, _, _, _, cB_up (hB2) (by omega) (by omega), Sh_r hS1 hr2⟩ (by first | exact ⟨Nat.le_of_ble_eq_true rfl, Nat.le_of_ble_eq_true rfl⟩ | (refine ⟨?_, ?_⟩ <;> ((try dsimp only); omega))) dL_act_512
  · refine lv_bipush (v := 9) hx hb dL_act_456 (by decide) ?_
    refine lv_goto (tgt := 462) hx hb dL_act_458 (by decide) ?_
    refine ncall_i hc hw (nrunS (n := 2) (As := [.int (x >>> ((6 : Int32) &&& 31)), .int 9]) (rest := [.int 1]) hc hw (metL_below l G _ (_) 9 (by decide)) gL_act_L_below rfl (by decide +kernel) ⟨Nat.le_of_ble_eq_true rfl, Nat.le_of_ble_eq_true rfl⟩ rfl rfl hl.1 (Nat.le_of_ble_eq_true rfl) dL_act_462 (by first | exact ⟨Nat.le_of_ble_eq_true rfl, Nat.le_of_ble_eq_true rfl⟩ | (refine ⟨?_, ?_⟩ <;> ((try dsimp only); omega)))) (fun x0 H locs hp hw => ?_)
    obtain ⟨k, hk, ej⟩ := hp
    subst ej
    obtain ⟨e1, e2, e3⟩ := l1k hk (by decide)
    refine lv_iadd hx hb dL_act_465 ?_
    rw [e1]
    refine lv_istore (lv' := [(7, .int (nI (1 + k))), (6, .int (-9)), (4, .int (nI pp)), (3, .int (nI n)), (0, .ref (a 0)), (1, .ref aS), (2, .int x)]) hx hb dL_act_466 hl (by decide) rfl (fun ls hl => ?_)
    refine lv_iconst (v := 0) hx hb dL_act_468 (by decide) ?_
    refine lv_istore (lv' := [(6, .int 0), (7, .int (nI (1 + k))), (4, .int (nI pp)), (3, .int (nI n)), (0, .ref (a 0)), (1, .ref aS), (2, .int x)]) hx hb dL_act_469 hl (by decide) rfl (fun ls hl => ?_)
    refine lv_iconst (v := 0) hx hb dL_act_471 (by decide) ?_
    refine lv_istore (lv' := [(8, .int 0), (6, .int 0), (7, .int (nI (1 + k))), (4, .int (nI pp)), (3, .int (nI n)), (0, .ref (a 0)), (1, .ref aS), (2, .int x)]) hx hb dL_act_472 hl (by decide) rfl (fun ls hl => ?_)
    refine act_7lp (A := va_A w0 sz) hc (K := 1 + k) (by omega) (fun L1 f1 H locs ls hS1 hl hw => ?_) (1 + k) 0 (by omega) L f H locs ls hS (lv_sub hl [0, 1, 2, 5, 6] rfl) hw
    refine lv_aload_n hx hb dL_act_496 rfl (lv_at hl 3 rfl) ?_
    refine lv_iload hx hb dL_act_497 (lv_at hl 2 rfl) ?_
    refine ccall_i hc hw (crunV (n := 1) (As := [.int (nI (1 + k))]) (rest := []) hc hw (kk_sleep hst hB (K := 1 + k) (by omega)) gL_act_X3_sleep rfl (by decide +kernel) ⟨Nat.le_of_ble_eq_true rfl, Nat.le_of_ble_eq_true rfl⟩ 0 rfl rfl rfl rfl hl.1 (Nat.le_of_ble_eq_true rfl) dL_act_499 (by first | exact ⟨Nat.le_of_ble_eq_true rfl, Nat.le_of_ble_eq_true rfl⟩ | (refine ⟨?_, ?_⟩ <;> ((try dsimp only); omega)))) (fun x0 w1 H locs hp hw => ?_)
    obtain ⟨z2, r2, u2⟩ := w1
    have hw : xW G (va_A w0 sz) s.heap (cW G a z2 r2 u2 ++ va_pl L1 f1) H locs := hw
    obtain ⟨ex, hB2, hr2⟩ := hp
    subst ex
    refine lv_iload hx hb dL_act_502 (lv_at hl 1 rfl) ?_
    refine lv_icmp_ne (tgt := 511) hx hb dL_act_504 (by decide) (fun h => absurd rfl h) (fun hz3 => ?_)
    refine lv_iconst (v := 1) hx hb dL_act_507 (by decide) ?_
    refine lv_goto (tgt := 512) hx hb dL_act_508 (by decide) ?_
    exact xret_z (wn := lWN G a) ((z2, r2, u2), (L1, f1)) hc hw rfl ⟨rfl, _, _, _, _, _, _, _, _, _, _, _, cB_up (hB2) (by omega) (by omega), Sh_r hS1 hr2⟩ (by first | exact ⟨Nat.le_of_ble_eq_true rfl, Nat.le_of_ble_eq_true rfl⟩ | (refine ⟨?_, ?_⟩ <;> ((try dsimp only); omega))) dL_act_512
set_option maxHeartbeats 40000000 in
set_option maxRecDepth 100000 in
theorem act_8 {p : Program} {l : Launch} {e : Env} {s : State} {m : MethodId} {args : Array Value} {below : List Frame} {meth : Method} {c : Code} {H : Heap} {locs : List Loc} {ls : Array Slot} {G : xG} {w0 : va_W} {sz : Nat} (hst : l.stackTraces = false) {a : Nat → Nat} {aS : Nat} {u : cU} {L : List Nat} {f : Nat → va_E} {N : Nat} {B : Int} {z : Nat → Int32} {r : Nat → Nat → Int32} {n : Nat} {xn : Nat → Nat} {xr : Nat → Nat → Int32} {nr : Nat} {v : Nat → Int32} {rw : Nat → Nat → Int32} {ak : Nat → Int32} {wl : Nat} {wy : Nat → Nat → Int32} {mp : Nat → Nat → Bool} {mm : Nat → Nat → Nat → Int32} (hc : xC p s m args meth c cL_act 10 RL wsL_act (some .boolean) G (va_A w0 sz)) (ht : c.exceptionTable.toList = tableOf [(116, 122, 125, 30), (212, 224, 227, 30), (544, 550, 553, 30), (614, 622, 625, 30), (687, 695, 698, 30)]) (hB : cB N B z r n xn xr nr v rw ak wl wy mp mm) (hS : Sh G L f aS v n xn xr nr rw (r 1) ak wl wy mp mm) (hNB : N < 100000 ∧ 0 ≤ B ∧ B ≤ 1000000) {x : Int32} {pp : Nat} (hp0 : pp < n) (hl : lv_has ls 10 [(6, .int (-9)), (4, .int (nI pp)), (3, .int (nI n)), (0, .ref (a 0)), (1, .ref aS), (2, .int x)]) (hw : xW G (va_A w0 sz) s.heap (cW G a z r u ++ va_pl L f) H locs) : W p l e ⟨8, 3010, 13720, 172⟩ s m args below meth c H locs 0 0 (MQ below (xQi G w0 sz (fun (x0 : Int32) (w : lS) => x0 = 1 ∧ lZ (N + 1) (B + 400) G aS w) (lWN G a)) args s 3010 13720 (va_A w0 sz)) (F0 m 513 ls []) := by
  obtain ⟨hx, hb, -, hown, hts, -⟩ := id hc
  have hH := cB_H hB
  obtain ⟨hn1, hn2, hn3, hn4, hn5⟩ := cB_n hB
  obtain ⟨ad, oo, om, hO, hA⟩ := id hS
  obtain ⟨⟨hR1, hR2, hR3⟩, ⟨hE1, hE2⟩, ⟨hZ1, hZ2, hZ3⟩, ⟨hW1, hW2⟩, hM, hNe⟩ := id hA
  have hO : objS L f aS 4 [.ref (ad 0), .ref (ad 1), .ref (ad 2), .ref (ad 3), .int (v 4), .int (v 5), .int (v 6), .ref (ad 4), .ref (ad 5), .int (v 9), .int (v 10), .int (v 11), .int (v 12), .int (v 13)] := hO
  refine lv_iload_n hx hb dL_act_513 rfl (lv_at hl 5 rfl) ?_
  refine lv_bipush (v := 7) hx hb dL_act_514 (by decide) ?_
  refine lv_ishr hx hb dL_act_516 ?_
  refine lv_iconst (v := 3) hx hb dL_act_517 (by decide) ?_
  refine ncall_i hc hw (nrunS (n := 2) (As := [.int (x >>> ((7 : Int32) &&& 31)), .int 3]) (rest := []) hc hw (metL_below l G _ (_) 3 (by decide)) gL_act_L_below rfl (by decide +kernel) ⟨Nat.le_of_ble_eq_true rfl, Nat.le_of_ble_eq_true rfl⟩ rfl rfl hl.1 (Nat.le_of_ble_eq_true rfl) dL_act_518 (by first | exact ⟨Nat.le_of_ble_eq_true rfl, Nat.le_of_ble_eq_true rfl⟩ | (refine ⟨?_, ?_⟩ <;> ((try dsimp only); omega)))) (fun x0 H locs hp hw => ?_)
  obtain ⟨c3, hc3, ej⟩ := hp
  subst ej
  refine lv_if_le (tgt := 526) hx hb dL_act_521 (by decide) (fun hz => ?_) (fun hz => ?_)
  · rcases cB_6 hB with ⟨h6, h3⟩ | ⟨g6, h6, hg6, h3, h6n⟩
    · refine lv_aload_n hx hb dL_act_526 rfl (lv_at hl 4 rfl) ?_
      refine pget (C := RX4) (T := TX4) (N := 14) (ci := 4) hc hw inL_act_X4 hO rfl 6 (by decide) lkL_act_f73 rfl rfl dL_act_527 ?_
      refine lv_if_lt (tgt := 544) hx hb dL_act_530 (by decide) (fun hz6 => ?_) (fun h => absurd (show v 6 < 0 by rw [h6]; decide) h)
      refine lv_aload_n hx hb dL_act_544 rfl (lv_at hl 3 rfl) ?_
      have t3 := (show (FX3_giveUp (z 3) (z 4)).1 = 3 by rw [h3]; exact congrArg Prod.fst t_giveUp)
      refine ccallX_i hc hw (crunVX (n := 0) (As := []) (rest := []) hc hw (kX_giveUp hst _ a z r u (k0 := 3) (by decide) t3) gL_act_X3_giveUp rfl (by decide +kernel) ⟨Nat.le_of_ble_eq_true rfl, Nat.le_of_ble_eq_true rfl⟩ 0 rfl rfl rfl rfl hl.1 (Nat.le_of_ble_eq_true rfl) dL_act_545 (by first | exact ⟨Nat.le_of_ble_eq_true rfl, Nat.le_of_ble_eq_true rfl⟩ | (refine ⟨?_, ?_⟩ <;> ((try dsimp only); omega)))) (fun E ce q9 H locs hpx hw h9 hv9 hc9 => ?_) (fun x0 w1 H locs hp hw => hp.elim)
      have hE := lIS t3 hpx
      subst hE
      refine lcatch (own := RL) hc [⟨116, 122, 125, 30⟩, ⟨212, 224, 227, 30⟩] ⟨544, 550, 553, 30⟩ [⟨614, 622, 625, 30⟩, ⟨687, 695, 698, 30⟩] ht rfl rfl (by decide) lkL_act_c30 (by decide +kernel) h9 hv9 hc9 ?_
      refine lv_astore (lv' := [(7, .ref q9), (6, .int (-9)), (4, .int (nI pp)), (3, .int (nI n)), (0, .ref (a 0)), (1, .ref aS), (2, .int x)]) hx hb dL_act_553 hl (by decide) rfl (fun ls hl => ?_)
      refine lv_bipush (v := (-9)) hx hb dL_act_555 (by decide) ?_
      refine lv_istore (lv' := [(5, .int (-9)), (7, .ref q9), (6, .int (-9)), (4, .int (nI pp)), (3, .int (nI n)), (0, .ref (a 0)), (1, .ref aS), (2, .int x)]) hx hb dL_act_557 hl (by decide) rfl (fun ls hl => ?_)
      refine lv_iload hx hb dL_act_559 (lv_at hl 0 rfl) ?_
      refine lv_iload hx hb dL_act_561 (lv_at hl 2 rfl) ?_
      refine lv_icmp_ne (tgt := 570) hx hb dL_act_563 (by decide) (fun h => absurd rfl h) (fun hz3 => ?_)
      refine lv_iconst (v := 1) hx hb dL_act_566 (by decide) ?_
      refine lv_goto (tgt := 571) hx hb dL_act_567 (by decide) ?_
      exact xret_z (wn := lWN G a) ((z, r, u), (L, f)) hc hw rfl ⟨rfl, _, _, _, _, _, _, _, _, _, _, _, cB_up (hB) (by omega) (by omega), hS⟩ (by first | exact ⟨Nat.le_of_ble_eq_true rfl, Nat.le_of_ble_eq_true rfl⟩ | (refine ⟨?_, ?_⟩ <;> ((try dsimp only); omega))) dL_act_571
    · refine lv_aload_n hx hb dL_act_526 rfl (lv_at hl 4 rfl) ?_
      refine pget (C := RX4) (T := TX4) (N := 14) (ci := 4) hc hw inL_act_X4 hO rfl 6 (by decide) lkL_act_f73 rfl rfl dL_act_527 ?_
      refine lv_if_lt (tgt := 544) hx hb dL_act_530 (by decide) (fun h => absurd h h6n) (fun hz6 => ?_)
      refine lv_aload_n hx hb dL_act_533 rfl (lv_at hl 4 rfl) ?_
      refine pget (C := RX4) (T := TX4) (N := 14) (ci := 4) hc hw inL_act_X4 hO rfl 7 (by decide) lkL_act_f76 rfl rfl dL_act_534 ?_
      refine plenA hc hw hW1 dL_act_537 ?_
      refine lv_istore (lv' := [(6, .int (nI wl)), (4, .int (nI pp)), (3, .int (nI n)), (0, .ref (a 0)), (1, .ref aS), (2, .int x)]) hx hb dL_act_538 hl (by decide) rfl (fun ls hl => ?_)
      refine lv_aload_n hx hb dL_act_540 rfl (lv_at hl 4 rfl) ?_
      refine pcall_v hc hw (prunV (n := 0) (As := []) (rest := []) hc hw (metS_over l G _ _ _ aS v n xn xr nr rw _ ak wl wy mp mm hS hn5) gL_act_X4_over rfl (by decide +kernel) ⟨Nat.le_of_ble_eq_true rfl, Nat.le_of_ble_eq_true rfl⟩ hO rfl rfl rfl hl.1 (Nat.le_of_ble_eq_true rfl) dL_act_541 (by first | exact ⟨Nat.le_of_ble_eq_true rfl, Nat.le_of_ble_eq_true rfl⟩ | (refine ⟨?_, ?_⟩ <;> ((try dsimp only); omega)))) (fun L1 f1 H locs hp hw => ?_)
      have hS1 : Sh G L1 f1 aS (upd v 6 (-1)) n xn xr nr (sOv rw nr) (r 1) (fun _ => 0) 0 wy mp mm := hp
      refine lv_aload_n hx hb dL_act_544 rfl (lv_at hl 3 rfl) ?_
      refine ccall_i hc hw (crunV (n := 0) (As := []) (rest := []) hc hw (kk_giveUp hst hB h3) gL_act_X3_giveUp rfl (by decide +kernel) ⟨Nat.le_of_ble_eq_true rfl, Nat.le_of_ble_eq_true rfl⟩ 0 rfl rfl rfl rfl hl.1 (Nat.le_of_ble_eq_true rfl) dL_act_545 (by first | exact ⟨Nat.le_of_ble_eq_true rfl, Nat.le_of_ble_eq_true rfl⟩ | (refine ⟨?_, ?_⟩ <;> ((try dsimp only); omega)))) (fun x0 w1 H locs hp hw => ?_)
      obtain ⟨z2, r2, u2⟩ := w1
      have hw : xW G (va_A w0 sz) s.heap (cW G a z2 r2 u2 ++ va_pl L1 f1) H locs := hw
      obtain ⟨ex, hB2, hr2⟩ := hp
      subst ex
      refine lv_istore (lv' := [(5, .int (nI wl)), (6, .int (nI wl)), (4, .int (nI pp)), (3, .int (nI n)), (0, .ref (a 0)), (1, .ref aS), (2, .int x)]) hx hb dL_act_548 hl (by decide) rfl (fun ls hl => ?_)
      refine lv_goto (tgt := 559) hx hb dL_act_550 (by decide) ?_
      refine lv_iload hx hb dL_act_559 (lv_at hl 0 rfl) ?_
      refine lv_iload hx hb dL_act_561 (lv_at hl 1 rfl) ?_
      refine lv_icmp_ne (tgt := 570) hx hb dL_act_563 (by decide) (fun h => absurd rfl h) (fun hz3 => ?_)
      refine lv_iconst (v := 1) hx hb dL_act_566 (by decide) ?_
      refine lv_goto (tgt := 571) hx hb dL_act_567 (by decide) ?_
      exact xret_z (wn := lWN G a) ((z2, r2, u2), (L1, f1)) hc hw rfl ⟨rfl, _, _, _, _, _, _, _, _, _, _, _, cB_up (hB2) (by omega) (by omega), Sh_r hS1 hr2⟩ (by first | exact ⟨Nat.le_of_ble_eq_true rfl, Nat.le_of_ble_eq_true rfl⟩ | (refine ⟨?_, ?_⟩ <;> ((try dsimp only); omega))) dL_act_571
  · refine lv_iconst (v := 1) hx hb dL_act_524 (by decide) ?_
    exact xret_z (wn := lWN G a) ((z, r, u), (L, f)) hc hw rfl ⟨rfl, _, _, _, _, _, _, _, _, _, _, _, cB_up (hB) (by omega) (by omega), hS⟩ (by first | exact ⟨Nat.le_of_ble_eq_true rfl, Nat.le_of_ble_eq_true rfl⟩ | (refine ⟨?_, ?_⟩ <;> ((try dsimp only); omega))) dL_act_525
set_option maxHeartbeats 40000000 in
set_option maxRecDepth 100000 in
theorem act_9 {p : Program} {l : Launch} {e : Env} {s : State} {m : MethodId} {args : Array Value} {below : List Frame} {meth : Method} {c : Code} {H : Heap} {locs : List Loc} {ls : Array Slot} {G : xG} {w0 : va_W} {sz : Nat} (hst : l.stackTraces = false) {a : Nat → Nat} {aS : Nat} {u : cU} {L : List Nat} {f : Nat → va_E} {N : Nat} {B : Int} {z : Nat → Int32} {r : Nat → Nat → Int32} {n : Nat} {xn : Nat → Nat} {xr : Nat → Nat → Int32} {nr : Nat} {v : Nat → Int32} {rw : Nat → Nat → Int32} {ak : Nat → Int32} {wl : Nat} {wy : Nat → Nat → Int32} {mp : Nat → Nat → Bool} {mm : Nat → Nat → Nat → Int32} (hc : xC p s m args meth c cL_act 10 RL wsL_act (some .boolean) G (va_A w0 sz)) (ht : c.exceptionTable.toList = tableOf [(116, 122, 125, 30), (212, 224, 227, 30), (544, 550, 553, 30), (614, 622, 625, 30), (687, 695, 698, 30)]) (hB : cB N B z r n xn xr nr v rw ak wl wy mp mm) (hS : Sh G L f aS v n xn xr nr rw (r 1) ak wl wy mp mm) (hNB : N < 100000 ∧ 0 ≤ B ∧ B ≤ 1000000) {x : Int32} {pp : Nat} (hp0 : pp < n) (hl : lv_has ls 10 [(6, .int (-9)), (4, .int (nI pp)), (3, .int (nI n)), (0, .ref (a 0)), (1, .ref aS), (2, .int x)]) (hw : xW G (va_A w0 sz) s.heap (cW G a z r u ++ va_pl L f) H locs) : W p l e ⟨8, 3010, 13720, 172⟩ s m args below meth c H locs 0 0 (MQ below (xQi G w0 sz (fun (x0 : Int32) (w : lS) => x0 = 1 ∧ lZ (N + 1) (B + 400) G aS w) (lWN G a)) args s 3010 13720 (va_A w0 sz)) (F0 m 572 ls []) := by
  obtain ⟨hx, hb, -, hown, hts, -⟩ := id hc
  have hH := cB_H hB
  obtain ⟨hn1, hn2, hn3, hn4, hn5⟩ := cB_n hB
  obtain ⟨ad, oo, om, hO, hA⟩ := id hS
  obtain ⟨⟨hR1, hR2, hR3⟩, ⟨hE1, hE2⟩, ⟨hZ1, hZ2, hZ3⟩, ⟨hW1, hW2⟩, hM, hNe⟩ := id hA
  have hO : objS L f aS 4 [.ref (ad 0), .ref (ad 1), .ref (ad 2), .ref (ad 3), .int (v 4), .int (v 5), .int (v 6), .ref (ad 4), .ref (ad 5), .int (v 9), .int (v 10), .int (v 11), .int (v 12), .int (v 13)] := hO
  obtain ⟨y4, hy4, hy5⟩ := cB_at hB
  rcases cB_6 hB with ⟨h6, h3⟩ | ⟨g6, h6, hg6, h3, h6n⟩
  · obtain ⟨rs, q, hA0⟩ := id hB
    obtain ⟨d, hd1, hd2, hd3, -⟩ := a_far hA0 hy5 hp0
    refine lv_aload_n hx hb dL_act_572 rfl (lv_at hl 4 rfl) ?_
    refine pget (C := RX4) (T := TX4) (N := 14) (ci := 4) hc hw inL_act_X4 hO rfl 6 (by decide) lkL_act_f73 rfl rfl dL_act_573 ?_
    refine lv_if_ge (tgt := 614) hx hb dL_act_576 (by decide) (fun h => absurd h (show ¬ 0 ≤ v 6 by rw [h6]; decide)) (fun hz6 => ?_)
    refine lv_aload_n hx hb dL_act_579 rfl (lv_at hl 4 rfl) ?_
    refine lv_aload_n hx hb dL_act_580 rfl (lv_at hl 4 rfl) ?_
    refine pget (C := RX4) (T := TX4) (N := 14) (ci := 4) hc hw inL_act_X4 hO rfl 4 (by decide) lkL_act_f85 rfl rfl dL_act_581 ?_
    refine lv_iload hx hb dL_act_584 (lv_at hl 1 rfl) ?_
    refine pcall_i hc hw (prunV (n := 2) (As := [.int (v 4), .int (nI pp)]) (rest := []) hc hw (metS_far l G _ _ _ aS v n xn xr nr rw _ ak wl wy mp mm hS (cB_sX hB) _ _ ⟨pp, rfl, hp0⟩) gL_act_X4_far rfl (by decide +kernel) ⟨Nat.le_of_ble_eq_true rfl, Nat.le_of_ble_eq_true rfl⟩ hO rfl rfl rfl hl.1 (Nat.le_of_ble_eq_true rfl) dL_act_586 (by first | exact ⟨Nat.le_of_ble_eq_true rfl, Nat.le_of_ble_eq_true rfl⟩ | (refine ⟨?_, ?_⟩ <;> ((try dsimp only); omega)))) (fun x7 L1 f1 H locs hp hw => ?_)
    obtain ⟨e7, hk7⟩ := hp
    rw [hy4, hd3] at e7
    subst e7
    have hS1 := Sh_new hS hk7
    have hO := hO.kp hk7 (fun z => z)
    refine lv_istore (lv' := [(7, .int (nI d)), (6, .int (-9)), (4, .int (nI pp)), (3, .int (nI n)), (0, .ref (a 0)), (1, .ref aS), (2, .int x)]) hx hb dL_act_589 hl (by decide) rfl (fun ls hl => ?_)
    refine lv_aload_n hx hb dL_act_591 rfl (lv_at hl 5 rfl) ?_
    refine lv_iload hx hb dL_act_592 (lv_at hl 2 rfl) ?_
    refine pcall_i hc hw (prunV (n := 1) (As := [.int (nI pp)]) (rest := []) hc hw (metS_begin l G _ _ _ aS v n xn xr nr rw _ ak wl wy mp mm hS1 hn5 pp) gL_act_X4_begin rfl (by decide +kernel) ⟨Nat.le_of_ble_eq_true rfl, Nat.le_of_ble_eq_true rfl⟩ hO rfl rfl rfl hl.1 (Nat.le_of_ble_eq_true rfl) dL_act_594 (by first | exact ⟨Nat.le_of_ble_eq_true rfl, Nat.le_of_ble_eq_true rfl⟩ | (refine ⟨?_, ?_⟩ <;> ((try dsimp only); omega)))) (fun x8 L2 f2 H locs hp hw => ?_)
    obtain ⟨hb1, hb2⟩ := hp
    rw [hy4] at hb1 hb2
    refine lv_pop hx hb dL_act_597 rfl ?_
    by_cases hd9 : d = 9999
    · refine lv_iload hx hb dL_act_598 (lv_at hl 0 rfl) ?_
      refine lv_sipush (v := 9999) hx hb dL_act_600 (by decide) ?_
      refine lv_icmp_ne (tgt := 610) hx hb dL_act_603 (by decide) (fun h => absurd (by rw [hd9]; rfl) h) (fun hz7 => ?_)
      refine lv_iconst (v := (-1)) hx hb dL_act_606 (by decide) ?_
      refine lv_goto (tgt := 612) hx hb dL_act_607 (by decide) ?_
      rw [show (-1 : Int32) = tD d from (if_pos hd9).symm]
      refine lv_istore (lv' := [(6, .int (tD d)), (7, .int (nI d)), (4, .int (nI pp)), (3, .int (nI n)), (0, .ref (a 0)), (1, .ref aS), (2, .int x)]) hx hb dL_act_612 hl (by decide) rfl (fun ls hl => ?_)
      refine lv_aload_n hx hb dL_act_614 rfl (lv_at hl 4 rfl) ?_
      refine lv_iload hx hb dL_act_615 (lv_at hl 2 rfl) ?_
      refine ccall_i hc hw (crunV (n := 1) (As := [.int (nI pp)]) (rest := []) hc hw (kk_begin hst hA0 h3 hy4 hy5 hp0) gL_act_X3_beginErrand rfl (by decide +kernel) ⟨Nat.le_of_ble_eq_true rfl, Nat.le_of_ble_eq_true rfl⟩ 0 rfl rfl rfl rfl hl.1 (Nat.le_of_ble_eq_true rfl) dL_act_617 (by first | exact ⟨Nat.le_of_ble_eq_true rfl, Nat.le_of_ble_eq_true rfl⟩ | (refine ⟨?_, ?_⟩ <;> ((try dsimp only); omega)))) (fun x0 w1 H locs hp hw => ?_)
      obtain ⟨z2, r2, u2⟩ := w1
      have hw : xW G (va_A w0 sz) s.heap (cW G a z2 r2 u2 ++ va_pl L2 f2) H locs := hw
      obtain ⟨⟨d2, ex, hd5⟩, hr2, -, -, -, -, -, ur2, uk2, hq⟩ := hp
      have e5 := cA_di hA0 hy5 hp0 hd1 hd5
      subst e5
      subst ex
      refine lv_istore (lv' := [(5, .int (tD d)), (6, .int (tD d)), (7, .int (nI d)), (4, .int (nI pp)), (3, .int (nI n)), (0, .ref (a 0)), (1, .ref aS), (2, .int x)]) hx hb dL_act_620 hl (by decide) rfl (fun ls hl => ?_)
      refine lv_goto (tgt := 631) hx hb dL_act_622 (by decide) ?_
      refine lv_iload hx hb dL_act_631 (lv_at hl 0 rfl) ?_
      refine lv_iload hx hb dL_act_633 (lv_at hl 1 rfl) ?_
      refine lv_icmp_ne (tgt := 642) hx hb dL_act_635 (by decide) (fun h => absurd rfl h) (fun hz3 => ?_)
      refine lv_iconst (v := 1) hx hb dL_act_638 (by decide) ?_
      refine lv_goto (tgt := 643) hx hb dL_act_639 (by decide) ?_
      rcases hq with ⟨hq1, hq2, hq3⟩ | ⟨hq1, hq2, hq3⟩
      · obtain ⟨-, hS2⟩ := hb1 (congrArg nI hq1.symm)
        exact xret_z (wn := lWN G a) ((z2, r2, u2), (L2, f2)) hc hw rfl ⟨rfl, _, _, _, _, _, _, _, _, _, _, _, cB_up (⟨_, _, hq3⟩) (by omega) (by omega), Sh_r hS2 hr2⟩ (by first | exact ⟨Nat.le_of_ble_eq_true rfl, Nat.le_of_ble_eq_true rfl⟩ | (refine ⟨?_, ?_⟩ <;> ((try dsimp only); omega))) dL_act_643
      · obtain ⟨-, hS2⟩ := hb2 (fun h => hq1 (nI_inj (by omega) (by omega) h.symm))
        exact xret_z (wn := lWN G a) ((z2, r2, u2), (L2, f2)) hc hw rfl ⟨rfl, _, _, _, _, _, _, _, _, _, _, _, cB_up (⟨_, _, hq3⟩) (by omega) (by omega), Sh_r hS2 hr2⟩ (by first | exact ⟨Nat.le_of_ble_eq_true rfl, Nat.le_of_ble_eq_true rfl⟩ | (refine ⟨?_, ?_⟩ <;> ((try dsimp only); omega))) dL_act_643
    · refine lv_iload hx hb dL_act_598 (lv_at hl 0 rfl) ?_
      refine lv_sipush (v := 9999) hx hb dL_act_600 (by decide) ?_
      refine lv_icmp_ne (tgt := 610) hx hb dL_act_603 (by decide) (fun hz7 => ?_) (fun h => absurd h (fun h => hd9 (nI_inj (by omega) (by omega) (h.trans (show (9999 : Int32) = nI 9999 from rfl)))))
      refine lv_iload hx hb dL_act_610 (lv_at hl 0 rfl) ?_
      rw [show (nI d : Int32) = tD d from (if_neg hd9).symm]
      refine lv_istore (lv' := [(6, .int (tD d)), (7, .int (nI d)), (4, .int (nI pp)), (3, .int (nI n)), (0, .ref (a 0)), (1, .ref aS), (2, .int x)]) hx hb dL_act_612 hl (by decide) rfl (fun ls hl => ?_)
      refine lv_aload_n hx hb dL_act_614 rfl (lv_at hl 4 rfl) ?_
      refine lv_iload hx hb dL_act_615 (lv_at hl 2 rfl) ?_
      refine ccall_i hc hw (crunV (n := 1) (As := [.int (nI pp)]) (rest := []) hc hw (kk_begin hst hA0 h3 hy4 hy5 hp0) gL_act_X3_beginErrand rfl (by decide +kernel) ⟨Nat.le_of_ble_eq_true rfl, Nat.le_of_ble_eq_true rfl⟩ 0 rfl rfl rfl rfl hl.1 (Nat.le_of_ble_eq_true rfl) dL_act_617 (by first | exact ⟨Nat.le_of_ble_eq_true rfl, Nat.le_of_ble_eq_true rfl⟩ | (refine ⟨?_, ?_⟩ <;> ((try dsimp only); omega)))) (fun x0 w1 H locs hp hw => ?_)
      obtain ⟨z2, r2, u2⟩ := w1
      have hw : xW G (va_A w0 sz) s.heap (cW G a z2 r2 u2 ++ va_pl L2 f2) H locs := hw
      obtain ⟨⟨d2, ex, hd5⟩, hr2, -, -, -, -, -, ur2, uk2, hq⟩ := hp
      have e5 := cA_di hA0 hy5 hp0 hd1 hd5
      subst e5
      subst ex
      refine lv_istore (lv' := [(5, .int (tD d)), (6, .int (tD d)), (7, .int (nI d)), (4, .int (nI pp)), (3, .int (nI n)), (0, .ref (a 0)), (1, .ref aS), (2, .int x)]) hx hb dL_act_620 hl (by decide) rfl (fun ls hl => ?_)
      refine lv_goto (tgt := 631) hx hb dL_act_622 (by decide) ?_
      refine lv_iload hx hb dL_act_631 (lv_at hl 0 rfl) ?_
      refine lv_iload hx hb dL_act_633 (lv_at hl 1 rfl) ?_
      refine lv_icmp_ne (tgt := 642) hx hb dL_act_635 (by decide) (fun h => absurd rfl h) (fun hz3 => ?_)
      refine lv_iconst (v := 1) hx hb dL_act_638 (by decide) ?_
      refine lv_goto (tgt := 643) hx hb dL_act_639 (by decide) ?_
      rcases hq with ⟨hq1, hq2, hq3⟩ | ⟨hq1, hq2, hq3⟩
      · obtain ⟨-, hS2⟩ := hb1 (congrArg nI hq1.symm)
        exact xret_z (wn := lWN G a) ((z2, r2, u2), (L2, f2)) hc hw rfl ⟨rfl, _, _, _, _, _, _, _, _, _, _, _, cB_up (⟨_, _, hq3⟩) (by omega) (by omega), Sh_r hS2 hr2⟩ (by first | exact ⟨Nat.le_of_ble_eq_true rfl, Nat.le_of_ble_eq_true rfl⟩ | (refine ⟨?_, ?_⟩ <;> ((try dsimp only); omega))) dL_act_643
      · obtain ⟨-, hS2⟩ := hb2 (fun h => hq1 (nI_inj (by omega) (by omega) h.symm))
        exact xret_z (wn := lWN G a) ((z2, r2, u2), (L2, f2)) hc hw rfl ⟨rfl, _, _, _, _, _, _, _, _, _, _, _, cB_up (⟨_, _, hq3⟩) (by omega) (by omega), Sh_r hS2 hr2⟩ (by first | exact ⟨Nat.le_of_ble_eq_true rfl, Nat.le_of_ble_eq_true rfl⟩ | (refine ⟨?_, ?_⟩ <;> ((try dsimp only); omega))) dL_act_643
  · obtain ⟨rs, q, hA0⟩ := id hB
    refine lv_aload_n hx hb dL_act_572 rfl (lv_at hl 4 rfl) ?_
    refine pget (C := RX4) (T := TX4) (N := 14) (ci := 4) hc hw inL_act_X4 hO rfl 6 (by decide) lkL_act_f73 rfl rfl dL_act_573 ?_
    refine lv_if_ge (tgt := 614) hx hb dL_act_576 (by decide) (fun hz6 => ?_) (fun h => absurd (show 0 ≤ v 6 by rw [h6, xle, nI_toInt (by omega)]; exact Int.natCast_nonneg _) h)
    refine lv_aload_n hx hb dL_act_614 rfl (lv_at hl 3 rfl) ?_
    refine lv_iload hx hb dL_act_615 (lv_at hl 1 rfl) ?_
    have t3 := congrArg Prod.fst (t_begin hA0 h3 hp0 (fa := u.1))
    refine ccallX_i hc hw (crunVX (n := 1) (As := [.int (nI pp)]) (rest := []) hc hw (kX_beginErrand hst _ a z r u _ hH (k0 := 3) (by decide) t3) gL_act_X3_beginErrand rfl (by decide +kernel) ⟨Nat.le_of_ble_eq_true rfl, Nat.le_of_ble_eq_true rfl⟩ 0 rfl rfl rfl rfl hl.1 (Nat.le_of_ble_eq_true rfl) dL_act_617 (by first | exact ⟨Nat.le_of_ble_eq_true rfl, Nat.le_of_ble_eq_true rfl⟩ | (refine ⟨?_, ?_⟩ <;> ((try dsimp only); omega)))) (fun E ce q9 H locs hpx hw h9 hv9 hc9 => ?_) (fun x0 w1 H locs hp hw => hp.elim)
    have hE := lIS t3 hpx
    subst hE
    refine lcatch (own := RL) hc [⟨116, 122, 125, 30⟩, ⟨212, 224, 227, 30⟩, ⟨544, 550, 553, 30⟩] ⟨614, 622, 625, 30⟩ [⟨687, 695, 698, 30⟩] ht rfl rfl (by decide) lkL_act_c30 (by decide +kernel) h9 hv9 hc9 ?_
    refine lv_astore (lv' := [(7, .ref q9), (6, .int (-9)), (4, .int (nI pp)), (3, .int (nI n)), (0, .ref (a 0)), (1, .ref aS), (2, .int x)]) hx hb dL_act_625 hl (by decide) rfl (fun ls hl => ?_)
    refine lv_bipush (v := (-9)) hx hb dL_act_627 (by decide) ?_
    refine lv_istore (lv' := [(5, .int (-9)), (7, .ref q9), (6, .int (-9)), (4, .int (nI pp)), (3, .int (nI n)), (0, .ref (a 0)), (1, .ref aS), (2, .int x)]) hx hb dL_act_629 hl (by decide) rfl (fun ls hl => ?_)
    refine lv_iload hx hb dL_act_631 (lv_at hl 0 rfl) ?_
    refine lv_iload hx hb dL_act_633 (lv_at hl 2 rfl) ?_
    refine lv_icmp_ne (tgt := 642) hx hb dL_act_635 (by decide) (fun h => absurd rfl h) (fun hz3 => ?_)
    refine lv_iconst (v := 1) hx hb dL_act_638 (by decide) ?_
    refine lv_goto (tgt := 643) hx hb dL_act_639 (by decide) ?_
    exact xret_z (wn := lWN G a) ((z, r, u), (L, f)) hc hw rfl ⟨rfl, _, _, _, _, _, _, _, _, _, _, _, cB_up (hB) (by omega) (by omega), hS⟩ (by first | exact ⟨Nat.le_of_ble_eq_true rfl, Nat.le_of_ble_eq_true rfl⟩ | (refine ⟨?_, ?_⟩ <;> ((try dsimp only); omega))) dL_act_643
set_option maxHeartbeats 40000000 in
set_option maxRecDepth 100000 in
theorem act_13 {p : Program} {l : Launch} {e : Env} {s : State} {m : MethodId} {args : Array Value} {below : List Frame} {meth : Method} {c : Code} {H : Heap} {locs : List Loc} {ls : Array Slot} {G : xG} {w0 : va_W} {sz : Nat} (hst : l.stackTraces = false) {a : Nat → Nat} {aS : Nat} {u : cU} {L : List Nat} {f : Nat → va_E} {N : Nat} {B : Int} {z : Nat → Int32} {r : Nat → Nat → Int32} {n : Nat} {xn : Nat → Nat} {xr : Nat → Nat → Int32} {nr : Nat} {v : Nat → Int32} {rw : Nat → Nat → Int32} {ak : Nat → Int32} {wl : Nat} {wy : Nat → Nat → Int32} {mp : Nat → Nat → Bool} {mm : Nat → Nat → Nat → Int32} (hc : xC p s m args meth c cL_act 10 RL wsL_act (some .boolean) G (va_A w0 sz)) (ht : c.exceptionTable.toList = tableOf [(116, 122, 125, 30), (212, 224, 227, 30), (544, 550, 553, 30), (614, 622, 625, 30), (687, 695, 698, 30)]) (hB : cB N B z r n xn xr nr v rw ak wl wy mp mm) (hS : Sh G L f aS v n xn xr nr rw (r 1) ak wl wy mp mm) (hNB : N < 100000 ∧ 0 ≤ B ∧ B ≤ 1000000) {x : Int32} {pp : Nat} (hp0 : pp < n) (hl : lv_has ls 10 [(6, .int (-9)), (4, .int (nI pp)), (3, .int (nI n)), (0, .ref (a 0)), (1, .ref aS), (2, .int x)]) (hw : xW G (va_A w0 sz) s.heap (cW G a z r u ++ va_pl L f) H locs) : W p l e ⟨8, 3010, 13720, 172⟩ s m args below meth c H locs 0 0 (MQ below (xQi G w0 sz (fun (x0 : Int32) (w : lS) => x0 = 1 ∧ lZ (N + 1) (B + 400) G aS w) (lWN G a)) args s 3010 13720 (va_A w0 sz)) (F0 m 644 ls []) := by
  obtain ⟨hx, hb, -, hown, hts, -⟩ := id hc
  have hH := cB_H hB
  obtain ⟨hn1, hn2, hn3, hn4, hn5⟩ := cB_n hB
  obtain ⟨ad, oo, om, hO, hA⟩ := id hS
  obtain ⟨⟨hR1, hR2, hR3⟩, ⟨hE1, hE2⟩, ⟨hZ1, hZ2, hZ3⟩, ⟨hW1, hW2⟩, hM, hNe⟩ := id hA
  have hO : objS L f aS 4 [.ref (ad 0), .ref (ad 1), .ref (ad 2), .ref (ad 3), .int (v 4), .int (v 5), .int (v 6), .ref (ad 4), .ref (ad 5), .int (v 9), .int (v 10), .int (v 11), .int (v 12), .int (v 13)] := hO
  refine lv_iconst (v := 1) hx hb dL_act_644 (by decide) ?_
  refine lv_iload_n hx hb dL_act_645 rfl (lv_at hl 5 rfl) ?_
  refine lv_bipush (v := 6) hx hb dL_act_646 (by decide) ?_
  refine lv_ishr hx hb dL_act_648 ?_
  refine lv_iload_n hx hb dL_act_649 rfl (lv_at hl 5 rfl) ?_
  refine lv_bipush (v := 8) hx hb dL_act_650 (by decide) ?_
  refine lv_ishr hx hb dL_act_652 ?_
  refine lv_iconst (v := 3) hx hb dL_act_653 (by decide) ?_
  refine ncall_i hc hw (nrunS (n := 2) (As := [.int (x >>> ((8 : Int32) &&& 31)), .int 3]) (rest := [.int (x >>> ((6 : Int32) &&& 31)), .int 1]) hc hw (metL_below l G _ (_) 3 (by decide)) gL_act_L_below rfl (by decide +kernel) ⟨Nat.le_of_ble_eq_true rfl, Nat.le_of_ble_eq_true rfl⟩ rfl rfl hl.1 (Nat.le_of_ble_eq_true rfl) dL_act_654 (by first | exact ⟨Nat.le_of_ble_eq_true rfl, Nat.le_of_ble_eq_true rfl⟩ | (refine ⟨?_, ?_⟩ <;> ((try dsimp only); omega)))) (fun x0 H locs hp hw => ?_)
  obtain ⟨c3, hc3, ej⟩ := hp
  subst ej
  refine lv_if_ne (tgt := 665) hx hb dL_act_657 (by decide) (fun hz => ?_) (fun hz => ?_)
  · refine lv_iconst (v := 5) hx hb dL_act_665 (by decide) ?_
    refine ncall_i hc hw (nrunS (n := 2) (As := [.int (x >>> ((6 : Int32) &&& 31)), .int 5]) (rest := [.int 1]) hc hw (metL_below l G _ (_) 5 (by decide)) gL_act_L_below rfl (by decide +kernel) ⟨Nat.le_of_ble_eq_true rfl, Nat.le_of_ble_eq_true rfl⟩ rfl rfl hl.1 (Nat.le_of_ble_eq_true rfl) dL_act_666 (by first | exact ⟨Nat.le_of_ble_eq_true rfl, Nat.le_of_ble_eq_true rfl⟩ | (refine ⟨?_, ?_⟩ <;> ((try dsimp only); omega)))) (fun x0 H locs hp hw => ?_)
    obtain ⟨k, hk, ej⟩ := hp
    subst ej
    obtain ⟨e1, e2, e3⟩ := l1k hk (by decide)
    refine lv_iadd hx hb dL_act_669 ?_
    rw [e1]
    refine lv_istore (lv' := [(7, .int (nI (1 + k))), (6, .int (-9)), (4, .int (nI pp)), (3, .int (nI n)), (0, .ref (a 0)), (1, .ref aS), (2, .int x)]) hx hb dL_act_670 hl (by decide) rfl (fun ls hl => ?_)
    rcases cB_6 hB with ⟨h6, h3⟩ | ⟨g6, h6, hg6, h3, h6n⟩
    · refine lv_aload_n hx hb dL_act_672 rfl (lv_at hl 5 rfl) ?_
      refine pget (C := RX4) (T := TX4) (N := 14) (ci := 4) hc hw inL_act_X4 hO rfl 6 (by decide) lkL_act_f73 rfl rfl dL_act_673 ?_
      refine lv_if_lt (tgt := 687) hx hb dL_act_676 (by decide) (fun hz6 => ?_) (fun h => absurd (show v 6 < 0 by rw [h6]; decide) h)
      refine lv_aload_n hx hb dL_act_687 rfl (lv_at hl 4 rfl) ?_
      refine lv_iload hx hb dL_act_688 (lv_at hl 0 rfl) ?_
      have t3 := (show (FX3_goOn (z 1) (z 2) (z 3) (z 4) (z 5) (z 6) (z 7) (z 8) (z 9) (z 10) (r 6) (r 7) (r 8) (r 9) (r 10) (z 0) (r 0) (r 1) (r 2) (r 3) (r 4) (r 5) u.1 (nI (1 + k))).1 = 3 by rw [h3]; exact congrArg Prod.fst (t_goOn (by omega)))
      refine ccallX_i hc hw (crunVX (n := 1) (As := [.int (nI (1 + k))]) (rest := []) hc hw (kX_goOn hst _ a z r u _ hH (k0 := 3) (by decide) t3) gL_act_X3_goOn rfl (by decide +kernel) ⟨Nat.le_of_ble_eq_true rfl, Nat.le_of_ble_eq_true rfl⟩ 0 rfl rfl rfl rfl hl.1 (Nat.le_of_ble_eq_true rfl) dL_act_690 (by first | exact ⟨Nat.le_of_ble_eq_true rfl, Nat.le_of_ble_eq_true rfl⟩ | (refine ⟨?_, ?_⟩ <;> ((try dsimp only); omega)))) (fun E ce q9 H locs hpx hw h9 hv9 hc9 => ?_) (fun x0 w1 H locs hp hw => hp.elim)
      have hE := lIS t3 hpx
      subst hE
      refine lcatch (own := RL) hc [⟨116, 122, 125, 30⟩, ⟨212, 224, 227, 30⟩, ⟨544, 550, 553, 30⟩, ⟨614, 622, 625, 30⟩] ⟨687, 695, 698, 30⟩ [] ht rfl rfl (by decide) lkL_act_c30 (by decide +kernel) h9 hv9 hc9 ?_
      refine lv_astore (lv' := [(8, .ref q9), (7, .int (nI (1 + k))), (6, .int (-9)), (4, .int (nI pp)), (3, .int (nI n)), (0, .ref (a 0)), (1, .ref aS), (2, .int x)]) hx hb dL_act_698 hl (by decide) rfl (fun ls hl => ?_)
      refine lv_bipush (v := (-9)) hx hb dL_act_700 (by decide) ?_
      refine lv_istore (lv' := [(5, .int (-9)), (8, .ref q9), (7, .int (nI (1 + k))), (6, .int (-9)), (4, .int (nI pp)), (3, .int (nI n)), (0, .ref (a 0)), (1, .ref aS), (2, .int x)]) hx hb dL_act_702 hl (by decide) rfl (fun ls hl => ?_)
      refine lv_iload hx hb dL_act_704 (lv_at hl 0 rfl) ?_
      refine lv_iload hx hb dL_act_706 (lv_at hl 3 rfl) ?_
      refine lv_icmp_ne (tgt := 715) hx hb dL_act_708 (by decide) (fun h => absurd rfl h) (fun hz3 => ?_)
      refine lv_iconst (v := 1) hx hb dL_act_711 (by decide) ?_
      refine lv_goto (tgt := 716) hx hb dL_act_712 (by decide) ?_
      exact xret_z (wn := lWN G a) ((z, r, u), (L, f)) hc hw rfl ⟨rfl, _, _, _, _, _, _, _, _, _, _, _, cB_up (hB) (by omega) (by omega), hS⟩ (by first | exact ⟨Nat.le_of_ble_eq_true rfl, Nat.le_of_ble_eq_true rfl⟩ | (refine ⟨?_, ?_⟩ <;> ((try dsimp only); omega))) dL_act_716
    · obtain ⟨rs, q, hA0⟩ := id hB
      refine lv_aload_n hx hb dL_act_672 rfl (lv_at hl 5 rfl) ?_
      refine pget (C := RX4) (T := TX4) (N := 14) (ci := 4) hc hw inL_act_X4 hO rfl 6 (by decide) lkL_act_f73 rfl rfl dL_act_673 ?_
      refine lv_if_lt (tgt := 687) hx hb dL_act_676 (by decide) (fun h => absurd h h6n) (fun hz6 => ?_)
      refine lv_aload_n hx hb dL_act_679 rfl (lv_at hl 5 rfl) ?_
      refine lv_iload hx hb dL_act_680 (lv_at hl 0 rfl) ?_
      refine pcall_i hc hw (prunV (n := 1) (As := [.int (nI (1 + k))]) (rest := []) hc hw (metS_go l G _ _ _ aS v n xn xr nr rw _ ak wl wy mp mm (1 + k) hS (by omega) _ _ (rG_J (cA_L hA0) hn4 hNB.2) hH.2.2.2.2.1 (a_rG hA0)) gL_act_X4_go rfl (by decide +kernel) ⟨Nat.le_of_ble_eq_true rfl, Nat.le_of_ble_eq_true rfl⟩ hO rfl rfl rfl hl.1 (Nat.le_of_ble_eq_true rfl) dL_act_682 (by first | exact ⟨Nat.le_of_ble_eq_true rfl, Nat.le_of_ble_eq_true rfl⟩ | (refine ⟨?_, ?_⟩ <;> ((try dsimp only); omega)))) (fun x6 L1 f1 H locs hp hw => ?_)
      obtain ⟨i, v2, rw2, ak2, wl2, wy2, mp2, mm2, e6, hi, hE9, hS1⟩ := hp
      subst e6
      refine lv_istore (lv' := [(6, .int (nI i)), (7, .int (nI (1 + k))), (4, .int (nI pp)), (3, .int (nI n)), (0, .ref (a 0)), (1, .ref aS), (2, .int x)]) hx hb dL_act_685 hl (by decide) rfl (fun ls hl => ?_)
      refine lv_aload_n hx hb dL_act_687 rfl (lv_at hl 4 rfl) ?_
      refine lv_iload hx hb dL_act_688 (lv_at hl 1 rfl) ?_
      refine ccall_i hc hw (crunV (n := 1) (As := [.int (nI (1 + k))]) (rest := []) hc hw (kk_goOn hst hA0 h3 (by omega) (K := 1 + k) (by omega) hi hE9) gL_act_X3_goOn rfl (by decide +kernel) ⟨Nat.le_of_ble_eq_true rfl, Nat.le_of_ble_eq_true rfl⟩ 0 rfl rfl rfl rfl hl.1 (Nat.le_of_ble_eq_true rfl) dL_act_690 (by first | exact ⟨Nat.le_of_ble_eq_true rfl, Nat.le_of_ble_eq_true rfl⟩ | (refine ⟨?_, ?_⟩ <;> ((try dsimp only); omega)))) (fun x0 w1 H locs hp hw => ?_)
      obtain ⟨z2, r2, u2⟩ := w1
      have hw : xW G (va_A w0 sz) s.heap (cW G a z2 r2 u2 ++ va_pl L1 f1) H locs := hw
      obtain ⟨ex, hr2, -, -, ur3, uk3, uy3, xe3, sg3, hB2⟩ := hp
      subst ex
      refine lv_istore (lv' := [(5, .int (nI i)), (6, .int (nI i)), (7, .int (nI (1 + k))), (4, .int (nI pp)), (3, .int (nI n)), (0, .ref (a 0)), (1, .ref aS), (2, .int x)]) hx hb dL_act_693 hl (by decide) rfl (fun ls hl => ?_)
      refine lv_goto (tgt := 704) hx hb dL_act_695 (by decide) ?_
      refine lv_iload hx hb dL_act_704 (lv_at hl 0 rfl) ?_
      refine lv_iload hx hb dL_act_706 (lv_at hl 1 rfl) ?_
      refine lv_icmp_ne (tgt := 715) hx hb dL_act_708 (by decide) (fun h => absurd rfl h) (fun hz3 => ?_)
      refine lv_iconst (v := 1) hx hb dL_act_711 (by decide) ?_
      refine lv_goto (tgt := 716) hx hb dL_act_712 (by decide) ?_
      exact xret_z (wn := lWN G a) ((z2, r2, u2), (L1, f1)) hc hw rfl ⟨rfl, _, _, _, _, _, _, _, _, _, _, _, cB_up (⟨_, _, hB2⟩) (by omega) (by omega), Sh_r hS1 hr2⟩ (by first | exact ⟨Nat.le_of_ble_eq_true rfl, Nat.le_of_ble_eq_true rfl⟩ | (refine ⟨?_, ?_⟩ <;> ((try dsimp only); omega))) dL_act_716
  · refine lv_bipush (v := 100) hx hb dL_act_660 (by decide) ?_
    refine lv_goto (tgt := 666) hx hb dL_act_662 (by decide) ?_
    refine ncall_i hc hw (nrunS (n := 2) (As := [.int (x >>> ((6 : Int32) &&& 31)), .int 100]) (rest := [.int 1]) hc hw (metL_below l G _ (_) 100 (by decide)) gL_act_L_below rfl (by decide +kernel) ⟨Nat.le_of_ble_eq_true rfl, Nat.le_of_ble_eq_true rfl⟩ rfl rfl hl.1 (Nat.le_of_ble_eq_true rfl) dL_act_666 (by first | exact ⟨Nat.le_of_ble_eq_true rfl, Nat.le_of_ble_eq_true rfl⟩ | (refine ⟨?_, ?_⟩ <;> ((try dsimp only); omega)))) (fun x0 H locs hp hw => ?_)
    obtain ⟨k, hk, ej⟩ := hp
    subst ej
    obtain ⟨e1, e2, e3⟩ := l1k hk (by decide)
    refine lv_iadd hx hb dL_act_669 ?_
    rw [e1]
    refine lv_istore (lv' := [(7, .int (nI (1 + k))), (6, .int (-9)), (4, .int (nI pp)), (3, .int (nI n)), (0, .ref (a 0)), (1, .ref aS), (2, .int x)]) hx hb dL_act_670 hl (by decide) rfl (fun ls hl => ?_)
    rcases cB_6 hB with ⟨h6, h3⟩ | ⟨g6, h6, hg6, h3, h6n⟩
    · refine lv_aload_n hx hb dL_act_672 rfl (lv_at hl 5 rfl) ?_
      refine pget (C := RX4) (T := TX4) (N := 14) (ci := 4) hc hw inL_act_X4 hO rfl 6 (by decide) lkL_act_f73 rfl rfl dL_act_673 ?_
      refine lv_if_lt (tgt := 687) hx hb dL_act_676 (by decide) (fun hz6 => ?_) (fun h => absurd (show v 6 < 0 by rw [h6]; decide) h)
      refine lv_aload_n hx hb dL_act_687 rfl (lv_at hl 4 rfl) ?_
      refine lv_iload hx hb dL_act_688 (lv_at hl 0 rfl) ?_
      have t3 := (show (FX3_goOn (z 1) (z 2) (z 3) (z 4) (z 5) (z 6) (z 7) (z 8) (z 9) (z 10) (r 6) (r 7) (r 8) (r 9) (r 10) (z 0) (r 0) (r 1) (r 2) (r 3) (r 4) (r 5) u.1 (nI (1 + k))).1 = 3 by rw [h3]; exact congrArg Prod.fst (t_goOn (by omega)))
      refine ccallX_i hc hw (crunVX (n := 1) (As := [.int (nI (1 + k))]) (rest := []) hc hw (kX_goOn hst _ a z r u _ hH (k0 := 3) (by decide) t3) gL_act_X3_goOn rfl (by decide +kernel) ⟨Nat.le_of_ble_eq_true rfl, Nat.le_of_ble_eq_true rfl⟩ 0 rfl rfl rfl rfl hl.1 (Nat.le_of_ble_eq_true rfl) dL_act_690 (by first | exact ⟨Nat.le_of_ble_eq_true rfl, Nat.le_of_ble_eq_true rfl⟩ | (refine ⟨?_, ?_⟩ <;> ((try dsimp only); omega)))) (fun E ce q9 H locs hpx hw h9 hv9 hc9 => ?_) (fun x0 w1 H locs hp hw => hp.elim)
      have hE := lIS t3 hpx
      subst hE
      refine lcatch (own := RL) hc [⟨116, 122, 125, 30⟩, ⟨212, 224, 227, 30⟩, ⟨544, 550, 553, 30⟩, ⟨614, 622, 625, 30⟩] ⟨687, 695, 698, 30⟩ [] ht rfl rfl (by decide) lkL_act_c30 (by decide +kernel) h9 hv9 hc9 ?_
      refine lv_astore (lv' := [(8, .ref q9), (7, .int (nI (1 + k))), (6, .int (-9)), (4, .int (nI pp)), (3, .int (nI n)), (0, .ref (a 0)), (1, .ref aS), (2, .int x)]) hx hb dL_act_698 hl (by decide) rfl (fun ls hl => ?_)
      refine lv_bipush (v := (-9)) hx hb dL_act_700 (by decide) ?_
      refine lv_istore (lv' := [(5, .int (-9)), (8, .ref q9), (7, .int (nI (1 + k))), (6, .int (-9)), (4, .int (nI pp)), (3, .int (nI n)), (0, .ref (a 0)), (1, .ref aS), (2, .int x)]) hx hb dL_act_702 hl (by decide) rfl (fun ls hl => ?_)
      refine lv_iload hx hb dL_act_704 (lv_at hl 0 rfl) ?_
      refine lv_iload hx hb dL_act_706 (lv_at hl 3 rfl) ?_
      refine lv_icmp_ne (tgt := 715) hx hb dL_act_708 (by decide) (fun h => absurd rfl h) (fun hz3 => ?_)
      refine lv_iconst (v := 1) hx hb dL_act_711 (by decide) ?_
      refine lv_goto (tgt := 716) hx hb dL_act_712 (by decide) ?_
      exact xret_z (wn := lWN G a) ((z, r, u), (L, f)) hc hw rfl ⟨rfl, _, _, _, _, _, _, _, _, _, _, _, cB_up (hB) (by omega) (by omega), hS⟩ (by first | exact ⟨Nat.le_of_ble_eq_true rfl, Nat.le_of_ble_eq_true rfl⟩ | (refine ⟨?_, ?_⟩ <;> ((try dsimp only); omega))) dL_act_716
    · obtain ⟨rs, q, hA0⟩ := id hB
      refine lv_aload_n hx hb dL_act_672 rfl (lv_at hl 5 rfl) ?_
      refine pget (C := RX4) (T := TX4) (N := 14) (ci := 4) hc hw inL_act_X4 hO rfl 6 (by decide) lkL_act_f73 rfl rfl dL_act_673 ?_
      refine lv_if_lt (tgt := 687) hx hb dL_act_676 (by decide) (fun h => absurd h h6n) (fun hz6 => ?_)
      refine lv_aload_n hx hb dL_act_679 rfl (lv_at hl 5 rfl) ?_
      refine lv_iload hx hb dL_act_680 (lv_at hl 0 rfl) ?_
      refine pcall_i hc hw (prunV (n := 1) (As := [.int (nI (1 + k))]) (rest := []) hc hw (metS_go l G _ _ _ aS v n xn xr nr rw _ ak wl wy mp mm (1 + k) hS (by omega) _ _ (rG_J (cA_L hA0) hn4 hNB.2) hH.2.2.2.2.1 (a_rG hA0)) gL_act_X4_go rfl (by decide +kernel) ⟨Nat.le_of_ble_eq_true rfl, Nat.le_of_ble_eq_true rfl⟩ hO rfl rfl rfl hl.1 (Nat.le_of_ble_eq_true rfl) dL_act_682 (by first | exact ⟨Nat.le_of_ble_eq_true rfl, Nat.le_of_ble_eq_true rfl⟩ | (refine ⟨?_, ?_⟩ <;> ((try dsimp only); omega)))) (fun x6 L1 f1 H locs hp hw => ?_)
      obtain ⟨i, v2, rw2, ak2, wl2, wy2, mp2, mm2, e6, hi, hE9, hS1⟩ := hp
      subst e6
      refine lv_istore (lv' := [(6, .int (nI i)), (7, .int (nI (1 + k))), (4, .int (nI pp)), (3, .int (nI n)), (0, .ref (a 0)), (1, .ref aS), (2, .int x)]) hx hb dL_act_685 hl (by decide) rfl (fun ls hl => ?_)
      refine lv_aload_n hx hb dL_act_687 rfl (lv_at hl 4 rfl) ?_
      refine lv_iload hx hb dL_act_688 (lv_at hl 1 rfl) ?_
      refine ccall_i hc hw (crunV (n := 1) (As := [.int (nI (1 + k))]) (rest := []) hc hw (kk_goOn hst hA0 h3 (by omega) (K := 1 + k) (by omega) hi hE9) gL_act_X3_goOn rfl (by decide +kernel) ⟨Nat.le_of_ble_eq_true rfl, Nat.le_of_ble_eq_true rfl⟩ 0 rfl rfl rfl rfl hl.1 (Nat.le_of_ble_eq_true rfl) dL_act_690 (by first | exact ⟨Nat.le_of_ble_eq_true rfl, Nat.le_of_ble_eq_true rfl⟩ | (refine ⟨?_, ?_⟩ <;> ((try dsimp only); omega)))) (fun x0 w1 H locs hp hw => ?_)
      obtain ⟨z2, r2, u2⟩ := w1
      have hw : xW G (va_A w0 sz) s.heap (cW G a z2 r2 u2 ++ va_pl L1 f1) H locs := hw
      obtain ⟨ex, hr2, -, -, ur3, uk3, uy3, xe3, sg3, hB2⟩ := hp
      subst ex
      refine lv_istore (lv' := [(5, .int (nI i)), (6, .int (nI i)), (7, .int (nI (1 + k))), (4, .int (nI pp)), (3, .int (nI n)), (0, .ref (a 0)), (1, .ref aS), (2, .int x)]) hx hb dL_act_693 hl (by decide) rfl (fun ls hl => ?_)
      refine lv_goto (tgt := 704) hx hb dL_act_695 (by decide) ?_
      refine lv_iload hx hb dL_act_704 (lv_at hl 0 rfl) ?_
      refine lv_iload hx hb dL_act_706 (lv_at hl 1 rfl) ?_
      refine lv_icmp_ne (tgt := 715) hx hb dL_act_708 (by decide) (fun h => absurd rfl h) (fun hz3 => ?_)
      refine lv_iconst (v := 1) hx hb dL_act_711 (by decide) ?_
      refine lv_goto (tgt := 716) hx hb dL_act_712 (by decide) ?_
      exact xret_z (wn := lWN G a) ((z2, r2, u2), (L1, f1)) hc hw rfl ⟨rfl, _, _, _, _, _, _, _, _, _, _, _, cB_up (⟨_, _, hB2⟩) (by omega) (by omega), Sh_r hS1 hr2⟩ (by first | exact ⟨Nat.le_of_ble_eq_true rfl, Nat.le_of_ble_eq_true rfl⟩ | (refine ⟨?_, ?_⟩ <;> ((try dsimp only); omega))) dL_act_716
set_option maxHeartbeats 40000000 in
set_option maxRecDepth 100000 in
theorem metL_act (l : Launch) (G : xG) (hst : l.stackTraces = false) (sz : Nat) (a : Nat → Nat) (aS : Nat) (u : cU) (L : List Nat) (f : Nat → va_E) {N : Nat} {B : Int} {z : Nat → Int32} {r : Nat → Nat → Int32} {n : Nat} {xn : Nat → Nat} {xr : Nat → Nat → Int32} {nr : Nat} {v : Nat → Int32} {rw : Nat → Nat → Int32} {ak : Nat → Int32} {wl : Nat} {wy : Nat → Nat → Int32} {mp : Nat → Nat → Bool} {mm : Nat → Nat → Nat → Int32} (hB : cB N B z r n xn xr nr v rw ak wl wy mp mm) (hS : Sh G L f aS v n xn xr nr rw (r 1) ak wl wy mp mm) (hNB : N < 100000 ∧ 0 ≤ B ∧ B ≤ 1000000) (x : Int32) : xM l yL_act wsL_act ⟨8, 3010, 13720, 172⟩ G [.ref (a 0), .ref aS, .int x] (cW G a z r u ++ va_pl L f) sz (xQi G (cW G a z r u ++ va_pl L f) sz (fun (x0 : Int32) (w : lS) => x0 = 1 ∧ lZ (N + 1) (B + 400) G aS w) (lWN G a)) := by
  refine xofW (own := RL) (cc := cL_act) (maxL := 10) (ret := (some .boolean)) (hh := [(116, 122, 125, 30), (212, 224, 227, 30), (544, 550, 553, 30), (614, 622, 625, 30), (687, 695, 698, 30)]) rfl (by decide) rfl (Nat.le_of_ble_eq_true rfl) ?_
  intro pg en s mi below meth cd hc ht hw ls hl
  obtain ⟨hx, hb, -, hown, hts, -⟩ := id hc
  have hl : lv_has ls 10 [(0, .ref (a 0)), (1, .ref aS), (2, .int x)] := hl
  obtain ⟨hn1, hn2, hn3, hn4, hn5⟩ := cB_n hB
  obtain ⟨ad, oo, om, hO, hA⟩ := id hS
  have hE1 := hA.2.1.1
  have hO : objS L f aS 4 [.ref (ad 0), .ref (ad 1), .ref (ad 2), .ref (ad 3), .int (v 4), .int (v 5), .int (v 6), .ref (ad 4), .ref (ad 5), .int (v 9), .int (v 10), .int (v 11), .int (v 12), .int (v 13)] := hO
  refine lv_aload_n hx hb dL_act_0 rfl (lv_at hl 1 rfl) ?_
  refine pget (C := RX4) (T := TX4) (N := 14) (ci := 4) hc hw inL_act_X4 hO rfl 1 (by decide) lkL_act_f9 rfl rfl dL_act_1 ?_
  refine plenA hc hw hE1 dL_act_4 ?_
  refine lv_istore_n (lv' := [(3, .int (nI n)), (0, .ref (a 0)), (1, .ref aS), (2, .int x)]) hx hb dL_act_5 rfl hl (by decide) rfl (fun ls hl => ?_)
  refine lv_iload_n hx hb dL_act_6 rfl (lv_at hl 3 rfl) ?_
  refine lv_iconst (v := 4) hx hb dL_act_7 (by decide) ?_
  refine lv_ishr hx hb dL_act_8 ?_
  refine lv_iload_n hx hb dL_act_9 rfl (lv_at hl 0 rfl) ?_
  refine ncall_i hc hw (nrunS (n := 2) (As := [.int (x >>> ((4 : Int32) &&& 31)), .int (nI n)]) (rest := []) hc hw (metL_below l G _ (_) n (⟨hn3, by omega⟩)) gL_act_L_below rfl (by decide +kernel) ⟨Nat.le_of_ble_eq_true rfl, Nat.le_of_ble_eq_true rfl⟩ rfl rfl hl.1 (Nat.le_of_ble_eq_true rfl) dL_act_10 (by first | exact ⟨Nat.le_of_ble_eq_true rfl, Nat.le_of_ble_eq_true rfl⟩ | (refine ⟨?_, ?_⟩ <;> ((try dsimp only); omega)))) (fun x0 H locs hp hw => ?_)
  obtain ⟨pp, hpp, ej⟩ := hp
  subst ej
  refine lv_istore (lv' := [(4, .int (nI pp)), (3, .int (nI n)), (0, .ref (a 0)), (1, .ref aS), (2, .int x)]) hx hb dL_act_13 hl (by decide) rfl (fun ls hl => ?_)
  refine lv_bipush (v := (-9)) hx hb dL_act_15 (by decide) ?_
  refine lv_istore (lv' := [(6, .int (-9)), (4, .int (nI pp)), (3, .int (nI n)), (0, .ref (a 0)), (1, .ref aS), (2, .int x)]) hx hb dL_act_17 hl (by decide) rfl (fun ls hl => ?_)
  refine lv_iload_n hx hb dL_act_19 rfl (lv_at hl 5 rfl) ?_
  refine lv_bipush (v := 18) hx hb dL_act_20 (by decide) ?_
  refine ncall_i hc hw (nrunS (n := 2) (As := [.int x, .int 18]) (rest := []) hc hw (metL_below l G _ (_) 18 (by decide)) gL_act_L_below rfl (by decide +kernel) ⟨Nat.le_of_ble_eq_true rfl, Nat.le_of_ble_eq_true rfl⟩ rfl rfl hl.1 (Nat.le_of_ble_eq_true rfl) dL_act_22 (by first | exact ⟨Nat.le_of_ble_eq_true rfl, Nat.le_of_ble_eq_true rfl⟩ | (refine ⟨?_, ?_⟩ <;> ((try dsimp only); omega)))) (fun x0 H locs hp hw => ?_)
  obtain ⟨k, hk, ej⟩ := hp
  subst ej
  have hl : lv_has ls 10 [(6, .int (-9)), (4, .int (nI pp)), (3, .int (nI n)), (0, .ref (a 0)), (1, .ref aS), (2, .int x)] := lv_sub hl [0, 1, 2, 3, 4, 5] rfl
  rcases Nat.lt_or_ge k 13 with h13 | h13
  · have e0 : (nI k).toInt = k := nI_toInt (by omega)
    rcases (by omega : k = 0 ∨ k = 1 ∨ k = 2 ∨ k = 3 ∨ k = 4 ∨ k = 5 ∨ k = 6 ∨ k = 7 ∨ k = 8 ∨ k = 9 ∨ k = 10 ∨ k = 11 ∨ k = 12) with e | e | e | e | e | e | e | e | e | e | e | e | e
    · subst e
      exact lv_tableIn (off := 67) (tgt := 92) hx hb dL_act_25 (by decide +kernel) (by decide +kernel) (by decide +kernel) (by decide) (act_0 hst hc ht hB hS hNB hpp hl hw)
    · subst e
      exact lv_tableIn (off := 119) (tgt := 144) hx hb dL_act_25 (by decide +kernel) (by decide +kernel) (by decide +kernel) (by decide) (act_1 hst hc ht hB hS hNB hpp hl hw)
    · subst e
      exact lv_tableIn (off := 119) (tgt := 144) hx hb dL_act_25 (by decide +kernel) (by decide +kernel) (by decide +kernel) (by decide) (act_1 hst hc ht hB hS hNB hpp hl hw)
    · subst e
      exact lv_tableIn (off := 221) (tgt := 246) hx hb dL_act_25 (by decide +kernel) (by decide +kernel) (by decide +kernel) (by decide) (act_3 hst hc ht hB hS hNB hpp hl hw)
    · subst e
      exact lv_tableIn (off := 221) (tgt := 246) hx hb dL_act_25 (by decide +kernel) (by decide +kernel) (by decide +kernel) (by decide) (act_3 hst hc ht hB hS hNB hpp hl hw)
    · subst e
      exact lv_tableIn (off := 308) (tgt := 333) hx hb dL_act_25 (by decide +kernel) (by decide +kernel) (by decide +kernel) (by decide) (act_5 hst hc ht hB hS hNB hpp hl hw)
    · subst e
      exact lv_tableIn (off := 352) (tgt := 377) hx hb dL_act_25 (by decide +kernel) (by decide +kernel) (by decide +kernel) (by decide) (act_6 hst hc ht hB hS hNB hpp hl hw)
    · subst e
      exact lv_tableIn (off := 415) (tgt := 440) hx hb dL_act_25 (by decide +kernel) (by decide +kernel) (by decide +kernel) (by decide) (act_7 hst hc ht hB hS hNB hpp hl hw)
    · subst e
      exact lv_tableIn (off := 488) (tgt := 513) hx hb dL_act_25 (by decide +kernel) (by decide +kernel) (by decide +kernel) (by decide) (act_8 hst hc ht hB hS hNB hpp hl hw)
    · subst e
      exact lv_tableIn (off := 547) (tgt := 572) hx hb dL_act_25 (by decide +kernel) (by decide +kernel) (by decide +kernel) (by decide) (act_9 hst hc ht hB hS hNB hpp hl hw)
    · subst e
      exact lv_tableIn (off := 547) (tgt := 572) hx hb dL_act_25 (by decide +kernel) (by decide +kernel) (by decide +kernel) (by decide) (act_9 hst hc ht hB hS hNB hpp hl hw)
    · subst e
      exact lv_tableIn (off := 547) (tgt := 572) hx hb dL_act_25 (by decide +kernel) (by decide +kernel) (by decide +kernel) (by decide) (act_9 hst hc ht hB hS hNB hpp hl hw)
    · subst e
      exact lv_tableIn (off := 547) (tgt := 572) hx hb dL_act_25 (by decide +kernel) (by decide +kernel) (by decide +kernel) (by decide) (act_9 hst hc ht hB hS hNB hpp hl hw)
  · exact lv_tableOut (tgt := 644) hx hb dL_act_25 (Or.inr (by rw [nI_toInt (by omega)]; omega)) (by decide) (act_13 hst hc ht hB hS hNB hpp hl hw)
