theorem lkX4_more_c7 : Cond.classLink RX4 7 "[I" ∈ wsX4_more := List.mem_of_getElem? (i := 1) (by decide +kernel)
theorem lkX4_more__aI : Cond.arrayClass .int ∈ wsX4_more_ := List.mem_of_getElem? (i := 1) (by decide +kernel)
/-! the second carrier: rows with one more, places, roads, the end and the start of an errand -/
theorem pk.off {L L1 L2 : List Nat} {f f1 f2 : Nat → va_E} {r : Nat} (h : pk (fun _ => False) L f L1 f1) (hr : r ∉ L) (k : pk (fun b => b = r) L1 f1 L2 f2) : pk (fun _ => False) L f L2 f2 := fun b hb => ⟨(k b (h b hb).1).1, fun _ => ((k b (h b hb).1).2 (fun e => hr (e ▸ hb))).trans ((h b hb).2 (fun z => z))⟩
theorem xlI {a b : Nat} (h : ¬ nI b ≤ nI a) (ha : a < 2 ^ 31) : a < b := Nat.not_le.mp fun z => h (nI_le z ha)
theorem nI_s1 (k : Nat) : nI k + 1 = nI (k + 1) := by rw [← nI_1]
set_option maxHeartbeats 40000000 in
set_option maxRecDepth 100000 in
theorem lpS_more {p : Program} {l : Launch} {e : Env} {R : Room} {s : State} {m : MethodId} {args : Array Value} {below : List Frame} {meth : Method} {c : Code} {cells slots : Nat} {Q : State → Prop} {ret : Option FieldType} {G : xG} {A : Nat → Prop} (hc : xC p s m args meth c cX4_more 4 RX4 wsX4_more ret G A) {L : List Nat} {f0 : Nat → va_E} {a n q mq r : Nat} {gq : Nat → Int32} {o : Nat → Option Nat} (hn : n ≤ 40) (hne : ¬ a = r)
    (kx : ∀ (f : Nat → va_E) (H : Heap) (locs : List Loc) (ls : Array Slot) (o1 : Nat → Option Nat), rowA G L f a n o → (∀ j, j < n → ∃ b m g, o j = some b ∧ rowI G L f b m g) → rowI G L f q mq gq → rowA G L f r (n + 1) o1 → (∀ j, j < n → o1 j = o j) → pk (fun b => b = r) L f0 L f → lv_has ls 4 [(2, .ref r), (0, .ref a), (1, .ref q)] → xW G A s.heap (([] : va_W) ++ va_pl L f) H locs → W p l e R s m args below meth c H locs cells slots Q (F0 m 28 ls [])) :
    ∀ (d i : Nat), i + d = n → ∀ (f : Nat → va_E) (H : Heap) (locs : List Loc) (ls : Array Slot), rowA G L f a n o → (∀ j, j < n → ∃ b m g, o j = some b ∧ rowI G L f b m g) → rowI G L f q mq gq → (∃ o1, rowA G L f r (n + 1) o1 ∧ ∀ j, j < i → o1 j = o j) → pk (fun b => b = r) L f0 L f → lv_has ls 4 [(3, .int (nI i)), (2, .ref r), (0, .ref a), (1, .ref q)] → xW G A s.heap (([] : va_W) ++ va_pl L f) H locs → W p l e R s m args below meth c H locs cells slots Q (F0 m 10 ls []) := by
  obtain ⟨hx, hb, -, hown, hts, -⟩ := id hc
  intro d
  induction d with
  | zero =>
    intro i hd f H locs ls ha hrow hq hr k0 hl hw
    refine lv_iload_n hx hb dX4_more_10 rfl (lv_at hl 0 rfl) ?_
    refine lv_aload_n hx hb dX4_more_11 rfl (lv_at hl 2 rfl) ?_
    refine plenA hc hw ha dX4_more_12 ?_
    refine lv_icmp_ge (tgt := 28) hx hb dX4_more_13 (by decide) (fun hz => ?_) (fun h => absurd (nI_le (by omega) (by omega)) h)
    obtain ⟨o1, r1, r2⟩ := hr
    exact kx f H locs ls o1 ha hrow hq r1 (fun j hj => r2 j (by omega)) k0 (lv_sub hl [1, 2, 3] rfl) hw
  | succ d ih =>
    intro i hd f H locs ls ha hrow hq hr k0 hl hw
    obtain ⟨o1, r1, r2⟩ := hr
    obtain ⟨b, mb, gb, hb1, hb2⟩ := hrow i (by omega)
    refine lv_iload_n hx hb dX4_more_10 rfl (lv_at hl 0 rfl) ?_
    refine lv_aload_n hx hb dX4_more_11 rfl (lv_at hl 2 rfl) ?_
    refine plenA hc hw ha dX4_more_12 ?_
    refine lv_icmp_ge (tgt := 28) hx hb dX4_more_13 (by decide) (fun h => absurd h (nI_ge (by omega) (by omega))) (fun hz => ?_)
    refine lv_aload_n hx hb dX4_more_16 rfl (lv_at hl 1 rfl) ?_
    refine lv_iload_n hx hb dX4_more_17 rfl (lv_at hl 0 rfl) ?_
    refine lv_aload_n hx hb dX4_more_18 rfl (lv_at hl 2 rfl) ?_
    refine lv_iload_n hx hb dX4_more_19 rfl (lv_at hl 0 rfl) ?_
    refine pald hc hw ha i rfl (by omega) (by omega) (v := .ref b) (by rw [hb1]; rfl) dX4_more_20 ?_
    refine past hc hw r1 i rfl (by omega) (by omega) hb2 dX4_more_21 (fun f H locs k r9 hw => ?_)
    refine lv_iinc (v := nI (i + 1)) (lv' := [(3, .int (nI (i + 1))), (2, .ref r), (0, .ref a), (1, .ref q)]) hx hb dX4_more_22 hl (k := 0) rfl (nI_1 _) (by decide) rfl (fun ls hl => ?_)
    refine lv_goto (tgt := 10) hx hb dX4_more_25 (by decide) ?_
    refine ih (i + 1) (by omega) f H locs ls (ha.kp k hne) (fun j hj => ?_) (hq.kp k (hq.neA r1)) ⟨_, r9, fun j hj => ?_⟩ (k0.tr k) hl hw
    · obtain ⟨b', m', g', e1, e2⟩ := hrow j hj
      exact ⟨b', m', g', e1, e2.kp k (e2.neA r1)⟩
    · by_cases ej : j = i
      · subst ej; rw [va_up_self, hb1]
      · rw [va_up_ne _ _ ej]; exact r2 j (by omega)
set_option maxHeartbeats 40000000 in
set_option maxRecDepth 100000 in
theorem metS_more (l : Launch) (G : xG) (sz : Nat) (L : List Nat) (f : Nat → va_E) (a n q mq : Nat) (gq : Nat → Int32) (o : Nat → Option Nat) (hn : n ≤ 40) (ha : rowA G L f a n o) (hrow : ∀ j, j < n → ∃ b m g, o j = some b ∧ rowI G L f b m g) (hq : rowI G L f q mq gq) : pMr l yX4_more wsX4_more ⟨0, 1, 41, 0⟩ G [.ref a, .ref q] L f sz (fun r u => r ∉ L ∧ pk (fun _ => False) L f u.1 u.2 ∧ ∃ o1, rowA G u.1 u.2 r (n + 1) o1 ∧ (∀ j, j < n → o1 j = o j) ∧ o1 n = some q) := by
  refine xof (own := RX4) (cc := cX4_more) (maxL := 4) (ret := (some (.array (.array .int)))) rfl (by decide) rfl (Nat.le_of_ble_eq_true rfl) ?_
  intro pg en s mi below meth cd hc hnm hw ls hl
  obtain ⟨hx, hb, -, hown, hts, -⟩ := id hc
  have hl : lv_has ls 4 [(0, .ref a), (1, .ref q)] := hl
  have hw : xW G _ s.heap (([] : va_W) ++ va_pl L f) s.heap [] := hw
  refine lv_aload_n hx hb dX4_more_0 rfl (lv_at hl 0 rfl) ?_
  refine plenA hc hw ha dX4_more_1 ?_
  refine lv_iconst (v := 1) hx hb dX4_more_2 (by decide) ?_
  refine lv_iadd hx hb dX4_more_3 ?_
  refine pnewA hc hw (n + 1) (nI_s1 n) (by omega) lkX4_more_c7 (by first | exact Nat.le_of_ble_eq_true rfl | ((try dsimp only); omega)) (by first | exact Nat.le_of_ble_eq_true rfl | ((try dsimp only); omega)) dX4_more_4 (fun r L1 f1 H hr k1 r1 hw => ?_)
  refine lv_astore_n (lv' := [(2, .ref r), (0, .ref a), (1, .ref q)]) hx hb dX4_more_7 rfl hl (by decide) rfl (fun ls hl => ?_)
  refine lv_iconst (v := 0) hx hb dX4_more_8 (by decide) ?_
  refine lv_istore_n (lv' := [(3, .int 0), (2, .ref r), (0, .ref a), (1, .ref q)]) hx hb dX4_more_9 rfl hl (by decide) rfl (fun ls hl => ?_)
  have hne : ¬ a = r := fun z => hr (z ▸ ha.1)
  refine lpS_more hc hn hne (fun f2 H locs ls o1 ha2 hrow2 hq2 r2 r3 k2 hl hw => ?_) n 0 (by omega) f1 _ _ ls (ha.kp k1 (fun z => z)) (fun j hj => ?_) (hq.kp k1 (fun z => z)) ⟨_, r1, fun j hj => absurd hj (by omega)⟩ pk.rf hl hw
  rotate_left
  · obtain ⟨b, mb, gb, h1, h2⟩ := hrow j hj
    exact ⟨b, mb, gb, h1, h2.kp k1 (fun z => z)⟩
  refine lv_aload_n hx hb dX4_more_28 rfl (lv_at hl 0 rfl) ?_
  refine lv_aload_n hx hb dX4_more_29 rfl (lv_at hl 1 rfl) ?_
  refine plenA hc hw ha2 dX4_more_30 ?_
  refine lv_aload_n hx hb dX4_more_31 rfl (lv_at hl 2 rfl) ?_
  refine past hc hw r2 n rfl (by omega) (by omega) hq2 dX4_more_32 (fun f H locs k3 r9 hw => ?_)
  refine lv_aload_n hx hb dX4_more_33 rfl (lv_at hl 0 rfl) ?_
  exact pret_r hc hw (⟨hr, (k1.off hr k2).off hr k3, _, r9, fun j hj => by rw [va_up_ne _ _ (by omega)]; exact r3 j hj, va_up_self _ _ _⟩) (by first | exact ⟨Nat.le_of_ble_eq_true rfl, Nat.le_of_ble_eq_true rfl⟩ | (refine ⟨?_, ?_⟩ <;> ((try dsimp only); omega))) dX4_more_34
set_option maxHeartbeats 40000000 in
set_option maxRecDepth 100000 in
theorem lpS_more_ {p : Program} {l : Launch} {e : Env} {R : Room} {s : State} {m : MethodId} {args : Array Value} {below : List Frame} {meth : Method} {c : Code} {cells slots : Nat} {Q : State → Prop} {ret : Option FieldType} {G : xG} {A : Nat → Prop} (hc : xC p s m args meth c cX4_more_ 4 RX4 wsX4_more_ ret G A) {L : List Nat} {f0 : Nat → va_E} {a n r : Nat} {x : Int32} {g : Nat → Int32} (hn : n ≤ 4) (hne : ¬ a = r)
    (kx : ∀ (f : Nat → va_E) (H : Heap) (locs : List Loc) (ls : Array Slot) (g1 : Nat → Int32), rowI G L f a n g → rowI G L f r (n + 1) g1 → (∀ j, j < n → g1 j = g j) → pk (fun b => b = r) L f0 L f → lv_has ls 4 [(2, .ref r), (0, .ref a), (1, .int x)] → xW G A s.heap (([] : va_W) ++ va_pl L f) H locs → W p l e R s m args below meth c H locs cells slots Q (F0 m 27 ls [])) :
    ∀ (d i : Nat), i + d = n → ∀ (f : Nat → va_E) (H : Heap) (locs : List Loc) (ls : Array Slot), rowI G L f a n g → (∃ g1, rowI G L f r (n + 1) g1 ∧ ∀ j, j < i → g1 j = g j) → pk (fun b => b = r) L f0 L f → lv_has ls 4 [(3, .int (nI i)), (2, .ref r), (0, .ref a), (1, .int x)] → xW G A s.heap (([] : va_W) ++ va_pl L f) H locs → W p l e R s m args below meth c H locs cells slots Q (F0 m 9 ls []) := by
  obtain ⟨hx, hb, -, hown, hts, -⟩ := id hc
  intro d
  induction d with
  | zero =>
    intro i hd f H locs ls ha hr k0 hl hw
    refine lv_iload_n hx hb dX4_more__9 rfl (lv_at hl 0 rfl) ?_
    refine lv_aload_n hx hb dX4_more__10 rfl (lv_at hl 2 rfl) ?_
    refine plenI hc hw ha dX4_more__11 ?_
    refine lv_icmp_ge (tgt := 27) hx hb dX4_more__12 (by decide) (fun hz => ?_) (fun h => absurd (nI_le (by omega) (by omega)) h)
    obtain ⟨g1, r1, r2⟩ := hr
    exact kx f H locs ls g1 ha r1 (fun j hj => r2 j (by omega)) k0 (lv_sub hl [1, 2, 3] rfl) hw
  | succ d ih =>
    intro i hd f H locs ls ha hr k0 hl hw
    obtain ⟨g1, r1, r2⟩ := hr
    refine lv_iload_n hx hb dX4_more__9 rfl (lv_at hl 0 rfl) ?_
    refine lv_aload_n hx hb dX4_more__10 rfl (lv_at hl 2 rfl) ?_
    refine plenI hc hw ha dX4_more__11 ?_
    refine lv_icmp_ge (tgt := 27) hx hb dX4_more__12 (by decide) (fun h => absurd h (nI_ge (by omega) (by omega))) (fun hz => ?_)
    refine lv_aload_n hx hb dX4_more__15 rfl (lv_at hl 1 rfl) ?_
    refine lv_iload_n hx hb dX4_more__16 rfl (lv_at hl 0 rfl) ?_
    refine lv_aload_n hx hb dX4_more__17 rfl (lv_at hl 2 rfl) ?_
    refine lv_iload_n hx hb dX4_more__18 rfl (lv_at hl 0 rfl) ?_
    refine pild hc hw ha i rfl (by omega) (by omega) (v := (g i)) rfl dX4_more__19 ?_
    refine pist hc hw r1 i rfl (by omega) (by omega) dX4_more__20 (fun f H locs k r9 hw => ?_)
    refine lv_iinc (v := nI (i + 1)) (lv' := [(3, .int (nI (i + 1))), (2, .ref r), (0, .ref a), (1, .int x)]) hx hb dX4_more__21 hl (k := 0) rfl (nI_1 _) (by decide) rfl (fun ls hl => ?_)
    refine lv_goto (tgt := 9) hx hb dX4_more__24 (by decide) ?_
    refine ih (i + 1) (by omega) f H locs ls (ha.kp k hne) ⟨_, r9, fun j hj => ?_⟩ (k0.tr k) hl hw
    by_cases ej : j = i
    · subst ej; rw [pk_us]
    · rw [pk_un ej]; exact r2 j (by omega)
set_option maxHeartbeats 40000000 in
set_option maxRecDepth 100000 in
theorem metS_more_ (l : Launch) (G : xG) (sz : Nat) (L : List Nat) (f : Nat → va_E) (a n : Nat) (x : Int32) (g : Nat → Int32) (hn : n ≤ 4) (ha : rowI G L f a n g) : pMr l yX4_more_ wsX4_more_ ⟨0, 1, 5, 0⟩ G [.ref a, .int x] L f sz (fun r u => r ∉ L ∧ pk (fun _ => False) L f u.1 u.2 ∧ ∃ g1, rowI G u.1 u.2 r (n + 1) g1 ∧ (∀ j, j < n → g1 j = g j) ∧ g1 n = x) := by
  refine xof (own := RX4) (cc := cX4_more_) (maxL := 4) (ret := (some (.array .int))) rfl (by decide) rfl (Nat.le_of_ble_eq_true rfl) ?_
  intro pg en s mi below meth cd hc hnm hw ls hl
  obtain ⟨hx, hb, -, hown, hts, -⟩ := id hc
  have hl : lv_has ls 4 [(0, .ref a), (1, .int x)] := hl
  have hw : xW G _ s.heap (([] : va_W) ++ va_pl L f) s.heap [] := hw
  refine lv_aload_n hx hb dX4_more__0 rfl (lv_at hl 0 rfl) ?_
  refine plenI hc hw ha dX4_more__1 ?_
  refine lv_iconst (v := 1) hx hb dX4_more__2 (by decide) ?_
  refine lv_iadd hx hb dX4_more__3 ?_
  refine pnewI hc hw (n + 1) (nI_s1 n) (by omega) lkX4_more__aI (by first | exact Nat.le_of_ble_eq_true rfl | ((try dsimp only); omega)) (by first | exact Nat.le_of_ble_eq_true rfl | ((try dsimp only); omega)) dX4_more__4 (fun r L1 f1 H hr k1 r1 hw => ?_)
  refine lv_astore_n (lv' := [(2, .ref r), (0, .ref a), (1, .int x)]) hx hb dX4_more__6 rfl hl (by decide) rfl (fun ls hl => ?_)
  refine lv_iconst (v := 0) hx hb dX4_more__7 (by decide) ?_
  refine lv_istore_n (lv' := [(3, .int 0), (2, .ref r), (0, .ref a), (1, .int x)]) hx hb dX4_more__8 rfl hl (by decide) rfl (fun ls hl => ?_)
  have hne : ¬ a = r := fun z => hr (z ▸ ha.1)
  refine lpS_more_ hc hn hne (fun f2 H locs ls g1 ha2 r2 r3 k2 hl hw => ?_) n 0 (by omega) f1 _ _ ls (ha.kp k1 (fun z => z)) ⟨_, r1, fun j hj => absurd hj (by omega)⟩ pk.rf hl hw
  refine lv_aload_n hx hb dX4_more__27 rfl (lv_at hl 0 rfl) ?_
  refine lv_aload_n hx hb dX4_more__28 rfl (lv_at hl 1 rfl) ?_
  refine plenI hc hw ha2 dX4_more__29 ?_
  refine lv_iload_n hx hb dX4_more__30 rfl (lv_at hl 2 rfl) ?_
  refine pist hc hw r2 n rfl (by omega) (by omega) dX4_more__31 (fun f H locs k3 r9 hw => ?_)
  refine lv_aload_n hx hb dX4_more__32 rfl (lv_at hl 0 rfl) ?_
  exact pret_r hc hw (⟨hr, (k1.off hr k2).off hr k3, _, r9, fun j hj => by rw [pk_un (by omega)]; exact r3 j hj, pk_us⟩) (by first | exact ⟨Nat.le_of_ble_eq_true rfl, Nat.le_of_ble_eq_true rfl⟩ | (refine ⟨?_, ?_⟩ <;> ((try dsimp only); omega))) dX4_more__33
