theorem inX4_step_X4 : ∀ w ∈ u_ws RX4 TX4 14, w ∈ wsX4_step := fun _ h => List.mem_cons_of_mem _ (List.mem_append_right _ h)
theorem lkX4_step_f32 : Cond.fieldLink RX4 32 "MapCarrierLaw$Sim" "way" "[[I" ∈ wsX4_step := List.mem_of_getElem? (i := 4) (by decide +kernel)
theorem lkX4_step_f37 : Cond.fieldLink RX4 37 "MapCarrierLaw$Sim" "memory" "[[[I" ∈ wsX4_step := List.mem_of_getElem? (i := 11) (by decide +kernel)
theorem lkX4_step_f29 : Cond.fieldLink RX4 29 "MapCarrierLaw$Sim" "goal" "I" ∈ wsX4_step := List.mem_of_getElem? (i := 10) (by decide +kernel)
theorem lkX4_step_aI : Cond.arrayClass .int ∈ wsX4_step := List.mem_of_getElem? (i := 5) (by decide +kernel)
theorem lkX4_step_m76 : Cond.methodLink RX4 76 Lib.Math.min.name ∈ wsX4_step := List.mem_of_getElem? (i := 12) (by decide +kernel)
theorem lkX4_step_msmin : Cond.static Lib.Math.min.name ∈ wsX4_step := List.mem_of_getElem? (i := 13) (by decide +kernel)
theorem lkX4_step_mi : Cond.initialized "java/lang/Math" ∈ wsX4_step := List.mem_of_getElem? (i := 14) (by decide +kernel)
theorem lkX4_step_mcmin : Cond.code Lib.Math.min.name Lib.Math.min.code 2 (some .int) ∈ wsX4_step := List.mem_of_getElem? (i := 15) (by decide +kernel)
theorem lkX4_step_f25 : Cond.fieldLink RX4 25 "MapCarrierLaw$Sim" "where" "I" ∈ wsX4_step := List.mem_of_getElem? (i := 3) (by decide +kernel)
theorem lkX4_step_f59 : Cond.fieldLink RX4 59 "MapCarrierLaw$Sim" "done" "I" ∈ wsX4_step := List.mem_of_getElem? (i := 16) (by decide +kernel)
theorem lkX4_step_c7 : Cond.classLink RX4 7 "[I" ∈ wsX4_step := List.mem_of_getElem? (i := 8) (by decide +kernel)
theorem lkX4_step_f9 : Cond.fieldLink RX4 9 "MapCarrierLaw$Sim" "roads" "[[I" ∈ wsX4_step := List.mem_of_getElem? (i := 1) (by decide +kernel)
theorem lkX4_step_f15 : Cond.fieldLink RX4 15 "MapCarrierLaw$Sim" "exits" "[[I" ∈ wsX4_step := List.mem_of_getElem? (i := 2) (by decide +kernel)
theorem lkX4_step_f53 : Cond.fieldLink RX4 53 "MapCarrierLaw$Sim" "walked" "I" ∈ wsX4_step := List.mem_of_getElem? (i := 6) (by decide +kernel)
theorem lkX4_step_f56 : Cond.fieldLink RX4 56 "MapCarrierLaw$Sim" "doubled" "I" ∈ wsX4_step := List.mem_of_getElem? (i := 9) (by decide +kernel)
theorem lkX4_step_f62 : Cond.fieldLink RX4 62 "MapCarrierLaw$Sim" "vain" "I" ∈ wsX4_step := List.mem_of_getElem? (i := 7) (by decide +kernel)
/-! the second carrier: a step, and steps -/
def sL3 (mp : Bool) (m0 m1 x : Int32) : Int32 := if mp = true ∧ m0 = x then sMin 9 (m1 + 3) else 3
/-- what is remembered of a way's first k exits, for a goal -/
def sLp (wy : Nat → Nat → Int32) (g : Nat) (mp : Nat → Nat → Bool) : Nat → Nat → Nat → Bool
  | 0 => mp
  | k + 1 => va_up (sLp wy g mp k) g (va_up (sLp wy g mp k g) (wy k 0).toNatClampNeg true)
def sLm (wy : Nat → Nat → Int32) (g : Nat) (mp : Nat → Nat → Bool) (mm : Nat → Nat → Nat → Int32) : Nat → Nat → Nat → Nat → Int32
  | 0 => mm
  | k + 1 => va_up (sLm wy g mp mm k) g (va_up (sLm wy g mp mm k g) (wy k 0).toNatClampNeg (upd (upd (fun _ => 0) 0 (wy k 1)) 1 (sL3 (sLp wy g mp k g (wy k 0).toNatClampNeg) (sLm wy g mp mm k g (wy k 0).toNatClampNeg 0) (sLm wy g mp mm k g (wy k 0).toNatClampNeg 1) (wy k 1))))
def sWy (wy : Nat → Nat → Int32) (k q x : Nat) : Nat → Nat → Int32 := va_up wy k (upd (upd (fun _ => 0) 0 (nI q)) 1 (nI x))
/-- what a step does behind the choice: where it is then, before the goal is looked at -/
def sMv (v : Nat → Int32) (xr rw : Nat → Nat → Int32) (wl : Nat) (wy : Nat → Nat → Int32) (q : Nat) (r : Int32) (v' : Nat → Int32) (rw' : Nat → Nat → Int32) (wl' : Nat) (wy' : Nat → Nat → Int32) : Prop :=
  (∃ x, r = nI x ∧ x < 5 ∧ rw' = va_up rw (xr q x).toNatClampNeg (upd (rw (xr q x).toNatClampNeg) 4 1) ∧ wl' = wl + 1 ∧ wy' = sWy wy wl q x ∧ v' = upd (upd v 4 (sTo rw xr q x)) 9 (v 9 + rw (xr q x).toNatClampNeg 2)) ∨
  (r < 0 ∧ 0 < wl ∧ rw' = rw ∧ wl' = wl - 1 ∧ wy' = wy ∧ ∃ mi, mi = rw (xr (wy (wl - 1) 0).toNatClampNeg (wy (wl - 1) 1).toNatClampNeg).toNatClampNeg 2 ∧ v' = upd (upd (upd v 4 (wy (wl - 1) 0)) 9 (v 9 + mi)) 10 (v 10 + mi))
/-- a step: the answer, and what is changed -/
def sStR (v : Nat → Int32) (n : Nat) (xn : Nat → Nat) (xr : Nat → Nat → Int32) (nr : Nat) (rw : Nat → Nat → Int32) (sh ak : Nat → Int32) (wl : Nat) (wy : Nat → Nat → Int32) (mp : Nat → Nat → Bool) (mm : Nat → Nat → Nat → Int32) (q g : Nat) (b : Int32) (v' : Nat → Int32) (rw' : Nat → Nat → Int32) (ak' : Nat → Int32) (wl' : Nat) (wy' : Nat → Nat → Int32) (mp' : Nat → Nat → Bool) (mm' : Nat → Nat → Nat → Int32) : Prop :=
  ∃ (r : Int32) (v1 ak1 : Nat → Int32) (mp1 : Nat → Nat → Bool) (mm1 : Nat → Nat → Nat → Int32), sChR v n xn xr nr rw sh ak mp mm q g r v1 ak1 mp1 mm1 ∧
    ((r < 0 ∧ wl = 0 ∧ b = 0 ∧ v' = upd (upd v1 12 (v1 12 + 1)) 6 (-1) ∧ rw' = sOv rw nr ∧ ak' = (fun _ => 0) ∧ wl' = 0 ∧ wy' = wy ∧ mp' = mp1 ∧ mm' = mm1) ∨
     ∃ (v2 : Nat → Int32) (rw2 : Nat → Nat → Int32) (wl2 : Nat) (wy2 : Nat → Nat → Int32), sMv v1 xr rw wl wy q r v2 rw2 wl2 wy2 ∧ b = 1 ∧
      ((¬ v2 4 = v2 6 ∧ v' = v2 ∧ rw' = rw2 ∧ ak' = ak1 ∧ wl' = wl2 ∧ wy' = wy2 ∧ mp' = mp1 ∧ mm' = mm1) ∨
       (v2 4 = v2 6 ∧ v' = upd (upd v2 11 (v2 11 + 1)) 6 (-1) ∧ rw' = sOv rw2 nr ∧ ak' = (fun _ => 0) ∧ wl' = 0 ∧ wy' = wy2 ∧ mp' = sLp wy2 g mp1 wl2 ∧ mm' = sLm wy2 g mp1 mm1 wl2)))
set_option maxHeartbeats 40000000 in
set_option maxRecDepth 100000 in
theorem lpS_stD {p : Program} {l : Launch} {e : Env} {R : Room} {s : State} {m : MethodId} {args : Array Value} {below : List Frame} {meth : Method} {c : Code} {cells slots : Nat} {Q : State → Prop} {ret : Option FieldType} {G : xG} {A : Nat → Prop} (hc : xC p s m args meth c cX4_step 7 RX4 wsX4_step ret G A) {aS : Nat} {ad : Nat → Nat} {oo : Nat → Nat → Option Nat} {v : Nat → Int32} {n : Nat} {xn : Nat → Nat} {xr : Nat → Nat → Int32} {nr : Nat} {rw : Nat → Nat → Int32} {sh ak : Nat → Int32} {wl : Nat} {wy : Nat → Nat → Int32} {mp : Nat → Nat → Bool} {mm : Nat → Nat → Nat → Int32} {om : Nat → Nat → Option Nat} {L : List Nat} {f0 : Nat → va_E} {r b t : Nat} (ht : t < wl) (hwl : wl ≤ 20) (hne : ¬ ad 0 = r ∧ ¬ ad 1 = r ∧ ¬ ad 4 = r ∧ ¬ ad 5 = r ∧ ∀ g a, g < 10 → oo 3 g = some a → ¬ a = r)
    (kx : ∀ (f : Nat → va_E) (H : Heap) (locs : List Loc) (ls : Array Slot) (o1 : Nat → Option Nat), objS L f aS 4 [.ref (ad 0), .ref (ad 1), .ref (ad 2), .ref (ad 3), .int (v 4), .int (v 5), .int (v 6), .ref (ad 4), .ref (ad 5), .int (v 9), .int (v 10), .int (v 11), .int (v 12), .int (v 13)] → ShA G L f ad oo om n xn xr nr rw sh ak wl wy mp mm → rowA G L f r t o1 → (∀ j, j < t → o1 j = oo 2 j) → pk (fun x => x = r) L f0 L f → lv_has ls 7 [(3, .ref r), (2, .ref b), (0, .ref aS)] → xW G A s.heap (([] : va_W) ++ va_pl L f) H locs → W p l e R s m args below meth c H locs cells slots Q (F0 m 158 ls [])) :
    ∀ (d i : Nat), i + d = t → ∀ (f : Nat → va_E) (H : Heap) (locs : List Loc) (ls : Array Slot), objS L f aS 4 [.ref (ad 0), .ref (ad 1), .ref (ad 2), .ref (ad 3), .int (v 4), .int (v 5), .int (v 6), .ref (ad 4), .ref (ad 5), .int (v 9), .int (v 10), .int (v 11), .int (v 12), .int (v 13)] → ShA G L f ad oo om n xn xr nr rw sh ak wl wy mp mm → (∃ o1, rowA G L f r t o1 ∧ ∀ j, j < i → o1 j = oo 2 j) → pk (fun x => x = r) L f0 L f → lv_has ls 7 [(4, .int (nI i)), (3, .ref r), (2, .ref b), (0, .ref aS)] → xW G A s.heap (([] : va_W) ++ va_pl L f) H locs → W p l e R s m args below meth c H locs cells slots Q (F0 m 134 ls []) := by
  obtain ⟨hx, hb, -, hown, hts, -⟩ := id hc
  intro d
  induction d with
  | zero =>
    intro i hd f H locs ls hO hA hr k0 hl hw
    obtain ⟨o1, r1, r2⟩ := hr
    refine lv_iload hx hb dX4_step_134 (lv_at hl 0 rfl) ?_
    refine lv_aload_n hx hb dX4_step_136 rfl (lv_at hl 1 rfl) ?_
    refine plenA hc hw r1 dX4_step_137 ?_
    refine lv_icmp_ge (tgt := 158) hx hb dX4_step_138 (by decide) (fun hz => ?_) (fun h => absurd (nI_le (by omega) (by omega)) h)
    exact kx f H locs ls o1 hO hA r1 (fun j hj => r2 j (by omega)) k0 (lv_sub hl [1, 2, 3] rfl) hw
  | succ d ih =>
    intro i hd f H locs ls hO hA hr k0 hl hw
    obtain ⟨o1, r1, r2⟩ := hr
    obtain ⟨-, -, -, ⟨hW1, hW2⟩, -⟩ := id hA
    obtain ⟨y, hy1, hy2⟩ := hW2 i (by omega)
    refine lv_iload hx hb dX4_step_134 (lv_at hl 0 rfl) ?_
    refine lv_aload_n hx hb dX4_step_136 rfl (lv_at hl 1 rfl) ?_
    refine plenA hc hw r1 dX4_step_137 ?_
    refine lv_icmp_ge (tgt := 158) hx hb dX4_step_138 (by decide) (fun h => absurd h (nI_ge (by omega) (by omega))) (fun hz => ?_)
    refine lv_aload_n hx hb dX4_step_141 rfl (lv_at hl 1 rfl) ?_
    refine lv_iload hx hb dX4_step_142 (lv_at hl 0 rfl) ?_
    refine lv_aload_n hx hb dX4_step_144 rfl (lv_at hl 3 rfl) ?_
    refine pget (C := RX4) (T := TX4) (N := 14) (ci := 4) hc hw inX4_step_X4 hO rfl 7 (by decide) lkX4_step_f32 rfl rfl dX4_step_145 ?_
    refine lv_iload hx hb dX4_step_148 (lv_at hl 0 rfl) ?_
    refine pald hc hw hW1 i rfl (by omega) (by omega) (v := .ref y) (by rw [hy1]; rfl) dX4_step_150 ?_
    refine past hc hw r1 i rfl (by omega) (by omega) hy2 dX4_step_151 (fun f H locs k r9 hw => ?_)
    refine lv_iinc (v := nI (i + 1)) (lv' := [(4, .int (nI (i + 1))), (3, .ref r), (2, .ref b), (0, .ref aS)]) hx hb dX4_step_152 hl (k := 0) rfl (nI_1 _) (by decide) rfl (fun ls hl => ?_)
    refine lv_goto (tgt := 134) hx hb dX4_step_155 (by decide) ?_
    refine ih (i + 1) (by omega) f H locs ls (hO.kp k (hO.neA r1)) ?_ ⟨_, r9, fun j hj => ?_⟩ (k0.tr k) hl hw
    · obtain ⟨h1, h2, h3, h4, h5, h6⟩ := hA
      have hS : ∀ a m g, m < 5 → rowI G L _ a m g → ¬ a = r := fun a m g _ q => q.neA r1
      refine ⟨h1.kp k hne.1 (fun k' a hk' e' => ?_), h2.kp k hne.2.1 hS, h3.kp k (h3.1.neA r1) (h3.2.1.neA r1), h4.kp k hne.2.2.1 hS, h5.kp k hne.2.2.2.1 hS hne.2.2.2.2, h6⟩
      obtain ⟨a', e2, q⟩ := h1.2.1 k' hk'
      cases e'.symm.trans e2
      exact q.neA r1
    · by_cases ej : j = i
      · subst ej; rw [va_up_self, hy1]
      · rw [va_up_ne _ _ ej]; exact r2 j (by omega)
set_option maxHeartbeats 40000000 in
set_option maxRecDepth 100000 in
theorem lpS_stL {p : Program} {l : Launch} {e : Env} {R : Room} {s : State} {m : MethodId} {args : Array Value} {below : List Frame} {meth : Method} {c : Code} {cells slots : Nat} {Q : State → Prop} {ret : Option FieldType} {G : xG} {A : Nat → Prop} (hc : xC p s m args meth c cX4_step 7 RX4 wsX4_step ret G A) {aS : Nat} {ad : Nat → Nat} {oo : Nat → Nat → Option Nat} {v : Nat → Int32} {n : Nat} {xn : Nat → Nat} {xr : Nat → Nat → Int32} {nr : Nat} {rw : Nat → Nat → Int32} {sh ak : Nat → Int32} {wl : Nat} {wy : Nat → Nat → Int32} {mp : Nat → Nat → Bool} {mm : Nat → Nat → Nat → Int32} {g : Nat} (hg6 : v 6 = nI g) (hg : g < 10) (hn10 : n ≤ 10) (hwl : wl ≤ 21) (hwv : ∀ k, k < wl → ∃ q x, wy k 0 = nI q ∧ q < n ∧ wy k 1 = nI x ∧ x < xn q) (hRf : 3 ≤ R.frames) (hRl : 80 ≤ R.locals) (hRc : cells + 21 ≤ R.cells ∧ slots + 42 ≤ R.slots)
    (kx : ∀ (L : List Nat) (f : Nat → va_E) (H : Heap) (locs : List Loc) (ls : Array Slot), objS L f aS 4 [.ref (ad 0), .ref (ad 1), .ref (ad 2), .ref (ad 3), .int (v 4), .int (v 5), .int (v 6), .ref (ad 4), .ref (ad 5), .int (v 9), .int (v 10), .int (v 11), .int (v 12), .int (v 13)] → (∃ om, ShA G L f ad oo om n xn xr nr rw sh ak wl wy (sLp wy g mp wl) (sLm wy g mp mm wl)) → lv_has ls 7 [(0, .ref aS)] → xW G A s.heap (([] : va_W) ++ va_pl L f) H locs → W p l e R s m args below meth c H locs (cells + wl) (slots + 2 * wl) Q (F0 m 329 ls [])) :
    ∀ (d k : Nat), k + d = wl → ∀ (L : List Nat) (f : Nat → va_E) (H : Heap) (locs : List Loc) (ls : Array Slot), objS L f aS 4 [.ref (ad 0), .ref (ad 1), .ref (ad 2), .ref (ad 3), .int (v 4), .int (v 5), .int (v 6), .ref (ad 4), .ref (ad 5), .int (v 9), .int (v 10), .int (v 11), .int (v 12), .int (v 13)] → (∃ om, ShA G L f ad oo om n xn xr nr rw sh ak wl wy (sLp wy g mp k) (sLm wy g mp mm k)) → lv_has ls 7 [(4, .int (nI k)), (3, .int (nI wl)), (2, .ref (ad 4)), (0, .ref aS)] → xW G A s.heap (([] : va_W) ++ va_pl L f) H locs → W p l e R s m args below meth c H locs (cells + k) (slots + 2 * k) Q (F0 m 237 ls []) := by
  obtain ⟨hx, hb, -, hown, hts, -⟩ := id hc
  intro d
  induction d with
  | zero =>
    intro k hd L f H locs ls hO hA hl hw
    refine lv_iload hx hb dX4_step_237 (lv_at hl 0 rfl) ?_
    refine lv_iload_n hx hb dX4_step_239 rfl (lv_at hl 1 rfl) ?_
    refine lv_icmp_ge (tgt := 329) hx hb dX4_step_240 (by decide) (fun hz => ?_) (fun h => absurd (nI_le (by omega) (by omega)) h)
    have ek : k = wl := by omega
    subst ek
    exact kx L f H locs ls hO hA (lv_sub hl [3] rfl) hw
  | succ d ih =>
    intro k hd L f H locs ls hO hA hl hw
    obtain ⟨om, hA⟩ := hA
    obtain ⟨-, -, -, ⟨hW1, hW2⟩, ⟨hM1, hM2, hM3⟩, -⟩ := id hA
    obtain ⟨y, hy1, hy2⟩ := hW2 k (by omega)
    obtain ⟨q, x, hq1, hq2, hx1, hx2⟩ := hwv k (by omega)
    obtain ⟨ga, hga1, hga2, hga3⟩ := hM3 g (by omega)
    have cq : (wy k 0).toNatClampNeg = q := by rw [hq1, nI_clamp (by omega)]
    have ep : sLp wy g mp (k + 1) = va_up (sLp wy g mp k) g (va_up (sLp wy g mp k g) q true) := by rw [sLp, cq]
    have em : sLm wy g mp mm (k + 1) = va_up (sLm wy g mp mm k) g (va_up (sLm wy g mp mm k g) q (upd (upd (fun _ => 0) 0 (nI x)) 1 (sL3 (sLp wy g mp k g q) (sLm wy g mp mm k g q 0) (sLm wy g mp mm k g q 1) (nI x)))) := by rw [sLm, cq, hx1]
    refine lv_iload hx hb dX4_step_237 (lv_at hl 0 rfl) ?_
    refine lv_iload_n hx hb dX4_step_239 rfl (lv_at hl 1 rfl) ?_
    refine lv_icmp_ge (tgt := 329) hx hb dX4_step_240 (by decide) (fun h => absurd h (nI_ge (by omega) (by omega))) (fun hz => ?_)
    refine lv_aload_n hx hb dX4_step_243 rfl (lv_at hl 2 rfl) ?_
    refine lv_iload hx hb dX4_step_244 (lv_at hl 0 rfl) ?_
    refine pald hc hw hW1 k rfl (by omega) (by omega) (v := .ref y) (by rw [hy1]; rfl) dX4_step_246 ?_
    refine lv_astore (lv' := [(5, .ref y), (4, .int (nI k)), (3, .int (nI wl)), (2, .ref (ad 4)), (0, .ref aS)]) hx hb dX4_step_247 hl (by decide) rfl (fun ls hl => ?_)
    refine lv_aload_n hx hb dX4_step_249 rfl (lv_at hl 4 rfl) ?_
    refine pget (C := RX4) (T := TX4) (N := 14) (ci := 4) hc hw inX4_step_X4 hO rfl 8 (by decide) lkX4_step_f37 rfl rfl dX4_step_250 ?_
    refine lv_aload_n hx hb dX4_step_253 rfl (lv_at hl 4 rfl) ?_
    refine pget (C := RX4) (T := TX4) (N := 14) (ci := 4) hc hw inX4_step_X4 hO rfl 6 (by decide) lkX4_step_f29 rfl rfl dX4_step_254 ?_
    refine pbld hc hw hM1 g hg6 (by omega) (by omega) (v := .ref ga) (by rw [hga1]; rfl) dX4_step_257 ?_
    refine lv_aload hx hb dX4_step_258 (lv_at hl 0 rfl) ?_
    refine lv_iconst (v := 0) hx hb dX4_step_260 (by decide) ?_
    refine pild hc hw hy2 0 rfl (by decide) (by omega) (v := (nI q)) hq1 dX4_step_261 ?_
    rcases hga3 q (by omega) with ⟨hn1, hn2⟩ | ⟨hn2, b, hn1, hn3⟩
    · refine pald hc hw hga2 q rfl (by omega) (by omega) (v := .null) (by rw [hn1]; rfl) dX4_step_262 ?_
      have hyL := hy2.1
      have hAo := hA
      refine lv_astoreN (lv' := [(6, .null), (5, .ref y), (4, .int (nI k)), (3, .int (nI wl)), (2, .ref (ad 4)), (0, .ref aS)]) hx hb dX4_step_263 hl (by decide) rfl (fun ls hl => ?_)
      refine lv_aload_n hx hb dX4_step_265 rfl (lv_at hl 5 rfl) ?_
      refine pget (C := RX4) (T := TX4) (N := 14) (ci := 4) hc hw inX4_step_X4 hO rfl 8 (by decide) lkX4_step_f37 rfl rfl dX4_step_266 ?_
      refine lv_aload_n hx hb dX4_step_269 rfl (lv_at hl 5 rfl) ?_
      refine pget (C := RX4) (T := TX4) (N := 14) (ci := 4) hc hw inX4_step_X4 hO rfl 6 (by decide) lkX4_step_f29 rfl rfl dX4_step_270 ?_
      refine pbld hc hw hM1 g hg6 (by omega) (by omega) (v := .ref ga) (by rw [hga1]; rfl) dX4_step_273 ?_
      refine lv_aload hx hb dX4_step_274 (lv_at hl 1 rfl) ?_
      refine lv_iconst (v := 0) hx hb dX4_step_276 (by decide) ?_
      refine pild hc hw hy2 0 rfl (by decide) (by omega) (v := (nI q)) hq1 dX4_step_277 ?_
      refine lv_iconst (v := 2) hx hb dX4_step_278 (by decide) ?_
      refine pnewI hc hw 2 rfl (by omega) lkX4_step_aI (by first | exact Nat.le_of_ble_eq_true rfl | ((try dsimp only); omega)) (by first | exact Nat.le_of_ble_eq_true rfl | ((try dsimp only); omega)) dX4_step_279 (fun z L1 f1 H hzn k1 r1 hw => ?_)
      have hO := hO.kp k1 (fun z => z)
      have hA := hA.fresh k1
      have hA0z := hA
      have hy2 := hy2.kp k1 (fun z => z)
      have hga2 := hga2.kp k1 (fun z => z)
      have hy0 := hy2
      refine lv_dup hx hb dX4_step_281 rfl ?_
      refine lv_iconst (v := 0) hx hb dX4_step_282 (by decide) ?_
      refine lv_aload hx hb dX4_step_283 (lv_at hl 1 rfl) ?_
      refine lv_iconst (v := 1) hx hb dX4_step_285 (by decide) ?_
      refine pild hc hw hy2 1 rfl (by decide) (by omega) (v := (nI x)) hx1 dX4_step_286 ?_
      refine pist hc hw r1 0 rfl (by decide) (by omega) dX4_step_287 (fun f H locs k2 r2 hw => ?_)
      have hzy : ¬ y = z := fun w => hzn (w ▸ hyL)
      have hy2 := hy2.kp k2 hzy
      have kz := k2
      refine lv_dup hx hb dX4_step_288 rfl ?_
      refine lv_iconst (v := 1) hx hb dX4_step_289 (by decide) ?_
      refine lv_aloadN hx hb dX4_step_290 (lv_at hl 0 rfl) ?_
      refine lv_ifnullN (tgt := 320) hx hb dX4_step_292 (by decide) ?_
      refine lv_iconst (v := 3) hx hb dX4_step_320 (by decide) ?_
      have e3 : 3 = sL3 (sLp wy g mp k g q) (sLm wy g mp mm k g q 0) (sLm wy g mp mm k g q 1) (nI x) := by unfold sL3; rw [hn2, if_neg (fun z => absurd z.1 (by decide))]
      refine pist hc hw r2 1 rfl (by decide) (by omega) dX4_step_321 (fun f H locs k4 r4 hw => ?_)
      have kz2 := kz.tr k4
      have hOz := hO.kp kz2 (hO.neI r1)
      have hga3' := hga2.kp kz2 (fun w => (r1.neA hga2) w.symm)
      have hA := hAo.fresh (k1.off hzn kz2)
      have hO := hOz
      refine past hc hw hga3' q rfl (by omega) (by omega) r4 dX4_step_322 (fun f H locs k6 r6 hw => ?_)
      have hO := hO.kp k6 (hO.neA hga3')
      have hA := hA.setM (g := g) (p := q) (b1 := true) (g1 := upd (upd (fun _ => 0) 0 (nI x)) 1 (sL3 (sLp wy g mp k g q) (sLm wy g mp mm k g q 0) (sLm wy g mp mm k g q 1) (nI x))) (by omega) hga1 k6 r6 (Or.inr ⟨rfl, z, rfl, by rw [← e3]; exact r4⟩)
      rw [← ep, ← em] at hA
      refine lv_iinc (v := nI (k + 1)) (lv' := [(4, .int (nI (k + 1))), (6, .null), (5, .ref y), (3, .int (nI wl)), (2, .ref (ad 4)), (0, .ref aS)]) hx hb dX4_step_323 hl (k := 2) rfl (nI_1 _) (by decide) rfl (fun ls hl => ?_)
      refine lv_goto (tgt := 237) hx hb dX4_step_326 (by decide) ?_
      exact pW_eq rfl (by omega) (ih (k + 1) (by omega) L1 f H locs ls hO ⟨_, hA⟩ (lv_sub hl [0, 3, 4, 5] rfl) hw)
    · refine pald hc hw hga2 q rfl (by omega) (by omega) (v := .ref b) (by rw [hn1]; rfl) dX4_step_262 ?_
      have hyL := hy2.1
      have hb0 := hn3.1
      have hAo := hA
      refine lv_astore (lv' := [(6, .ref b), (5, .ref y), (4, .int (nI k)), (3, .int (nI wl)), (2, .ref (ad 4)), (0, .ref aS)]) hx hb dX4_step_263 hl (by decide) rfl (fun ls hl => ?_)
      refine lv_aload_n hx hb dX4_step_265 rfl (lv_at hl 5 rfl) ?_
      refine pget (C := RX4) (T := TX4) (N := 14) (ci := 4) hc hw inX4_step_X4 hO rfl 8 (by decide) lkX4_step_f37 rfl rfl dX4_step_266 ?_
      refine lv_aload_n hx hb dX4_step_269 rfl (lv_at hl 5 rfl) ?_
      refine pget (C := RX4) (T := TX4) (N := 14) (ci := 4) hc hw inX4_step_X4 hO rfl 6 (by decide) lkX4_step_f29 rfl rfl dX4_step_270 ?_
      refine pbld hc hw hM1 g hg6 (by omega) (by omega) (v := .ref ga) (by rw [hga1]; rfl) dX4_step_273 ?_
      refine lv_aload hx hb dX4_step_274 (lv_at hl 1 rfl) ?_
      refine lv_iconst (v := 0) hx hb dX4_step_276 (by decide) ?_
      refine pild hc hw hy2 0 rfl (by decide) (by omega) (v := (nI q)) hq1 dX4_step_277 ?_
      refine lv_iconst (v := 2) hx hb dX4_step_278 (by decide) ?_
      refine pnewI hc hw 2 rfl (by omega) lkX4_step_aI (by first | exact Nat.le_of_ble_eq_true rfl | ((try dsimp only); omega)) (by first | exact Nat.le_of_ble_eq_true rfl | ((try dsimp only); omega)) dX4_step_279 (fun z L1 f1 H hzn k1 r1 hw => ?_)
      have hO := hO.kp k1 (fun z => z)
      have hA := hA.fresh k1
      have hA0z := hA
      have hy2 := hy2.kp k1 (fun z => z)
      have hga2 := hga2.kp k1 (fun z => z)
      have hy0 := hy2
      have hn3 := hn3.kp k1 (fun z => z)
      refine lv_dup hx hb dX4_step_281 rfl ?_
      refine lv_iconst (v := 0) hx hb dX4_step_282 (by decide) ?_
      refine lv_aload hx hb dX4_step_283 (lv_at hl 1 rfl) ?_
      refine lv_iconst (v := 1) hx hb dX4_step_285 (by decide) ?_
      refine pild hc hw hy2 1 rfl (by decide) (by omega) (v := (nI x)) hx1 dX4_step_286 ?_
      refine pist hc hw r1 0 rfl (by decide) (by omega) dX4_step_287 (fun f H locs k2 r2 hw => ?_)
      have hzb : ¬ b = z := fun w => hzn (w ▸ hb0)
      have hzy : ¬ y = z := fun w => hzn (w ▸ hyL)
      have hy2 := hy2.kp k2 hzy
      have hn3 := hn3.kp k2 (fun w => hzb w)
      have kz := k2
      refine lv_dup hx hb dX4_step_288 rfl ?_
      refine lv_iconst (v := 1) hx hb dX4_step_289 (by decide) ?_
      refine lv_aload hx hb dX4_step_290 (lv_at hl 0 rfl) ?_
      refine lv_ifnull hx hb dX4_step_292 ?_
      refine lv_aload hx hb dX4_step_295 (lv_at hl 0 rfl) ?_
      refine lv_iconst (v := 0) hx hb dX4_step_297 (by decide) ?_
      refine pild hc hw hn3 0 rfl (by decide) (by omega) (v := (sLm wy g mp mm k g q 0)) rfl dX4_step_298 ?_
      refine lv_aload hx hb dX4_step_299 (lv_at hl 1 rfl) ?_
      refine lv_iconst (v := 1) hx hb dX4_step_301 (by decide) ?_
      refine pild hc hw hy2 1 rfl (by decide) (by omega) (v := (nI x)) hx1 dX4_step_302 ?_
      refine lv_icmp_ne (tgt := 320) hx hb dX4_step_303 (by decide) (fun hs => ?_) (fun hs => ?_)
      · refine lv_iconst (v := 3) hx hb dX4_step_320 (by decide) ?_
        have e3 : 3 = sL3 (sLp wy g mp k g q) (sLm wy g mp mm k g q 0) (sLm wy g mp mm k g q 1) (nI x) := by unfold sL3; rw [if_neg (fun z => hs z.2)]
        refine pist hc hw r2 1 rfl (by decide) (by omega) dX4_step_321 (fun f H locs k4 r4 hw => ?_)
        have kz2 := kz.tr k4
        have hOz := hO.kp kz2 (hO.neI r1)
        have hga3' := hga2.kp kz2 (fun w => (r1.neA hga2) w.symm)
        have hA := hAo.fresh (k1.off hzn kz2)
        have hO := hOz
        refine past hc hw hga3' q rfl (by omega) (by omega) r4 dX4_step_322 (fun f H locs k6 r6 hw => ?_)
        have hO := hO.kp k6 (hO.neA hga3')
        have hA := hA.setM (g := g) (p := q) (b1 := true) (g1 := upd (upd (fun _ => 0) 0 (nI x)) 1 (sL3 (sLp wy g mp k g q) (sLm wy g mp mm k g q 0) (sLm wy g mp mm k g q 1) (nI x))) (by omega) hga1 k6 r6 (Or.inr ⟨rfl, z, rfl, by rw [← e3]; exact r4⟩)
        rw [← ep, ← em] at hA
        refine lv_iinc (v := nI (k + 1)) (lv' := [(4, .int (nI (k + 1))), (6, .ref b), (5, .ref y), (3, .int (nI wl)), (2, .ref (ad 4)), (0, .ref aS)]) hx hb dX4_step_323 hl (k := 2) rfl (nI_1 _) (by decide) rfl (fun ls hl => ?_)
        refine lv_goto (tgt := 237) hx hb dX4_step_326 (by decide) ?_
        exact pW_eq rfl (by omega) (ih (k + 1) (by omega) L1 f H locs ls hO ⟨_, hA⟩ (lv_sub hl [0, 3, 4, 5] rfl) hw)
      · refine lv_bipush (v := 9) hx hb dX4_step_306 (by decide) ?_
        refine lv_aload hx hb dX4_step_308 (lv_at hl 0 rfl) ?_
        refine lv_iconst (v := 1) hx hb dX4_step_310 (by decide) ?_
        refine pild hc hw hn3 1 rfl (by decide) (by omega) (v := (sLm wy g mp mm k g q 1)) rfl dX4_step_311 ?_
        refine lv_iconst (v := 3) hx hb dX4_step_312 (by decide) ?_
        refine lv_iadd hx hb dX4_step_313 ?_
        refine pmin (rest := [.int 1, .ref z, .ref z, .int (nI q), .ref ga]) hc lkX4_step_m76 lkX4_step_msmin lkX4_step_mi lkX4_step_mcmin hl.1 (Nat.le_trans (by decide) hRf) (Nat.le_trans (Nat.le_of_ble_eq_true rfl) hRl) (by have := hRc.1; have := hRc.2; refine ⟨?_, ?_⟩ <;> omega) dX4_step_314 ?_
        refine lv_goto (tgt := 321) hx hb dX4_step_317 (by decide) ?_
        have e3 : sMin 9 (sLm wy g mp mm k g q 1 + 3) = sL3 (sLp wy g mp k g q) (sLm wy g mp mm k g q 0) (sLm wy g mp mm k g q 1) (nI x) := by unfold sL3; rw [if_pos ⟨hn2, hs⟩]
        refine pist hc hw r2 1 rfl (by decide) (by omega) dX4_step_321 (fun f H locs k4 r4 hw => ?_)
        have kz2 := kz.tr k4
        have hOz := hO.kp kz2 (hO.neI r1)
        have hga3' := hga2.kp kz2 (fun w => (r1.neA hga2) w.symm)
        have hA := hAo.fresh (k1.off hzn kz2)
        have hO := hOz
        refine past hc hw hga3' q rfl (by omega) (by omega) r4 dX4_step_322 (fun f H locs k6 r6 hw => ?_)
        have hO := hO.kp k6 (hO.neA hga3')
        have hA := hA.setM (g := g) (p := q) (b1 := true) (g1 := upd (upd (fun _ => 0) 0 (nI x)) 1 (sL3 (sLp wy g mp k g q) (sLm wy g mp mm k g q 0) (sLm wy g mp mm k g q 1) (nI x))) (by omega) hga1 k6 r6 (Or.inr ⟨rfl, z, rfl, by rw [← e3]; exact r4⟩)
        rw [← ep, ← em] at hA
        refine lv_iinc (v := nI (k + 1)) (lv' := [(4, .int (nI (k + 1))), (6, .ref b), (5, .ref y), (3, .int (nI wl)), (2, .ref (ad 4)), (0, .ref aS)]) hx hb dX4_step_323 hl (k := 2) rfl (nI_1 _) (by decide) rfl (fun ls hl => ?_)
        refine lv_goto (tgt := 237) hx hb dX4_step_326 (by decide) ?_
        exact pW_eq rfl (by omega) (ih (k + 1) (by omega) L1 f H locs ls hO ⟨_, hA⟩ (lv_sub hl [0, 3, 4, 5] rfl) hw)
set_option maxHeartbeats 40000000 in
set_option maxRecDepth 100000 in
theorem lpS_stE {p : Program} {l : Launch} {e : Env} {R : Room} {s : State} {m : MethodId} {args : Array Value} {below : List Frame} {meth : Method} {c : Code} {cells slots : Nat} {Q : State → Prop} {ret : Option FieldType} {G : xG} {A : Nat → Prop} (hc : xC p s m args meth c cX4_step 7 RX4 wsX4_step ret G A) {aS : Nat} {ad : Nat → Nat} {oo : Nat → Nat → Option Nat} {v : Nat → Int32} {n : Nat} {xn : Nat → Nat} {xr : Nat → Nat → Int32} {nr : Nat} {rw : Nat → Nat → Int32} {sh ak : Nat → Int32} {wl : Nat} {wy : Nat → Nat → Int32} {mp : Nat → Nat → Bool} {mm : Nat → Nat → Nat → Int32} {om : Nat → Nat → Option Nat} {L : List Nat} {f : Nat → va_E} {g : Nat} (hg6 : v 6 = nI g) (hg : g < 10) (hn10 : n ≤ 10) (hr20 : nr ≤ 20) (hwl : wl ≤ 21) (hwv : ∀ k, k < wl → ∃ q x, wy k 0 = nI q ∧ q < n ∧ wy k 1 = nI x ∧ x < xn q) (hRf : 4 ≤ R.frames) (hRl : 120 ≤ R.locals) (hRc : cells + 23 ≤ R.cells ∧ slots + 52 ≤ R.slots) (hO : objS L f aS 4 [.ref (ad 0), .ref (ad 1), .ref (ad 2), .ref (ad 3), .int (v 4), .int (v 5), .int (v 6), .ref (ad 4), .ref (ad 5), .int (v 9), .int (v 10), .int (v 11), .int (v 12), .int (v 13)]) (hA : ShA G L f ad oo om n xn xr nr rw sh ak wl wy mp mm)
    (kr : ∀ (L : List Nat) (f : Nat → va_E) (H : Heap) (locs : List Loc) (ls : Array Slot) (pc : Nat) (v2 : Nat → Int32) (rw2 : Nat → Nat → Int32) (ak2 : Nat → Int32) (wl2 : Nat) (mp2 : Nat → Nat → Bool) (mm2 : Nat → Nat → Nat → Int32), ((¬ v 4 = v 6 ∧ v2 = v ∧ rw2 = rw ∧ ak2 = ak ∧ wl2 = wl ∧ mp2 = mp ∧ mm2 = mm) ∨ (v 4 = v 6 ∧ v2 = upd (upd v 11 (v 11 + 1)) 6 (-1) ∧ rw2 = sOv rw nr ∧ ak2 = (fun _ => 0) ∧ wl2 = 0 ∧ mp2 = sLp wy g mp wl ∧ mm2 = sLm wy g mp mm wl)) → Sh G L f aS v2 n xn xr nr rw2 sh ak2 wl2 wy mp2 mm2 → xW G A s.heap (([] : va_W) ++ va_pl L f) H locs → decode cX4_step pc = .ok (.ireturn, 1) → W p l e R s m args below meth c H locs (cells + 23) (slots + 52) Q (F0 m pc ls [.int 1])) {H : Heap} {locs : List Loc} {ls : Array Slot} (hl : lv_has ls 7 [(0, .ref aS)]) (hw : xW G A s.heap (([] : va_W) ++ va_pl L f) H locs) : W p l e R s m args below meth c H locs cells slots Q (F0 m 213 ls []) := by
  obtain ⟨hx, hb, -, hown, hts, -⟩ := id hc
  refine lv_aload_n hx hb dX4_step_213 rfl (lv_at hl 0 rfl) ?_
  refine pget (C := RX4) (T := TX4) (N := 14) (ci := 4) hc hw inX4_step_X4 hO rfl 4 (by decide) lkX4_step_f25 rfl rfl dX4_step_214 ?_
  refine lv_aload_n hx hb dX4_step_217 rfl (lv_at hl 0 rfl) ?_
  refine pget (C := RX4) (T := TX4) (N := 14) (ci := 4) hc hw inX4_step_X4 hO rfl 6 (by decide) lkX4_step_f29 rfl rfl dX4_step_218 ?_
  refine lv_icmp_eq (tgt := 226) hx hb dX4_step_221 (by decide) (fun hz => ?_) (fun hz => ?_)
  · obtain ⟨-, -, -, ⟨hW1, hW2⟩, -⟩ := id hA
    refine lv_aload_n hx hb dX4_step_226 rfl (lv_at hl 0 rfl) ?_
    refine pget (C := RX4) (T := TX4) (N := 14) (ci := 4) hc hw inX4_step_X4 hO rfl 7 (by decide) lkX4_step_f32 rfl rfl dX4_step_227 ?_
    refine lv_astore_n (lv' := [(2, .ref (ad 4)), (0, .ref aS)]) hx hb dX4_step_230 rfl hl (by decide) rfl (fun ls hl => ?_)
    refine lv_aload_n hx hb dX4_step_231 rfl (lv_at hl 0 rfl) ?_
    refine plenA hc hw hW1 dX4_step_232 ?_
    refine lv_istore_n (lv' := [(3, .int (nI wl)), (2, .ref (ad 4)), (0, .ref aS)]) hx hb dX4_step_233 rfl hl (by decide) rfl (fun ls hl => ?_)
    refine lv_iconst (v := 0) hx hb dX4_step_234 (by decide) ?_
    refine lv_istore (lv' := [(4, .int 0), (3, .int (nI wl)), (2, .ref (ad 4)), (0, .ref aS)]) hx hb dX4_step_235 hl (by decide) rfl (fun ls hl => ?_)
    refine lpS_stL (cells := cells) (slots := slots) hc hg6 hg hn10 hwl hwv (Nat.le_trans (by decide) hRf) (Nat.le_trans (by decide) hRl) (by refine ⟨?_, ?_⟩ <;> omega) (fun L1 f H locs ls hO hA hl hw => ?_) wl 0 (by omega) _ _ _ _ ls hO ⟨_, hA⟩ (lv_sub hl [0, 1, 2, 3] rfl) hw
    obtain ⟨om, hA⟩ := hA
    refine lv_aload_n hx hb dX4_step_329 rfl (lv_at hl 0 rfl) ?_
    refine lv_dup hx hb dX4_step_330 rfl ?_
    refine pget (C := RX4) (T := TX4) (N := 14) (ci := 4) hc hw inX4_step_X4 hO rfl 11 (by decide) lkX4_step_f59 rfl rfl dX4_step_331 ?_
    refine lv_iconst (v := 1) hx hb dX4_step_334 (by decide) ?_
    refine lv_iadd hx hb dX4_step_335 ?_
    refine pput (C := RX4) (T := TX4) (N := 14) (ci := 4) (ty := .int) hc hw inX4_step_X4 tyX4 tyX4_ok nmX4 hO rfl 11 (by decide) lkX4_step_f59 rfl rfl rfl rfl (Nat.le_of_ble_eq_true rfl) [.ref (ad 0), .ref (ad 1), .ref (ad 2), .ref (ad 3), .int (v 4), .int (v 5), .int (v 6), .ref (ad 4), .ref (ad 5), .int (v 9), .int (v 10), .int (v 11 + 1), .int (v 12), .int (v 13)] rfl dX4_step_336 (fun f H locs k1 hO1 hw => ?_)
    have hA := hA.obj hO k1
    have hO := hO1
    refine lv_aload_n hx hb dX4_step_339 rfl (lv_at hl 0 rfl) ?_
    refine pcall_v hc hw (prunV (n := 0) (As := []) (rest := []) hc hw (metS_over l G _ _ _ aS (upd v 11 (v 11 + 1)) n xn xr nr rw sh ak wl wy _ _ ⟨_, _, _, hO, hA⟩ hr20) gX4_step_X4_over rfl (by decide +kernel) ⟨by (try dsimp only); omega, by (try dsimp only); omega⟩ hO rfl rfl rfl hl.1 (Nat.le_of_ble_eq_true rfl) dX4_step_340 ⟨by (try dsimp only); omega, by (try dsimp only); omega⟩) (fun L1 f H locs hp hw => ?_)
    refine lv_iconst (v := 1) hx hb dX4_step_343 (by decide) ?_
    exact W.widen (by (try dsimp only); omega) (by (try dsimp only); omega) (kr _ _ _ _ ls 344 _ _ _ _ _ _ (Or.inr ⟨hz, rfl, rfl, rfl, rfl, rfl, rfl⟩) hp hw dX4_step_344)
  · refine lv_iconst (v := 1) hx hb dX4_step_224 (by decide) ?_
    exact W.widen (Nat.le_add_right _ _) (Nat.le_add_right _ _) (kr _ _ _ _ ls 225 _ _ _ _ _ _ (Or.inl ⟨hz, rfl, rfl, rfl, rfl, rfl, rfl⟩) ⟨_, _, _, hO, hA⟩ hw dX4_step_225)
theorem sTo_set (rw xr : Nat → Nat → Int32) (k : Nat) (z : Int32) (q x : Nat) : sTo (va_up rw k (upd (rw k) 4 z)) xr q x = sTo rw xr q x := by
  unfold sTo
  by_cases c : (xr q x).toNatClampNeg = k
  · rw [c, va_up_self, pk_un (by decide), pk_un (by decide)]
  · rw [va_up_ne _ _ c]
theorem sX_set {n : Nat} {xn : Nat → Nat} {xr : Nat → Nat → Int32} {nr : Nat} {rw : Nat → Nat → Int32} (h : sX n xn xr nr rw) (k : Nat) (z : Int32) : sX n xn xr nr (va_up rw k (upd (rw k) 4 z)) := by
  refine ⟨h.1, h.2.1, h.2.2.1, fun j hj => ?_⟩
  obtain ⟨a, b, h1, h2, h3, h4⟩ := h.2.2.2 j hj
  by_cases c : j = k
  · subst c
    exact ⟨a, b, by rw [va_up_self, pk_un (by decide)]; exact h1, h2, by rw [va_up_self, pk_un (by decide)]; exact h3, h4⟩
  · exact ⟨a, b, by rw [va_up_ne _ _ c]; exact h1, h2, by rw [va_up_ne _ _ c]; exact h3, h4⟩
theorem sFst_in (rw xr : Nat → Nat → Int32) (q : Nat) : ∀ d x, sFst rw xr q d x = -1 ∨ ∃ y, sFst rw xr q d x = nI y ∧ y < x + d
  | 0, _ => Or.inl rfl
  | d + 1, x => by
    rw [sFst]
    split
    · rcases sFst_in rw xr q d (x + 1) with h | ⟨y, h1, h2⟩
      · exact Or.inl h
      · exact Or.inr ⟨y, h1, by omega⟩
    · exact Or.inr ⟨x, rfl, by omega⟩
theorem sFst_lt {rw xr : Nat → Nat → Int32} {q N : Nat} : (sFst rw xr q N 0 = -1) ∨ ∃ y, sFst rw xr q N 0 = nI y ∧ y < N := by
  rcases sFst_in rw xr q N 0 with h | ⟨y, h1, h2⟩
  · exact Or.inl h
  · exact Or.inr ⟨y, h1, by omega⟩
/-- the choice is in range, and so is what is remembered behind it -/
theorem sChR_in {v : Nat → Int32} {n : Nat} {xn : Nat → Nat} {xr : Nat → Nat → Int32} {nr : Nat} {rw : Nat → Nat → Int32} {sh ak : Nat → Int32} {wl : Nat} {wy : Nat → Nat → Int32} {mp : Nat → Nat → Bool} {mm : Nat → Nat → Nat → Int32} {q g : Nat} {r : Int32} {v' ak' : Nat → Int32} {mp' : Nat → Nat → Bool} {mm' : Nat → Nat → Nat → Int32} (hV : sVd n xn v wl wy mp mm) (hg : g < 10) (hq : q < n) (h : sChR v n xn xr nr rw sh ak mp mm q g r v' ak' mp' mm') : (r = -1 ∨ ∃ x, r = nI x ∧ x < xn q) ∧ v' 4 = v 4 ∧ v' 6 = v 6 ∧ sVd n xn v' wl wy mp' mm' := by
  rcases h with ⟨h1, rfl, rfl, rfl, rfl, rfl⟩ | ⟨h1, h2, rfl, rfl, rfl, rfl, rfl⟩ | ⟨h1, h2, rfl, rfl, h3⟩
  · exact ⟨Or.inr (hV.1 g q hg hq h1.1), rfl, rfl, hV⟩
  · exact ⟨sFst_lt, rfl, rfl, hV⟩
  · rcases h3 with ⟨h3, rfl, rfl, rfl⟩ | ⟨h3, rfl, rfl, h4⟩
    · exact ⟨sFst_lt, rfl, rfl, hV⟩
    · obtain ⟨xb, hxb, hxb2⟩ : ∃ x, (sBst (sIts n xr nr rw q (nI g)) (xn q) (xn q)).1 = nI x ∧ x < xn q := (by
        rcases sBst_in (sIts n xr nr rw q (nI g)) (xn q) (xn q) (Nat.le_refl _) with h | h
        · exact absurd (by rw [h]; decide) h3
        · exact h)
      refine ⟨?_, rfl, rfl, fun g' q' e1 e2 e3 => ?_, hV.2⟩
      · rw [h4]
        split
        · exact sFst_lt
        · exact Or.inr ⟨xb, hxb, hxb2⟩
      · by_cases c1 : g' = g
        · subst c1
          rw [va_up_self] at e3 ⊢
          by_cases c2 : q' = q
          · subst c2
            rw [va_up_self]
            exact ⟨xb, hxb, hxb2⟩
          · rw [va_up_ne _ _ c2] at e3 ⊢
            exact hV.1 g' q' e1 e2 e3
        · rw [va_up_ne _ _ c1] at e3 ⊢
          exact hV.1 g' q' e1 e2 e3
set_option maxHeartbeats 40000000 in
set_option maxRecDepth 100000 in
theorem metS_step (l : Launch) (G : xG) (sz : Nat) (L : List Nat) (f : Nat → va_E) (aS : Nat) (v : Nat → Int32) (n : Nat) (xn : Nat → Nat) (xr : Nat → Nat → Int32) (nr : Nat) (rw : Nat → Nat → Int32) (sh ak : Nat → Int32) (wl : Nat) (wy : Nat → Nat → Int32) (mp : Nat → Nat → Bool) (mm : Nat → Nat → Nat → Int32) (q g : Nat) (S : Sh G L f aS v n xn xr nr rw sh ak wl wy mp mm) (hX : sX n xn xr nr rw) (hV : sVd n xn v wl wy mp mm) (hq4 : v 4 = nI q) (hq : q < n) (hg6 : v 6 = nI g) (hg : g < n) (hsh : ∀ k, k < 10 → sh k = 0 ∨ sh k = 1) : pMi l yX4_step wsX4_step ⟨4, 30, 137, 120⟩ G [.ref aS] L f sz (fun b u => ∃ (v2 : Nat → Int32) (rw2 : Nat → Nat → Int32) (ak2 : Nat → Int32) (wl2 : Nat) (wy2 : Nat → Nat → Int32) (mp2 : Nat → Nat → Bool) (mm2 : Nat → Nat → Nat → Int32), sStR v n xn xr nr rw sh ak wl wy mp mm q g b v2 rw2 ak2 wl2 wy2 mp2 mm2 ∧ Sh G u.1 u.2 aS v2 n xn xr nr rw2 sh ak2 wl2 wy2 mp2 mm2) := by
  obtain ⟨ad, oo, om, hO, hA⟩ := S
  have hO : objS L f aS 4 [.ref (ad 0), .ref (ad 1), .ref (ad 2), .ref (ad 3), .int (v 4), .int (v 5), .int (v 6), .ref (ad 4), .ref (ad 5), .int (v 9), .int (v 10), .int (v 11), .int (v 12), .int (v 13)] := hO
  refine xof (own := RX4) (cc := cX4_step) (maxL := 7) (ret := (some .boolean)) rfl (by decide) rfl (Nat.le_of_ble_eq_true rfl) ?_
  intro pg en s mi below meth cd hc hnm hw ls hl
  obtain ⟨hx, hb, -, hown, hts, -⟩ := id hc
  have hl : lv_has ls 7 [(0, .ref aS)] := hl
  have hw : xW G _ s.heap (([] : va_W) ++ va_pl L f) s.heap [] := hw
  have hn10 : n ≤ 10 := hX.1
  have hr20 : nr ≤ 20 := hX.2.1
  have hwl : wl ≤ 20 := hV.2.1
  refine lv_aload_n hx hb dX4_step_0 rfl (lv_at hl 0 rfl) ?_
  refine pcall_i hc hw (prunV (n := 0) (As := []) (rest := []) hc hw (metS_chosen l G _ _ _ aS v n xn xr nr rw sh ak wl wy mp mm q g ⟨ad, oo, om, hO, hA⟩ hX hV hq4 hq hg6 hg hsh) gX4_step_X4_chosen rfl (by decide +kernel) ⟨Nat.le_of_ble_eq_true rfl, Nat.le_of_ble_eq_true rfl⟩ hO rfl rfl rfl hl.1 (Nat.le_of_ble_eq_true rfl) dX4_step_1 (by first | exact ⟨Nat.le_of_ble_eq_true rfl, Nat.le_of_ble_eq_true rfl⟩ | (refine ⟨?_, ?_⟩ <;> ((try dsimp only); omega)))) (fun r L1 f1 H locs hp hw => ?_)
  obtain ⟨v1, ak1, mp1, mm1, hch, ad, oo, om, hO, hA⟩ := hp
  obtain ⟨hr, e4, e6, hV1⟩ := sChR_in hV (by omega) hq hch
  have hq4 : v1 4 = nI q := e4.trans hq4
  have hg6 : v1 6 = nI g := e6.trans hg6
  have hO : objS L1 f1 aS 4 [.ref (ad 0), .ref (ad 1), .ref (ad 2), .ref (ad 3), .int (v1 4), .int (v1 5), .int (v1 6), .ref (ad 4), .ref (ad 5), .int (v1 9), .int (v1 10), .int (v1 11), .int (v1 12), .int (v1 13)] := hO
  refine lv_istore_n (lv' := [(1, .int r), (0, .ref aS)]) hx hb dX4_step_4 rfl hl (by decide) rfl (fun ls hl => ?_)
  refine lv_iload_n hx hb dX4_step_5 rfl (lv_at hl 0 rfl) ?_
  refine lv_if_lt (tgt := 83) hx hb dX4_step_6 (by decide) (fun hz => ?_) (fun hz => ?_)
  · have hr1 : r = -1 := (by
      rcases hr with h | ⟨x, h1, h2⟩
      · exact h
      · have := (hA.2.1.2 q hq).1
        rw [h1] at hz
        exact absurd hz (nI_pos (by omega)))
    obtain ⟨-, -, -, ⟨hW1, hW2⟩, -⟩ := id hA
    refine lv_aload_n hx hb dX4_step_83 rfl (lv_at hl 1 rfl) ?_
    refine pget (C := RX4) (T := TX4) (N := 14) (ci := 4) hc hw inX4_step_X4 hO rfl 7 (by decide) lkX4_step_f32 rfl rfl dX4_step_84 ?_
    refine plenA hc hw hW1 dX4_step_87 ?_
    refine lv_if_ne (tgt := 107) hx hb dX4_step_88 (by decide) (fun hnz => ?_) (fun hnz => ?_)
    · obtain ⟨t, ht⟩ : ∃ t, wl = t + 1 := (by
        cases wl with
        | zero => exact absurd rfl hnz
        | succ t => exact ⟨t, rfl⟩)
      obtain ⟨b, hb1, hb2⟩ := hW2 t (by omega)
      have ei : nI wl - 1 = nI t := by rw [ht, nI_pred]
      obtain ⟨q2, x2, hq2, hq2n, hx2, hx2n⟩ := hV.2.2 t (by omega)
      obtain ⟨⟨hR1, hR2, hR3⟩, ⟨hE1, hE2⟩, -⟩ := id hA
      obtain ⟨hx24, ea, he1, he2⟩ := hE2 q2 hq2n
      obtain ⟨k, hk1, hk2⟩ := hX.2.2.1 q2 x2 hq2n hx2n
      obtain ⟨ra, hr3, hr4⟩ := hR2 k hk2
      have hkc : (xr q2 x2).toNatClampNeg = k := by rw [hk1, nI_clamp (by omega)]
      have hq2c : (wy (wl - 1) 0).toNatClampNeg = q2 := by rw [show wl - 1 = t by omega, hq2, nI_clamp (by omega)]
      have hx2c : (wy (wl - 1) 1).toNatClampNeg = x2 := by rw [show wl - 1 = t by omega, hx2, nI_clamp (by omega)]
      have hOm := hO.1
      have hbm := hb2.1
      refine lv_aload_n hx hb dX4_step_107 rfl (lv_at hl 1 rfl) ?_
      refine pget (C := RX4) (T := TX4) (N := 14) (ci := 4) hc hw inX4_step_X4 hO rfl 7 (by decide) lkX4_step_f32 rfl rfl dX4_step_108 ?_
      refine lv_aload_n hx hb dX4_step_111 rfl (lv_at hl 1 rfl) ?_
      refine pget (C := RX4) (T := TX4) (N := 14) (ci := 4) hc hw inX4_step_X4 hO rfl 7 (by decide) lkX4_step_f32 rfl rfl dX4_step_112 ?_
      refine plenA hc hw hW1 dX4_step_115 ?_
      refine lv_iconst (v := 1) hx hb dX4_step_116 (by decide) ?_
      refine lv_isub hx hb dX4_step_117 ?_
      refine pald hc hw hW1 t ei (by omega) (by omega) (v := .ref b) (by rw [hb1]; rfl) dX4_step_118 ?_
      refine lv_astore_n (lv' := [(2, .ref b), (1, .int r), (0, .ref aS)]) hx hb dX4_step_119 rfl hl (by decide) rfl (fun ls hl => ?_)
      refine lv_aload_n hx hb dX4_step_120 rfl (lv_at hl 2 rfl) ?_
      refine pget (C := RX4) (T := TX4) (N := 14) (ci := 4) hc hw inX4_step_X4 hO rfl 7 (by decide) lkX4_step_f32 rfl rfl dX4_step_121 ?_
      refine plenA hc hw hW1 dX4_step_124 ?_
      refine lv_iconst (v := 1) hx hb dX4_step_125 (by decide) ?_
      refine lv_isub hx hb dX4_step_126 ?_
      refine pnewA hc hw t ei (by omega) lkX4_step_c7 (by first | exact Nat.le_of_ble_eq_true rfl | ((try dsimp only); omega)) (by first | exact Nat.le_of_ble_eq_true rfl | ((try dsimp only); omega)) dX4_step_127 (fun y L2 f2 H hyn k2 r2 hw => ?_)
      obtain ⟨⟨n0, n1, n2, n3, n4, n5⟩, n6⟩ := hA.nin hyn
      have hO := hO.kp k2 (fun z => z)
      have hA := hA.fresh k2
      have hb2 := hb2.kp k2 (fun z => z)
      have hyO : ¬ aS = y := fun z => hyn (z ▸ hOm)
      have hyb : ¬ b = y := fun z => hyn (z ▸ hbm)
      refine lv_astore_n (lv' := [(3, .ref y), (2, .ref b), (1, .int r), (0, .ref aS)]) hx hb dX4_step_130 rfl hl (by decide) rfl (fun ls hl => ?_)
      refine lv_iconst (v := 0) hx hb dX4_step_131 (by decide) ?_
      refine lv_istore (lv' := [(4, .int 0), (3, .ref y), (2, .ref b), (1, .int r), (0, .ref aS)]) hx hb dX4_step_132 hl (by decide) rfl (fun ls hl => ?_)
      refine lpS_stD (v := v1) (ak := ak1) (mp := mp1) (mm := mm1) hc (t := t) (by omega) hwl ⟨n0.symm, n1.symm, n4.symm, n5.symm, n6⟩ (fun f3 H locs ls o1 hO hA r3 r4 k3 hl hw => ?_) t 0 (by omega) _ _ _ ls hO hA ⟨_, r2, fun j hj => absurd hj (Nat.not_lt_zero _)⟩ pk.rf (lv_sub hl [0, 1, 2, 4] rfl) hw
      have hb2 := hb2.kp k3 hyb
      refine lv_aload_n hx hb dX4_step_158 rfl (lv_at hl 2 rfl) ?_
      refine lv_aload_n hx hb dX4_step_159 rfl (lv_at hl 0 rfl) ?_
      refine pput (C := RX4) (T := TX4) (N := 14) (ci := 4) (ty := .int) hc hw inX4_step_X4 tyX4 tyX4_ok nmX4 hO rfl 7 (by decide) lkX4_step_f32 rfl rfl rfl rfl (Nat.le_of_ble_eq_true rfl) [.ref (ad 0), .ref (ad 1), .ref (ad 2), .ref (ad 3), .int (v1 4), .int (v1 5), .int (v1 6), .ref y, .ref (ad 5), .int (v1 9), .int (v1 10), .int (v1 11), .int (v1 12), .int (v1 13)] rfl dX4_step_160 (fun f H locs k4 hO4 hw => ?_)
      have r3 := r3.kp k4 (hO.neA r3).symm
      have hb2 := hb2.kp k4 (hO.neI hb2).symm
      have hA := hA.obj hO k4
      have hO := hO4
      obtain ⟨-, -, -, ⟨hW1, hW2⟩, -⟩ := id hA
      have hA := hA.newW (q := y) (wl1 := wl - 1) (o1 := o1) (wy1 := wy) ⟨by rw [show wl - 1 = t by omega]; exact r3, fun j hj => (by obtain ⟨a, e1, e2⟩ := hW2 j (by omega); exact ⟨a, (r4 j (by omega)).trans e1, e2⟩)⟩ n1.symm n6
      have hO : objS L2 f aS 4 [.ref (ad 0), .ref (ad 1), .ref (ad 2), .ref (ad 3), .int (v1 4), .int (v1 5), .int (v1 6), .ref y, .ref (ad 5), .int (v1 9), .int (v1 10), .int (v1 11), .int (v1 12), .int (v1 13)] := hO
      obtain ⟨⟨hR1, hR2, hR3⟩, ⟨hE1, hE2⟩, -⟩ := id hA
      have hq2' : wy (wl - 1) 0 = nI q2 := by rw [show wl - 1 = t by omega]; exact hq2
      have hx2' : wy (wl - 1) 1 = nI x2 := by rw [show wl - 1 = t by omega]; exact hx2
      refine lv_aload_n hx hb dX4_step_163 rfl (lv_at hl 2 rfl) ?_
      refine lv_aload_n hx hb dX4_step_164 rfl (lv_at hl 1 rfl) ?_
      refine lv_iconst (v := 0) hx hb dX4_step_165 (by decide) ?_
      refine pild hc hw hb2 0 rfl (by decide) (by omega) (v := (nI q2)) hq2 dX4_step_166 ?_
      refine pput (C := RX4) (T := TX4) (N := 14) (ci := 4) (ty := .int) hc hw inX4_step_X4 tyX4 tyX4_ok nmX4 hO rfl 4 (by decide) lkX4_step_f25 rfl rfl rfl rfl (Nat.le_of_ble_eq_true rfl) [.ref (ad 0), .ref (ad 1), .ref (ad 2), .ref (ad 3), .int (nI q2), .int (v1 5), .int (v1 6), .ref y, .ref (ad 5), .int (v1 9), .int (v1 10), .int (v1 11), .int (v1 12), .int (v1 13)] rfl dX4_step_167 (fun f H locs k5 hO5 hw => ?_)
      have hb2 := hb2.kp k5 (hO.neI hb2).symm
      have hA := hA.obj hO k5
      have hO := hO5
      obtain ⟨⟨hR1, hR2, hR3⟩, ⟨hE1, hE2⟩, -⟩ := id hA
      obtain ⟨hx24, ea, he1, he2⟩ := hE2 q2 hq2n
      obtain ⟨ra, hr3, hr4⟩ := hR2 k hk2
      refine lv_aload_n hx hb dX4_step_170 rfl (lv_at hl 2 rfl) ?_
      refine pget (C := RX4) (T := TX4) (N := 14) (ci := 4) hc hw inX4_step_X4 hO rfl 0 (by decide) lkX4_step_f9 rfl rfl dX4_step_171 ?_
      refine lv_aload_n hx hb dX4_step_174 rfl (lv_at hl 2 rfl) ?_
      refine pget (C := RX4) (T := TX4) (N := 14) (ci := 4) hc hw inX4_step_X4 hO rfl 1 (by decide) lkX4_step_f15 rfl rfl dX4_step_175 ?_
      refine lv_aload_n hx hb dX4_step_178 rfl (lv_at hl 1 rfl) ?_
      refine lv_iconst (v := 0) hx hb dX4_step_179 (by decide) ?_
      refine pild hc hw hb2 0 rfl (by decide) (by omega) (v := (nI q2)) hq2 dX4_step_180 ?_
      refine pald hc hw hE1 q2 rfl hq2n (by omega) (v := .ref ea) (by rw [he1]; rfl) dX4_step_181 ?_
      refine lv_aload_n hx hb dX4_step_182 rfl (lv_at hl 1 rfl) ?_
      refine lv_iconst (v := 1) hx hb dX4_step_183 (by decide) ?_
      refine pild hc hw hb2 1 rfl (by decide) (by omega) (v := (nI x2)) hx2 dX4_step_184 ?_
      refine pild hc hw he2 x2 rfl hx2n (by omega) (v := (nI k)) hk1 dX4_step_185 ?_
      refine pald hc hw hR1 k rfl hk2 (by omega) (v := .ref ra) (by rw [hr3]; rfl) dX4_step_186 ?_
      refine lv_iconst (v := 2) hx hb dX4_step_187 (by decide) ?_
      refine pild hc hw hr4 2 rfl (by decide) (by omega) (v := (rw k 2)) rfl dX4_step_188 ?_
      refine lv_istore (lv' := [(4, .int (rw k 2)), (3, .ref y), (2, .ref b), (0, .ref aS)]) hx hb dX4_step_189 hl (by decide) rfl (fun ls hl => ?_)
      refine lv_aload_n hx hb dX4_step_191 rfl (lv_at hl 3 rfl) ?_
      refine lv_dup hx hb dX4_step_192 rfl ?_
      refine pget (C := RX4) (T := TX4) (N := 14) (ci := 4) hc hw inX4_step_X4 hO rfl 9 (by decide) lkX4_step_f53 rfl rfl dX4_step_193 ?_
      refine lv_iload hx hb dX4_step_196 (lv_at hl 0 rfl) ?_
      refine lv_iadd hx hb dX4_step_198 ?_
      refine pput (C := RX4) (T := TX4) (N := 14) (ci := 4) (ty := .int) hc hw inX4_step_X4 tyX4 tyX4_ok nmX4 hO rfl 9 (by decide) lkX4_step_f53 rfl rfl rfl rfl (Nat.le_of_ble_eq_true rfl) [.ref (ad 0), .ref (ad 1), .ref (ad 2), .ref (ad 3), .int (nI q2), .int (v1 5), .int (v1 6), .ref y, .ref (ad 5), .int (v1 9 + rw k 2), .int (v1 10), .int (v1 11), .int (v1 12), .int (v1 13)] rfl dX4_step_199 (fun f H locs k6 hO6 hw => ?_)
      have hA := hA.obj hO k6
      have hO := hO6
      refine lv_aload_n hx hb dX4_step_202 rfl (lv_at hl 3 rfl) ?_
      refine lv_dup hx hb dX4_step_203 rfl ?_
      refine pget (C := RX4) (T := TX4) (N := 14) (ci := 4) hc hw inX4_step_X4 hO rfl 10 (by decide) lkX4_step_f56 rfl rfl dX4_step_204 ?_
      refine lv_iload hx hb dX4_step_207 (lv_at hl 0 rfl) ?_
      refine lv_iadd hx hb dX4_step_209 ?_
      refine pput (C := RX4) (T := TX4) (N := 14) (ci := 4) (ty := .int) hc hw inX4_step_X4 tyX4 tyX4_ok nmX4 hO rfl 10 (by decide) lkX4_step_f56 rfl rfl rfl rfl (Nat.le_of_ble_eq_true rfl) [.ref (ad 0), .ref (ad 1), .ref (ad 2), .ref (ad 3), .int (nI q2), .int (v1 5), .int (v1 6), .ref y, .ref (ad 5), .int (v1 9 + rw k 2), .int (v1 10 + rw k 2), .int (v1 11), .int (v1 12), .int (v1 13)] rfl dX4_step_210 (fun f H locs k7 hO7 hw => ?_)
      have hA := hA.obj hO k7
      have hO := hO7
      have hO : objS L2 f aS 4 [.ref (ad 0), .ref (ad 1), .ref (ad 2), .ref (ad 3), .int ((upd (upd (upd v1 4 (wy (wl - 1) 0)) 9 (v1 9 + rw k 2)) 10 (v1 10 + rw k 2)) 4), .int ((upd (upd (upd v1 4 (wy (wl - 1) 0)) 9 (v1 9 + rw k 2)) 10 (v1 10 + rw k 2)) 5), .int ((upd (upd (upd v1 4 (wy (wl - 1) 0)) 9 (v1 9 + rw k 2)) 10 (v1 10 + rw k 2)) 6), .ref y, .ref (ad 5), .int ((upd (upd (upd v1 4 (wy (wl - 1) 0)) 9 (v1 9 + rw k 2)) 10 (v1 10 + rw k 2)) 9), .int ((upd (upd (upd v1 4 (wy (wl - 1) 0)) 9 (v1 9 + rw k 2)) 10 (v1 10 + rw k 2)) 10), .int ((upd (upd (upd v1 4 (wy (wl - 1) 0)) 9 (v1 9 + rw k 2)) 10 (v1 10 + rw k 2)) 11), .int ((upd (upd (upd v1 4 (wy (wl - 1) 0)) 9 (v1 9 + rw k 2)) 10 (v1 10 + rw k 2)) 12), .int ((upd (upd (upd v1 4 (wy (wl - 1) 0)) 9 (v1 9 + rw k 2)) 10 (v1 10 + rw k 2)) 13)] := by
        have := hO
        rw [← hq2'] at this
        exact this
      refine lpS_stE (v := (upd (upd (upd v1 4 (wy (wl - 1) 0)) 9 (v1 9 + rw k 2)) 10 (v1 10 + rw k 2))) (rw := rw) (ak := ak1) (wl := (wl - 1)) (wy := wy) (mp := mp1) (mm := mm1) hc hg6 (by omega) hn10 hr20 (by omega) (fun j hj => hV.2.2 j (by omega)) (Nat.le_of_ble_eq_true rfl) (Nat.le_of_ble_eq_true rfl) ⟨by (try dsimp only); omega, by (try dsimp only); omega⟩ hO hA (fun L f H locs ls pc v3 rw3 ak3 wl3 mp3 mm3 hd hS hw hdec => ?_) (lv_sub hl [3] rfl) hw
      refine pret_z hc hw rfl ⟨v3, rw3, ak3, wl3, _, mp3, mm3, ⟨_, v1, ak1, mp1, mm1, hch, Or.inr ⟨(upd (upd (upd v1 4 (wy (wl - 1) 0)) 9 (v1 9 + rw k 2)) 10 (v1 10 + rw k 2)), rw, (wl - 1), wy, (Or.inr ⟨by rw [hr1]; decide, by omega, rfl, rfl, rfl, rw k 2, by rw [hq2c, hx2c, hkc], rfl⟩), rfl, ?_⟩⟩, hS⟩ (by first | exact ⟨Nat.le_of_ble_eq_true rfl, Nat.le_of_ble_eq_true rfl⟩ | (refine ⟨?_, ?_⟩ <;> ((try dsimp only); omega))) hdec
      rcases hd with ⟨d1, d2, d3, d4, d5, d6, d7⟩ | ⟨d1, d2, d3, d4, d5, d6, d7⟩
      · exact Or.inl ⟨d1, d2, d3, d4, d5, rfl, d6, d7⟩
      · exact Or.inr ⟨d1, d2, d3, d4, d5, rfl, d6, d7⟩
    · have hw0 : wl = 0 := (by
        cases wl with
        | zero => rfl
        | succ t => exact absurd hnz (nI_ne0 (by omega) (by omega)))
      refine lv_aload_n hx hb dX4_step_91 rfl (lv_at hl 1 rfl) ?_
      refine lv_dup hx hb dX4_step_92 rfl ?_
      refine pget (C := RX4) (T := TX4) (N := 14) (ci := 4) hc hw inX4_step_X4 hO rfl 12 (by decide) lkX4_step_f62 rfl rfl dX4_step_93 ?_
      refine lv_iconst (v := 1) hx hb dX4_step_96 (by decide) ?_
      refine lv_iadd hx hb dX4_step_97 ?_
      refine pput (C := RX4) (T := TX4) (N := 14) (ci := 4) (ty := .int) hc hw inX4_step_X4 tyX4 tyX4_ok nmX4 hO rfl 12 (by decide) lkX4_step_f62 rfl rfl rfl rfl (Nat.le_of_ble_eq_true rfl) [.ref (ad 0), .ref (ad 1), .ref (ad 2), .ref (ad 3), .int (v1 4), .int (v1 5), .int (v1 6), .ref (ad 4), .ref (ad 5), .int (v1 9), .int (v1 10), .int (v1 11), .int (v1 12 + 1), .int (v1 13)] rfl dX4_step_98 (fun f H locs k1 hO1 hw => ?_)
      have hA := hA.obj hO k1
      have hO := hO1
      refine lv_aload_n hx hb dX4_step_101 rfl (lv_at hl 1 rfl) ?_
      refine pcall_v hc hw (prunV (n := 0) (As := []) (rest := []) hc hw (metS_over l G _ _ _ aS (upd v1 12 (v1 12 + 1)) n xn xr nr rw sh ak1 wl wy mp1 mm1 ⟨_, _, _, hO, hA⟩ hr20) gX4_step_X4_over rfl (by decide +kernel) ⟨Nat.le_of_ble_eq_true rfl, Nat.le_of_ble_eq_true rfl⟩ hO rfl rfl rfl hl.1 (Nat.le_of_ble_eq_true rfl) dX4_step_102 (by first | exact ⟨Nat.le_of_ble_eq_true rfl, Nat.le_of_ble_eq_true rfl⟩ | (refine ⟨?_, ?_⟩ <;> ((try dsimp only); omega)))) (fun L1 f H locs hp hw => ?_)
      refine lv_iconst (v := 0) hx hb dX4_step_105 (by decide) ?_
      exact pret_z hc hw rfl ⟨_, _, _, _, _, _, _, ⟨_, v1, ak1, mp1, mm1, hch, Or.inl ⟨by rw [hr1]; decide, hw0, rfl, rfl, rfl, rfl, rfl, rfl, rfl, rfl⟩⟩, hp⟩ (by first | exact ⟨Nat.le_of_ble_eq_true rfl, Nat.le_of_ble_eq_true rfl⟩ | (refine ⟨?_, ?_⟩ <;> ((try dsimp only); omega))) dX4_step_106
  · obtain ⟨x, hrx, hx0⟩ : ∃ x, r = nI x ∧ x < xn q := (by
      rcases hr with h | h
      · exact absurd (by rw [h]; decide) hz
      · exact h)
    subst hrx
    obtain ⟨⟨hR1, hR2, hR3⟩, ⟨hE1, hE2⟩, -⟩ := id hA
    obtain ⟨hx4, ea, he1, he2⟩ := hE2 q hq
    obtain ⟨k, hk1, hk2⟩ := hX.2.2.1 q x hq hx0
    obtain ⟨ra, hr1, hr2⟩ := hR2 k hk2
    have hkc : (xr q x).toNatClampNeg = k := by rw [hk1, nI_clamp (by omega)]
    have hAp0 := hA
    refine lv_aload_n hx hb dX4_step_9 rfl (lv_at hl 1 rfl) ?_
    refine pget (C := RX4) (T := TX4) (N := 14) (ci := 4) hc hw inX4_step_X4 hO rfl 0 (by decide) lkX4_step_f9 rfl rfl dX4_step_10 ?_
    refine lv_aload_n hx hb dX4_step_13 rfl (lv_at hl 1 rfl) ?_
    refine pget (C := RX4) (T := TX4) (N := 14) (ci := 4) hc hw inX4_step_X4 hO rfl 1 (by decide) lkX4_step_f15 rfl rfl dX4_step_14 ?_
    refine lv_aload_n hx hb dX4_step_17 rfl (lv_at hl 1 rfl) ?_
    refine pget (C := RX4) (T := TX4) (N := 14) (ci := 4) hc hw inX4_step_X4 hO rfl 4 (by decide) lkX4_step_f25 rfl rfl dX4_step_18 ?_
    refine pald hc hw hE1 q hq4 hq (by omega) (v := .ref ea) (by rw [he1]; rfl) dX4_step_21 ?_
    refine lv_iload_n hx hb dX4_step_22 rfl (lv_at hl 0 rfl) ?_
    refine pild hc hw he2 x rfl hx0 (by omega) (v := (nI k)) hk1 dX4_step_23 ?_
    refine pald hc hw hR1 k rfl hk2 (by omega) (v := .ref ra) (by rw [hr1]; rfl) dX4_step_24 ?_
    refine lv_astore_n (lv' := [(2, .ref ra), (1, .int (nI x)), (0, .ref aS)]) hx hb dX4_step_25 rfl hl (by decide) rfl (fun ls hl => ?_)
    refine lv_aload_n hx hb dX4_step_26 rfl (lv_at hl 0 rfl) ?_
    refine lv_iconst (v := 4) hx hb dX4_step_27 (by decide) ?_
    refine lv_iconst (v := 1) hx hb dX4_step_28 (by decide) ?_
    refine pist hc hw hr2 4 rfl (by decide) (by omega) dX4_step_29 (fun f H locs k2 r2 hw => ?_)
    have hO := hO.kp k2 (hO.neI hr2)
    have hA := hA.setRoad hk2 hr1 k2 r2
    have hr2 := r2
    have hAp := hA
    refine lv_aload_n hx hb dX4_step_30 rfl (lv_at hl 2 rfl) ?_
    refine lv_aload_n hx hb dX4_step_31 rfl (lv_at hl 2 rfl) ?_
    refine pget (C := RX4) (T := TX4) (N := 14) (ci := 4) hc hw inX4_step_X4 hO rfl 7 (by decide) lkX4_step_f32 rfl rfl dX4_step_32 ?_
    refine lv_iconst (v := 2) hx hb dX4_step_35 (by decide) ?_
    refine pnewI hc hw 2 rfl (by omega) lkX4_step_aI (by first | exact Nat.le_of_ble_eq_true rfl | ((try dsimp only); omega)) (by first | exact Nat.le_of_ble_eq_true rfl | ((try dsimp only); omega)) dX4_step_36 (fun z L2 f2 H hzn k3 r3 hw => ?_)
    have hzr : ¬ ra = z := fun w => hzn (w ▸ hr2.1)
    have hO := hO.kp k3 (fun z => z)
    have hA := hA.fresh k3
    have hr2 := hr2.kp k3 (fun z => z)
    have hO0 := hO
    have hA0 := hA
    have hr20' := hr2
    refine lv_dup hx hb dX4_step_38 rfl ?_
    refine lv_iconst (v := 0) hx hb dX4_step_39 (by decide) ?_
    refine lv_aload_n hx hb dX4_step_40 rfl (lv_at hl 2 rfl) ?_
    refine pget (C := RX4) (T := TX4) (N := 14) (ci := 4) hc hw inX4_step_X4 hO rfl 4 (by decide) lkX4_step_f25 rfl rfl dX4_step_41 ?_
    refine pist hc hw r3 0 rfl (by decide) (by omega) dX4_step_44 (fun f H locs k4 r4 hw => ?_)
    have kz := k4
    refine lv_dup hx hb dX4_step_45 rfl ?_
    refine lv_iconst (v := 1) hx hb dX4_step_46 (by decide) ?_
    refine lv_iload_n hx hb dX4_step_47 rfl (lv_at hl 1 rfl) ?_
    refine pist hc hw r4 1 rfl (by decide) (by omega) dX4_step_48 (fun f H locs k5 r5 hw => ?_)
    have kz2 := kz.tr k5
    have hOz := hO.kp kz2 (hO.neI r3)
    have hA := hAp.fresh (k3.off hzn kz2)
    have hO := hOz
    have hr2 := hr2.kp kz2 hzr
    obtain ⟨-, -, -, ⟨hW1, hW2⟩, -⟩ := id hA
    refine pcall_r hc hw (prunS (n := 2) (As := [.ref (ad 4), .ref z]) (rest := [.ref aS]) hc hw (metS_more l G _ _ _ (ad 4) wl z 2 _ (oo 2) (by omega) hW1 (fun j hj => (by obtain ⟨b, e1, e2⟩ := hW2 j hj; exact ⟨b, _, _, e1, e2⟩)) r5) gX4_step_X4_more rfl (by decide +kernel) ⟨Nat.le_of_ble_eq_true rfl, Nat.le_of_ble_eq_true rfl⟩ rfl rfl hl.1 (Nat.le_of_ble_eq_true rfl) dX4_step_49 (by first | exact ⟨Nat.le_of_ble_eq_true rfl, Nat.le_of_ble_eq_true rfl⟩ | (refine ⟨?_, ?_⟩ <;> ((try dsimp only); omega)))) (fun y L3 f3 H locs hp hw => ?_)
    obtain ⟨hyn, k6, o1, y2, y3, y4⟩ := hp
    obtain ⟨⟨n0, n1, n2, n3, n4, n5⟩, n6⟩ := hA.nin hyn
    have hO := hO.kp k6 (fun z => z)
    have hA := hA.fresh k6
    have hr2 := hr2.kp k6 (fun z => z)
    have r5 := r5.kp k6 (fun z => z)
    refine pput (C := RX4) (T := TX4) (N := 14) (ci := 4) (ty := .int) hc hw inX4_step_X4 tyX4 tyX4_ok nmX4 hO rfl 7 (by decide) lkX4_step_f32 rfl rfl rfl rfl (Nat.le_of_ble_eq_true rfl) [.ref (ad 0), .ref (ad 1), .ref (ad 2), .ref (ad 3), .int (v1 4), .int (v1 5), .int (v1 6), .ref y, .ref (ad 5), .int (v1 9), .int (v1 10), .int (v1 11), .int (v1 12), .int (v1 13)] rfl dX4_step_52 (fun f H locs k7 hO7 hw => ?_)
    have y2 := y2.kp k7 (hO.neA y2).symm
    have hr2 := hr2.kp k7 (hO.neI hr2).symm
    have r5 := r5.kp k7 (hO.neI r5).symm
    have hA := hA.obj hO k7
    have hO := hO7
    obtain ⟨-, -, -, ⟨hW1, hW2⟩, -⟩ := id hA
    have hA := hA.newW (q := y) (wl1 := wl + 1) (o1 := o1) (wy1 := sWy wy wl q x) ⟨y2, fun j hj => ?_⟩ n1.symm n6
    rotate_left
    · unfold sWy
      by_cases ej : j = wl
      · subst ej
        rw [va_up_self]
        refine ⟨z, y4, ?_⟩
        rw [← hq4]
        exact r5
      · obtain ⟨b, e1, e2⟩ := hW2 j (by omega)
        rw [va_up_ne _ _ ej]
        exact ⟨b, (y3 j (by omega)).trans e1, e2⟩
    have hO : objS L3 f aS 4 [.ref (ad 0), .ref (ad 1), .ref (ad 2), .ref (ad 3), .int (v1 4), .int (v1 5), .int (v1 6), .ref y, .ref (ad 5), .int (v1 9), .int (v1 10), .int (v1 11), .int (v1 12), .int (v1 13)] := hO
    refine lv_aload_n hx hb dX4_step_55 rfl (lv_at hl 2 rfl) ?_
    refine lv_aload_n hx hb dX4_step_56 rfl (lv_at hl 2 rfl) ?_
    refine lv_aload_n hx hb dX4_step_57 rfl (lv_at hl 2 rfl) ?_
    refine pget (C := RX4) (T := TX4) (N := 14) (ci := 4) hc hw inX4_step_X4 hO rfl 4 (by decide) lkX4_step_f25 rfl rfl dX4_step_58 ?_
    refine lv_iload_n hx hb dX4_step_61 rfl (lv_at hl 1 rfl) ?_
    rw [hq4]
    refine pcall_i hc hw (prunV (n := 2) (As := [.int (nI q), .int (nI x)]) (rest := [.ref aS]) hc hw (metS_to l G _ _ _ aS v1 n xn xr nr (va_up rw k (upd (rw k) 4 1)) _ _ _ _ _ _ ⟨_, _, _, hO, hA⟩ (sX_set hX k 1) q x hq hx0) gX4_step_X4_to rfl (by decide +kernel) ⟨Nat.le_of_ble_eq_true rfl, Nat.le_of_ble_eq_true rfl⟩ hO rfl rfl rfl hl.1 (Nat.le_of_ble_eq_true rfl) dX4_step_62 (by first | exact ⟨Nat.le_of_ble_eq_true rfl, Nat.le_of_ble_eq_true rfl⟩ | (refine ⟨?_, ?_⟩ <;> ((try dsimp only); omega)))) (fun t L9 f9 H locs hp hw => ?_)
    obtain ⟨het, eu⟩ := hp
    obtain ⟨eL, ef⟩ := Prod.mk.inj eu
    rw [eL, ef] at hw
    rw [sTo_set] at het
    refine pput (C := RX4) (T := TX4) (N := 14) (ci := 4) (ty := .int) hc hw inX4_step_X4 tyX4 tyX4_ok nmX4 hO rfl 4 (by decide) lkX4_step_f25 rfl rfl rfl rfl (Nat.le_of_ble_eq_true rfl) [.ref (ad 0), .ref (ad 1), .ref (ad 2), .ref (ad 3), .int t, .int (v1 5), .int (v1 6), .ref y, .ref (ad 5), .int (v1 9), .int (v1 10), .int (v1 11), .int (v1 12), .int (v1 13)] rfl dX4_step_65 (fun f H locs k8 hO8 hw => ?_)
    have hr2 := hr2.kp k8 (hO.neI hr2).symm
    have hA := hA.obj hO k8
    have hO := hO8
    refine lv_aload_n hx hb dX4_step_68 rfl (lv_at hl 2 rfl) ?_
    refine lv_dup hx hb dX4_step_69 rfl ?_
    refine pget (C := RX4) (T := TX4) (N := 14) (ci := 4) hc hw inX4_step_X4 hO rfl 9 (by decide) lkX4_step_f53 rfl rfl dX4_step_70 ?_
    refine lv_aload_n hx hb dX4_step_73 rfl (lv_at hl 0 rfl) ?_
    refine lv_iconst (v := 2) hx hb dX4_step_74 (by decide) ?_
    refine pild hc hw hr2 2 rfl (by decide) (by omega) (v := (rw k 2)) rfl dX4_step_75 ?_
    refine lv_iadd hx hb dX4_step_76 ?_
    refine pput (C := RX4) (T := TX4) (N := 14) (ci := 4) (ty := .int) hc hw inX4_step_X4 tyX4 tyX4_ok nmX4 hO rfl 9 (by decide) lkX4_step_f53 rfl rfl rfl rfl (Nat.le_of_ble_eq_true rfl) [.ref (ad 0), .ref (ad 1), .ref (ad 2), .ref (ad 3), .int t, .int (v1 5), .int (v1 6), .ref y, .ref (ad 5), .int (v1 9 + rw k 2), .int (v1 10), .int (v1 11), .int (v1 12), .int (v1 13)] rfl dX4_step_77 (fun f H locs k9 hO9 hw => ?_)
    have hA := hA.obj hO k9
    have hO := hO9
    refine lv_goto (tgt := 213) hx hb dX4_step_80 (by decide) ?_
    have hO : objS L3 f aS 4 [.ref (ad 0), .ref (ad 1), .ref (ad 2), .ref (ad 3), .int ((upd (upd v1 4 (sTo rw xr q x)) 9 (v1 9 + rw k 2)) 4), .int ((upd (upd v1 4 (sTo rw xr q x)) 9 (v1 9 + rw k 2)) 5), .int ((upd (upd v1 4 (sTo rw xr q x)) 9 (v1 9 + rw k 2)) 6), .ref y, .ref (ad 5), .int ((upd (upd v1 4 (sTo rw xr q x)) 9 (v1 9 + rw k 2)) 9), .int ((upd (upd v1 4 (sTo rw xr q x)) 9 (v1 9 + rw k 2)) 10), .int ((upd (upd v1 4 (sTo rw xr q x)) 9 (v1 9 + rw k 2)) 11), .int ((upd (upd v1 4 (sTo rw xr q x)) 9 (v1 9 + rw k 2)) 12), .int ((upd (upd v1 4 (sTo rw xr q x)) 9 (v1 9 + rw k 2)) 13)] := by
      rw [het] at hO
      exact hO
    refine lpS_stE (v := (upd (upd v1 4 (sTo rw xr q x)) 9 (v1 9 + rw k 2))) (rw := (va_up rw k (upd (rw k) 4 1))) (ak := ak1) (wl := (wl + 1)) (wy := (sWy wy wl q x)) (mp := mp1) (mm := mm1) hc hg6 (by omega) hn10 hr20 (by omega) (fun j hj => (by
        unfold sWy
        by_cases ej : j = wl
        · subst ej
          rw [va_up_self]
          exact ⟨q, x, rfl, hq, rfl, hx0⟩
        · rw [va_up_ne _ _ ej]
          exact hV.2.2 j (by omega))) (Nat.le_of_ble_eq_true rfl) (Nat.le_of_ble_eq_true rfl) ⟨by (try dsimp only); omega, by (try dsimp only); omega⟩ hO hA (fun L f H locs ls pc v3 rw3 ak3 wl3 mp3 mm3 hd hS hw hdec => ?_) (lv_sub hl [2] rfl) hw
    refine pret_z hc hw rfl ⟨v3, rw3, ak3, wl3, _, mp3, mm3, ⟨_, v1, ak1, mp1, mm1, hch, Or.inr ⟨(upd (upd v1 4 (sTo rw xr q x)) 9 (v1 9 + rw k 2)), (va_up rw k (upd (rw k) 4 1)), (wl + 1), (sWy wy wl q x), (Or.inl ⟨x, rfl, by omega, by rw [hkc], rfl, rfl, by rw [hkc]⟩), rfl, ?_⟩⟩, hS⟩ (by first | exact ⟨Nat.le_of_ble_eq_true rfl, Nat.le_of_ble_eq_true rfl⟩ | (refine ⟨?_, ?_⟩ <;> ((try dsimp only); omega))) hdec
    rcases hd with ⟨d1, d2, d3, d4, d5, d6, d7⟩ | ⟨d1, d2, d3, d4, d5, d6, d7⟩
    · exact Or.inl ⟨d1, d2, d3, d4, d5, rfl, d6, d7⟩
    · exact Or.inr ⟨d1, d2, d3, d4, d5, rfl, d6, d7⟩
