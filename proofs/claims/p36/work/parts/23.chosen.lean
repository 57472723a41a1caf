theorem inX4_chosen_X4 : ∀ w ∈ u_ws RX4 TX4 14, w ∈ wsX4_chosen := fun _ h => List.mem_cons_of_mem _ (List.mem_append_right _ h)
theorem lkX4_chosen_f15 : Cond.fieldLink RX4 15 "MapCarrierLaw$Sim" "exits" "[[I" ∈ wsX4_chosen := List.mem_of_getElem? (i := 8) (by decide +kernel)
theorem lkX4_chosen_f25 : Cond.fieldLink RX4 25 "MapCarrierLaw$Sim" "where" "I" ∈ wsX4_chosen := List.mem_of_getElem? (i := 3) (by decide +kernel)
theorem lkX4_chosen_f9 : Cond.fieldLink RX4 9 "MapCarrierLaw$Sim" "roads" "[[I" ∈ wsX4_chosen := List.mem_of_getElem? (i := 9) (by decide +kernel)
theorem lkX4_chosen_f29 : Cond.fieldLink RX4 29 "MapCarrierLaw$Sim" "goal" "I" ∈ wsX4_chosen := List.mem_of_getElem? (i := 2) (by decide +kernel)
theorem lkX4_chosen_f18 : Cond.fieldLink RX4 18 "MapCarrierLaw$Sim" "shepherd" "[Z" ∈ wsX4_chosen := List.mem_of_getElem? (i := 4) (by decide +kernel)
theorem lkX4_chosen_f22 : Cond.fieldLink RX4 22 "MapCarrierLaw$Sim" "isAsked" "[Z" ∈ wsX4_chosen := List.mem_of_getElem? (i := 5) (by decide +kernel)
theorem lkX4_chosen_f50 : Cond.fieldLink RX4 50 "MapCarrierLaw$Sim" "coins" "I" ∈ wsX4_chosen := List.mem_of_getElem? (i := 6) (by decide +kernel)
theorem lkX4_chosen_f65 : Cond.fieldLink RX4 65 "MapCarrierLaw$Sim" "asked" "I" ∈ wsX4_chosen := List.mem_of_getElem? (i := 7) (by decide +kernel)
theorem lkX4_chosen_f37 : Cond.fieldLink RX4 37 "MapCarrierLaw$Sim" "memory" "[[[I" ∈ wsX4_chosen := List.mem_of_getElem? (i := 1) (by decide +kernel)
theorem lkX4_chosen_aI : Cond.arrayClass .int ∈ wsX4_chosen := List.mem_of_getElem? (i := 10) (by decide +kernel)
/-! the second carrier: which exit is chosen -/
/-- what of it changes is in range -/
def sVd (n : Nat) (xn : Nat → Nat) (v : Nat → Int32) (wl : Nat) (wy : Nat → Nat → Int32) (mp : Nat → Nat → Bool) (mm : Nat → Nat → Nat → Int32) : Prop := (∀ g q, g < 10 → q < n → mp g q = true → ∃ x, mm g q 0 = nI x ∧ x < xn q) ∧ wl ≤ 20 ∧ ∀ k, k < wl → ∃ q x, wy k 0 = nI q ∧ q < n ∧ wy k 1 = nI x ∧ x < xn q
/-- the miles by an exit to a goal -/
def sIts (n : Nat) (xr : Nat → Nat → Int32) (nr : Nat) (rw : Nat → Nat → Int32) (q : Nat) (g : Int32) (x : Nat) : Int32 := if rw (xr q x).toNatClampNeg 3 = 0 then 9999 else rw (xr q x).toNatClampNeg 2 + sFar rw nr n (sTo rw xr q x) g
/-- the best of the exits, of several the first, looked at from the last: after k of N -/
def sBst (its : Nat → Int32) (N : Nat) : Nat → Int32 × Int32
  | 0 => (-1, 9999)
  | k + 1 => if 9999 ≤ its (N - 1 - k) then sBst its N k else if (sBst its N k).2 < its (N - 1 - k) then sBst its N k else (nI (N - 1 - k), its (N - 1 - k))
/-- the first free exit from the x-th on -/
def sFst (rw xr : Nat → Nat → Int32) (q : Nat) : Nat → Nat → Int32
  | 0, _ => -1
  | d + 1, x => if sFr rw xr q x = 0 then sFst rw xr q d (x + 1) else nI x
theorem sBst_in (its : Nat → Int32) (N : Nat) : ∀ k, k ≤ N → (sBst its N k).1 = -1 ∨ ∃ x, (sBst its N k).1 = nI x ∧ x < N
  | 0, _ => Or.inl rfl
  | k + 1, h => by
    rw [sBst]
    split
    · exact sBst_in its N k (by omega)
    · split
      · exact sBst_in its N k (by omega)
      · exact Or.inr ⟨N - 1 - k, rfl, by omega⟩
/-- how an exit is chosen: the answer, and what is changed by the asking -/
def sChR (v : Nat → Int32) (n : Nat) (xn : Nat → Nat) (xr : Nat → Nat → Int32) (nr : Nat) (rw : Nat → Nat → Int32) (sh ak : Nat → Int32) (mp : Nat → Nat → Bool) (mm : Nat → Nat → Nat → Int32) (q g : Nat) (r : Int32) (v' ak' : Nat → Int32) (mp' : Nat → Nat → Bool) (mm' : Nat → Nat → Nat → Int32) : Prop :=
  ((mp g q = true ∧ ¬ sFr rw xr q (mm g q 0).toNatClampNeg = 0) ∧ r = mm g q 0 ∧ v' = v ∧ ak' = ak ∧ mp' = mp ∧ mm' = mm) ∨
  (¬ (mp g q = true ∧ ¬ sFr rw xr q (mm g q 0).toNatClampNeg = 0) ∧ ¬ (¬ sh q = 0 ∧ ak q = 0 ∧ 0 < v 5) ∧ r = sFst rw xr q (xn q) 0 ∧ v' = v ∧ ak' = ak ∧ mp' = mp ∧ mm' = mm) ∨
  (¬ (mp g q = true ∧ ¬ sFr rw xr q (mm g q 0).toNatClampNeg = 0) ∧ (¬ sh q = 0 ∧ ak q = 0 ∧ 0 < v 5) ∧ v' = upd (upd v 5 (v 5 - 1)) 13 (v 13 + 1) ∧ ak' = upd ak q 1 ∧
    (((sBst (sIts n xr nr rw q (nI g)) (xn q) (xn q)).1 < 0 ∧ r = sFst rw xr q (xn q) 0 ∧ mp' = mp ∧ mm' = mm) ∨
     (¬ (sBst (sIts n xr nr rw q (nI g)) (xn q) (xn q)).1 < 0 ∧ mp' = va_up mp g (va_up (mp g) q true) ∧ mm' = va_up mm g (va_up (mm g) q (upd (upd (fun _ => 0) 0 (sBst (sIts n xr nr rw q (nI g)) (xn q) (xn q)).1) 1 3)) ∧
       r = if sFr rw xr q (sBst (sIts n xr nr rw q (nI g)) (xn q) (xn q)).1.toNatClampNeg = 0 then sFst rw xr q (xn q) 0 else (sBst (sIts n xr nr rw q (nI g)) (xn q) (xn q)).1)))
theorem sTo_in {n : Nat} {xn : Nat → Nat} {xr : Nat → Nat → Int32} {nr : Nat} {rw : Nat → Nat → Int32} (hX : sX n xn xr nr rw) {q x : Nat} (hq : q < n) (hx : x < xn q) : ∃ b, sTo rw xr q x = nI b ∧ b < n := by
  obtain ⟨k, hk1, hk2⟩ := hX.2.2.1 q x hq hx
  have hr := hX.2.1
  obtain ⟨a, b, h1, h2, h3, h4⟩ := hX.2.2.2 k hk2
  unfold sTo
  rw [hk1, nI_clamp (by omega)]
  split
  · exact ⟨b, h3, h4⟩
  · exact ⟨a, h1, h2⟩
set_option maxHeartbeats 40000000 in
set_option maxRecDepth 100000 in
theorem lpS_chF {p : Program} {l : Launch} {e : Env} {R : Room} {s : State} {m : MethodId} {args : Array Value} {below : List Frame} {meth : Method} {c : Code} {cells slots : Nat} {Q : State → Prop} {ret : Option FieldType} {G : xG} {A : Nat → Prop} (hc : xC p s m args meth c cX4_chosen 7 RX4 wsX4_chosen ret G A) {aS : Nat} {ad : Nat → Nat} {oo om : Nat → Nat → Option Nat} {v : Nat → Int32} {n : Nat} {xn : Nat → Nat} {xr : Nat → Nat → Int32} {nr : Nat} {rw : Nat → Nat → Int32} {sh ak : Nat → Int32} {wl : Nat} {wy : Nat → Nat → Int32} {mp : Nat → Nat → Bool} {mm : Nat → Nat → Nat → Int32} {L : List Nat} {f : Nat → va_E} (hX : sX n xn xr nr rw) (hV : sVd n xn v wl wy mp mm) {q g : Nat} (hq4 : v 4 = nI q) (hq : q < n) (hg6 : v 6 = nI g) (hg : g < n) (hRf : 3 ≤ R.frames) (hRl : 80 ≤ R.locals) (hRc : cells ≤ R.cells ∧ slots ≤ R.slots) (hO : objS L f aS 4 [.ref (ad 0), .ref (ad 1), .ref (ad 2), .ref (ad 3), .int (v 4), .int (v 5), .int (v 6), .ref (ad 4), .ref (ad 5), .int (v 9), .int (v 10), .int (v 11), .int (v 12), .int (v 13)]) (hA : ShA G L f ad oo om n xn xr nr rw sh ak wl wy mp mm)
    (kx : True) :
    ∀ (d i : Nat), i + d = xn q → ∀  (H : Heap) (locs : List Loc) (ls : Array Slot), (∀ (H : Heap) (locs : List Loc) (ls : Array Slot) (x : Int32) (pc : Nat), sFst rw xr q d i = x → xW G A s.heap (([] : va_W) ++ va_pl L f) H locs → decode cX4_chosen pc = .ok (.ireturn, 1) → W p l e R s m args below meth c H locs cells slots Q (F0 m pc ls [.int x])) → lv_has ls 7 [(2, .int (nI i)), (0, .ref aS)] → xW G A s.heap (([] : va_W) ++ va_pl L f) H locs → W p l e R s m args below meth c H locs cells slots Q (F0 m 250 ls []) := by
  obtain ⟨hx, hb, -, hown, hts, -⟩ := id hc
  intro d
  induction d with
  | zero =>
    intro i hd  H locs ls ke hl hw
    have hn10 : n ≤ 10 := hX.1
    have hE := hA.2.1
    obtain ⟨hx4, ea, hea1, hea2⟩ := hE.2 q hq
    refine lv_iload_n hx hb dX4_chosen_250 rfl (lv_at hl 0 rfl) ?_
    refine lv_aload_n hx hb dX4_chosen_251 rfl (lv_at hl 1 rfl) ?_
    refine pget (C := RX4) (T := TX4) (N := 14) (ci := 4) hc hw inX4_chosen_X4 hO rfl 1 (by decide) lkX4_chosen_f15 rfl rfl dX4_chosen_252 ?_
    refine lv_aload_n hx hb dX4_chosen_255 rfl (lv_at hl 1 rfl) ?_
    refine pget (C := RX4) (T := TX4) (N := 14) (ci := 4) hc hw inX4_chosen_X4 hO rfl 4 (by decide) lkX4_chosen_f25 rfl rfl dX4_chosen_256 ?_
    refine pald hc hw hE.1 q hq4 hq (by omega) (v := .ref ea) (by rw [hea1]; rfl) dX4_chosen_259 ?_
    refine plenI hc hw hea2 dX4_chosen_260 ?_
    refine lv_icmp_ge (tgt := 280) hx hb dX4_chosen_261 (by decide) (fun hz => ?_) (fun h => absurd (nI_le (by omega) (by omega)) h)
    refine lv_iconst (v := (-1)) hx hb dX4_chosen_280 (by decide) ?_
    exact ke H locs ls (-1) 281 (by rw [sFst]) hw dX4_chosen_281
  | succ d ih =>
    intro i hd  H locs ls ke hl hw
    have hn10 : n ≤ 10 := hX.1
    have hE := hA.2.1
    obtain ⟨hx4, ea, hea1, hea2⟩ := hE.2 q hq
    refine lv_iload_n hx hb dX4_chosen_250 rfl (lv_at hl 0 rfl) ?_
    refine lv_aload_n hx hb dX4_chosen_251 rfl (lv_at hl 1 rfl) ?_
    refine pget (C := RX4) (T := TX4) (N := 14) (ci := 4) hc hw inX4_chosen_X4 hO rfl 1 (by decide) lkX4_chosen_f15 rfl rfl dX4_chosen_252 ?_
    refine lv_aload_n hx hb dX4_chosen_255 rfl (lv_at hl 1 rfl) ?_
    refine pget (C := RX4) (T := TX4) (N := 14) (ci := 4) hc hw inX4_chosen_X4 hO rfl 4 (by decide) lkX4_chosen_f25 rfl rfl dX4_chosen_256 ?_
    refine pald hc hw hE.1 q hq4 hq (by omega) (v := .ref ea) (by rw [hea1]; rfl) dX4_chosen_259 ?_
    refine plenI hc hw hea2 dX4_chosen_260 ?_
    refine lv_icmp_ge (tgt := 280) hx hb dX4_chosen_261 (by decide) (fun h => absurd h (nI_ge (by omega) (by omega))) (fun hz => ?_)
    refine lv_aload_n hx hb dX4_chosen_264 rfl (lv_at hl 1 rfl) ?_
    refine lv_iload_n hx hb dX4_chosen_265 rfl (lv_at hl 0 rfl) ?_
    refine pcall_i hc hw (prunV (n := 1) (As := [.int (nI i)]) (rest := []) hc hw (metS_isFree l G _ _ _ aS v n xn xr nr rw _ _ _ _ _ _ ⟨_, _, _, hO, hA⟩ hX q i ⟨hq4, hq⟩ (by omega)) gX4_chosen_X4_isFree rfl (by decide +kernel) ⟨by (try dsimp only); omega, by (try dsimp only); omega⟩ hO rfl rfl rfl hl.1 (Nat.le_of_ble_eq_true rfl) dX4_chosen_266 ⟨by (try dsimp only); omega, by (try dsimp only); omega⟩) (fun y L9 f9 H locs hp hw => ?_)
    obtain ⟨hey, eu⟩ := hp
    obtain ⟨eL, ef⟩ := Prod.mk.inj eu
    rw [eL, ef] at hw
    refine lv_if_eq (tgt := 274) hx hb dX4_chosen_269 (by decide) (fun hz => ?_) (fun hz => ?_)
    · refine lv_iinc (v := nI (i + 1)) (lv' := [(2, .int (nI (i + 1))), (0, .ref aS)]) hx hb dX4_chosen_274 hl (k := 0) rfl (nI_1 _) (by decide) rfl (fun ls hl => ?_)
      refine lv_goto (tgt := 250) hx hb dX4_chosen_277 (by decide) ?_
      exact ih (i + 1) (by omega) H locs ls (fun H2 locs2 ls2 x pc hx => ke H2 locs2 ls2 x pc (by rw [sFst, if_pos (by rw [← hey]; exact hz)]; exact hx)) hl hw
    · refine lv_iload_n hx hb dX4_chosen_272 rfl (lv_at hl 0 rfl) ?_
      exact ke H locs ls (nI i) 273 (by rw [sFst, if_neg (by rw [← hey]; exact hz)]) hw dX4_chosen_273
theorem xdec (x : Int32) : x + Int32.ofInt (-1) = x - 1 := by rw [Int32.sub_eq_add_neg, show Int32.ofInt (-1) = -(1 : Int32) from by decide]
theorem pW_eq {p : Program} {l : Launch} {e : Env} {R : Room} {s : State} {m : MethodId} {args : Array Value} {below : List Frame} {meth : Method} {c : Code} {H : Heap} {locs : List Loc} {c1 c2 s1 s2 : Nat} {Q : State → Prop} {g : JFrame} (h1 : c1 = c2) (h2 : s1 = s2) (k : W p l e R s m args below meth c H locs c2 s2 Q g) : W p l e R s m args below meth c H locs c1 s1 Q g := by subst h1; subst h2; exact k
theorem pW_le {p : Program} {l : Launch} {e : Env} {R : Room} {s : State} {m : MethodId} {args : Array Value} {below : List Frame} {meth : Method} {c : Code} {H : Heap} {locs : List Loc} {c1 c2 s1 s2 : Nat} {Q : State → Prop} {g : JFrame} (h1 : c1 ≤ c2) (h2 : s1 ≤ s2) (k : W p l e R s m args below meth c H locs c2 s2 Q g) : W p l e R s m args below meth c H locs c1 s1 Q g := W.widen h1 h2 k
set_option maxHeartbeats 40000000 in
set_option maxRecDepth 100000 in
theorem lpS_chB {p : Program} {l : Launch} {e : Env} {R : Room} {s : State} {m : MethodId} {args : Array Value} {below : List Frame} {meth : Method} {c : Code} {cells slots : Nat} {Q : State → Prop} {ret : Option FieldType} {G : xG} {A : Nat → Prop} (hc : xC p s m args meth c cX4_chosen 7 RX4 wsX4_chosen ret G A) {aS : Nat} {ad : Nat → Nat} {oo om : Nat → Nat → Option Nat} {v : Nat → Int32} {n : Nat} {xn : Nat → Nat} {xr : Nat → Nat → Int32} {nr : Nat} {rw : Nat → Nat → Int32} {sh ak : Nat → Int32} {wl : Nat} {wy : Nat → Nat → Int32} {mp : Nat → Nat → Bool} {mm : Nat → Nat → Nat → Int32} {L0 : List Nat} {f0 : Nat → va_E} (hX : sX n xn xr nr rw) (hV : sVd n xn v wl wy mp mm) {q g : Nat} (hq4 : v 4 = nI q) (hq : q < n) (hg6 : v 6 = nI g) (hg : g < n) (hRf : 3 ≤ R.frames) (hRl : 80 ≤ R.locals) (hRc : cells + 4 ≤ R.cells ∧ slots + 40 ≤ R.slots) (hxq : xn q < 5)
    (kx : ∀ (L : List Nat) (f : Nat → va_E) (H : Heap) (locs : List Loc) (ls : Array Slot), objS L f aS 4 [.ref (ad 0), .ref (ad 1), .ref (ad 2), .ref (ad 3), .int (v 4), .int (v 5), .int (v 6), .ref (ad 4), .ref (ad 5), .int (v 9), .int (v 10), .int (v 11), .int (v 12), .int (v 13)] → ShA G L f ad oo om n xn xr nr rw sh ak wl wy mp mm → pk (fun _ => False) L0 f0 L f → lv_has ls 7 [(3, .int ((sBst (sIts n xr nr rw q (nI g)) (xn q) (xn q)).2)), (2, .int ((sBst (sIts n xr nr rw q (nI g)) (xn q) (xn q)).1)), (0, .ref aS)] → xW G A s.heap (([] : va_W) ++ va_pl L f) H locs → W p l e R s m args below meth c H locs (cells + xn q) (slots + 10 * xn q) Q (F0 m 205 ls [])) :
    ∀ (d k : Nat), k + d = xn q → ∀ (L : List Nat) (f : Nat → va_E) (H : Heap) (locs : List Loc) (ls : Array Slot), objS L f aS 4 [.ref (ad 0), .ref (ad 1), .ref (ad 2), .ref (ad 3), .int (v 4), .int (v 5), .int (v 6), .ref (ad 4), .ref (ad 5), .int (v 9), .int (v 10), .int (v 11), .int (v 12), .int (v 13)] → ShA G L f ad oo om n xn xr nr rw sh ak wl wy mp mm → pk (fun _ => False) L0 f0 L f → lv_has ls 7 [(4, .int (nI d - 1)), (3, .int ((sBst (sIts n xr nr rw q (nI g)) (xn q) k).2)), (2, .int ((sBst (sIts n xr nr rw q (nI g)) (xn q) k).1)), (0, .ref aS)] → xW G A s.heap (([] : va_W) ++ va_pl L f) H locs → W p l e R s m args below meth c H locs (cells + k) (slots + 10 * k) Q (F0 m 114 ls []) := by
  obtain ⟨hx, hb, -, hown, hts, -⟩ := id hc
  intro d
  induction d with
  | zero =>
    intro k hd L f H locs ls hO hA k0 hl hw
    refine lv_iload hx hb dX4_chosen_114 (lv_at hl 0 rfl) ?_
    refine lv_if_lt (tgt := 205) hx hb dX4_chosen_116 (by decide) (fun hz => ?_) (fun h => absurd (by decide) h)
    have ek : k = xn q := by omega
    subst ek
    exact kx L f H locs ls hO hA k0 (lv_sub hl [1, 2, 3] rfl) hw
  | succ d ih =>
    intro k hd L f H locs ls hO hA k0 hl hw
    rw [nI_pred] at hl
    have hn10 : n ≤ 10 := hX.1
    have hr20 : nr ≤ 20 := hX.2.1
    have hd2 : xn q - 1 - k = d := by omega
    obtain ⟨⟨hR1, hR2, hR3⟩, ⟨hE1, hE2⟩, -⟩ := id hA
    obtain ⟨hx4, ea, he1, he2⟩ := hE2 q hq
    obtain ⟨y, hy1, hy2⟩ := hX.2.2.1 q d hq (by omega)
    obtain ⟨ra, hr1, hr2⟩ := hR2 y hy2
    have hkc : (xr q d).toNatClampNeg = y := by rw [hy1, nI_clamp (by omega)]
    refine lv_iload hx hb dX4_chosen_114 (lv_at hl 0 rfl) ?_
    refine lv_if_lt (tgt := 205) hx hb dX4_chosen_116 (by decide) (fun h => absurd h (nI_pos (by omega))) (fun hz => ?_)
    refine lv_aload_n hx hb dX4_chosen_119 rfl (lv_at hl 3 rfl) ?_
    refine pget (C := RX4) (T := TX4) (N := 14) (ci := 4) hc hw inX4_chosen_X4 hO rfl 0 (by decide) lkX4_chosen_f9 rfl rfl dX4_chosen_120 ?_
    refine lv_aload_n hx hb dX4_chosen_123 rfl (lv_at hl 3 rfl) ?_
    refine pget (C := RX4) (T := TX4) (N := 14) (ci := 4) hc hw inX4_chosen_X4 hO rfl 1 (by decide) lkX4_chosen_f15 rfl rfl dX4_chosen_124 ?_
    refine lv_aload_n hx hb dX4_chosen_127 rfl (lv_at hl 3 rfl) ?_
    refine pget (C := RX4) (T := TX4) (N := 14) (ci := 4) hc hw inX4_chosen_X4 hO rfl 4 (by decide) lkX4_chosen_f25 rfl rfl dX4_chosen_128 ?_
    refine pald hc hw hE1 q hq4 hq (by omega) (v := .ref ea) (by rw [he1]; rfl) dX4_chosen_131 ?_
    refine lv_iload hx hb dX4_chosen_132 (lv_at hl 0 rfl) ?_
    refine pild hc hw he2 d rfl (by omega) (by omega) (v := (nI y)) hy1 dX4_chosen_134 ?_
    refine pald hc hw hR1 y rfl hy2 (by omega) (v := .ref ra) (by rw [hr1]; rfl) dX4_chosen_135 ?_
    refine lv_astore (lv' := [(5, .ref ra), (4, .int (nI d)), (3, .int ((sBst (sIts n xr nr rw q (nI g)) (xn q) k).2)), (2, .int ((sBst (sIts n xr nr rw q (nI g)) (xn q) k).1)), (0, .ref aS)]) hx hb dX4_chosen_136 hl (by decide) rfl (fun ls hl => ?_)
    refine lv_aload hx hb dX4_chosen_138 (lv_at hl 0 rfl) ?_
    refine lv_iconst (v := 3) hx hb dX4_chosen_140 (by decide) ?_
    refine pild hc hw hr2 3 rfl (by decide) (by omega) (v := (rw y 3)) rfl dX4_chosen_141 ?_
    refine lv_if_ne (tgt := 151) hx hb dX4_chosen_142 (by decide) (fun hz => ?_) (fun hz => ?_)
    · refine lv_aload hx hb dX4_chosen_151 (lv_at hl 0 rfl) ?_
      refine lv_iconst (v := 2) hx hb dX4_chosen_153 (by decide) ?_
      refine pild hc hw hr2 2 rfl (by decide) (by omega) (v := (rw y 2)) rfl dX4_chosen_154 ?_
      refine lv_aload_n hx hb dX4_chosen_155 rfl (lv_at hl 4 rfl) ?_
      refine lv_aload_n hx hb dX4_chosen_156 rfl (lv_at hl 4 rfl) ?_
      refine lv_aload_n hx hb dX4_chosen_157 rfl (lv_at hl 4 rfl) ?_
      refine pget (C := RX4) (T := TX4) (N := 14) (ci := 4) hc hw inX4_chosen_X4 hO rfl 4 (by decide) lkX4_chosen_f25 rfl rfl dX4_chosen_158 ?_
      refine lv_iload hx hb dX4_chosen_161 (lv_at hl 1 rfl) ?_
      rw [hq4]
      refine pcall_i hc hw (prunV (n := 2) (As := [.int (nI q), .int (nI d)]) (rest := [.ref aS, .int (rw y 2)]) hc hw (metS_to l G _ _ _ aS v n xn xr nr rw _ _ _ _ _ _ ⟨_, _, _, hO, hA⟩ hX q d hq (by omega)) gX4_chosen_X4_to rfl (by decide +kernel) ⟨by (try dsimp only); omega, by (try dsimp only); omega⟩ hO rfl rfl rfl hl.1 (Nat.le_of_ble_eq_true rfl) dX4_chosen_163 ⟨by (try dsimp only); omega, by (try dsimp only); omega⟩) (fun t L9 f9 H locs hp hw => ?_)
      obtain ⟨het, eu⟩ := hp
      obtain ⟨eL, ef⟩ := Prod.mk.inj eu
      rw [eL, ef] at hw
      refine lv_aload_n hx hb dX4_chosen_166 rfl (lv_at hl 4 rfl) ?_
      refine pget (C := RX4) (T := TX4) (N := 14) (ci := 4) hc hw inX4_chosen_X4 hO rfl 6 (by decide) lkX4_chosen_f29 rfl rfl dX4_chosen_167 ?_
      refine pcall_i hc hw (prunV (n := 2) (As := [.int t, .int (v 6)]) (rest := [.int (rw y 2)]) hc hw (metS_far l G _ L f aS v n xn xr nr rw _ _ _ _ _ _ ⟨_, _, _, hO, hA⟩ hX t (v 6) ⟨g, hg6, hg⟩) gX4_chosen_X4_far rfl (by decide +kernel) ⟨by (try dsimp only); omega, by (try dsimp only); omega⟩ hO rfl rfl rfl hl.1 (Nat.le_of_ble_eq_true rfl) dX4_chosen_170 ⟨by (try dsimp only); omega, by (try dsimp only); omega⟩) (fun z L1 f1 H locs hp hw => ?_)
      obtain ⟨hez, k1⟩ := hp
      have hO := hO.kp k1 (fun z => z)
      have hA := hA.fresh k1
      have k0 := k0.tr k1
      rw [het, hg6] at hez
      refine lv_iadd hx hb dX4_chosen_173 ?_
      refine lv_istore (lv' := [(6, .int ((rw y 2) + z)), (5, .ref ra), (4, .int (nI d)), (3, .int ((sBst (sIts n xr nr rw q (nI g)) (xn q) k).2)), (2, .int ((sBst (sIts n xr nr rw q (nI g)) (xn q) k).1)), (0, .ref aS)]) hx hb dX4_chosen_174 hl (by decide) rfl (fun ls hl => ?_)
      refine lv_iload hx hb dX4_chosen_176 (lv_at hl 0 rfl) ?_
      refine lv_sipush (v := 9999) hx hb dX4_chosen_178 (by decide) ?_
      have hi : (rw y 2 + z) = sIts n xr nr rw q (nI g) (xn q - 1 - k) := by rw [hd2]; unfold sIts; rw [hkc, if_neg hz, ← hez]
      refine lv_icmp_ge (tgt := 199) hx hb dX4_chosen_181 (by decide) (fun hz => ?_) (fun hz => ?_)
      · refine lv_iinc (v := nI d - 1) (lv' := [(4, .int (nI d - 1)), (6, .int ((rw y 2) + z)), (5, .ref ra), (3, .int ((sBst (sIts n xr nr rw q (nI g)) (xn q) k).2)), (2, .int ((sBst (sIts n xr nr rw q (nI g)) (xn q) k).1)), (0, .ref aS)]) hx hb dX4_chosen_199 hl (k := 2) rfl (xdec _) (by decide) rfl (fun ls hl => ?_)
        refine lv_goto (tgt := 114) hx hb dX4_chosen_202 (by decide) ?_
        have hs : sBst (sIts n xr nr rw q (nI g)) (xn q) (k + 1) = sBst (sIts n xr nr rw q (nI g)) (xn q) k := by rw [sBst, ← hi, if_pos hz]
        refine pW_le (c2 := cells + (k + 1)) (s2 := slots + 10 * (k + 1)) (by (try dsimp only); omega) (by (try dsimp only); omega) ?_
        refine ih (k + 1) (by omega) L1 f1 H locs ls hO hA k0 ?_ hw
        rw [hs]
        exact lv_sub hl [0, 3, 4, 5] rfl
      · refine lv_iload hx hb dX4_chosen_184 (lv_at hl 0 rfl) ?_
        refine lv_iload_n hx hb dX4_chosen_186 rfl (lv_at hl 3 rfl) ?_
        refine lv_icmp_le (tgt := 193) hx hb dX4_chosen_187 (by decide) (fun hz2 => ?_) (fun hz2 => ?_)
        · refine lv_iload hx hb dX4_chosen_193 (lv_at hl 2 rfl) ?_
          refine lv_istore_n (lv' := [(2, .int (nI d)), (6, .int ((rw y 2) + z)), (5, .ref ra), (4, .int (nI d)), (3, .int ((sBst (sIts n xr nr rw q (nI g)) (xn q) k).2)), (0, .ref aS)]) hx hb dX4_chosen_195 rfl hl (by decide) rfl (fun ls hl => ?_)
          refine lv_iload hx hb dX4_chosen_196 (lv_at hl 1 rfl) ?_
          refine lv_istore_n (lv' := [(3, .int ((rw y 2) + z)), (2, .int (nI d)), (6, .int ((rw y 2) + z)), (5, .ref ra), (4, .int (nI d)), (0, .ref aS)]) hx hb dX4_chosen_198 rfl hl (by decide) rfl (fun ls hl => ?_)
          refine lv_iinc (v := nI d - 1) (lv' := [(4, .int (nI d - 1)), (3, .int ((rw y 2) + z)), (2, .int (nI d)), (6, .int ((rw y 2) + z)), (5, .ref ra), (0, .ref aS)]) hx hb dX4_chosen_199 hl (k := 4) rfl (xdec _) (by decide) rfl (fun ls hl => ?_)
          refine lv_goto (tgt := 114) hx hb dX4_chosen_202 (by decide) ?_
          have hs : sBst (sIts n xr nr rw q (nI g)) (xn q) (k + 1) = (nI d, rw y 2 + z) := by rw [sBst, ← hi, if_neg hz, if_neg (by rw [xltI]; rw [xle] at hz2; exact Int.not_lt.mpr hz2), hd2]
          refine pW_le (c2 := cells + (k + 1)) (s2 := slots + 10 * (k + 1)) (by (try dsimp only); omega) (by (try dsimp only); omega) ?_
          refine ih (k + 1) (by omega) L1 f1 H locs ls hO hA k0 ?_ hw
          rw [hs]
          exact lv_sub hl [0, 1, 2, 5] rfl
        · refine lv_goto (tgt := 199) hx hb dX4_chosen_190 (by decide) ?_
          refine lv_iinc (v := nI d - 1) (lv' := [(4, .int (nI d - 1)), (6, .int ((rw y 2) + z)), (5, .ref ra), (3, .int ((sBst (sIts n xr nr rw q (nI g)) (xn q) k).2)), (2, .int ((sBst (sIts n xr nr rw q (nI g)) (xn q) k).1)), (0, .ref aS)]) hx hb dX4_chosen_199 hl (k := 2) rfl (xdec _) (by decide) rfl (fun ls hl => ?_)
          refine lv_goto (tgt := 114) hx hb dX4_chosen_202 (by decide) ?_
          have hs : sBst (sIts n xr nr rw q (nI g)) (xn q) (k + 1) = sBst (sIts n xr nr rw q (nI g)) (xn q) k := by rw [sBst, ← hi, if_neg hz, if_pos (by rw [xltI]; rw [xle] at hz2; exact Int.not_le.mp hz2)]
          refine pW_le (c2 := cells + (k + 1)) (s2 := slots + 10 * (k + 1)) (by (try dsimp only); omega) (by (try dsimp only); omega) ?_
          refine ih (k + 1) (by omega) L1 f1 H locs ls hO hA k0 ?_ hw
          rw [hs]
          exact lv_sub hl [0, 3, 4, 5] rfl
    · refine lv_sipush (v := 9999) hx hb dX4_chosen_145 (by decide) ?_
      refine lv_goto (tgt := 174) hx hb dX4_chosen_148 (by decide) ?_
      refine lv_istore (lv' := [(6, .int 9999), (5, .ref ra), (4, .int (nI d)), (3, .int ((sBst (sIts n xr nr rw q (nI g)) (xn q) k).2)), (2, .int ((sBst (sIts n xr nr rw q (nI g)) (xn q) k).1)), (0, .ref aS)]) hx hb dX4_chosen_174 hl (by decide) rfl (fun ls hl => ?_)
      refine lv_iload hx hb dX4_chosen_176 (lv_at hl 0 rfl) ?_
      refine lv_sipush (v := 9999) hx hb dX4_chosen_178 (by decide) ?_
      have hi : 9999 = sIts n xr nr rw q (nI g) (xn q - 1 - k) := by rw [hd2]; unfold sIts; rw [hkc, if_pos hz]
      refine lv_icmp_ge (tgt := 199) hx hb dX4_chosen_181 (by decide) (fun hz => ?_) (fun hz => ?_)
      · refine lv_iinc (v := nI d - 1) (lv' := [(4, .int (nI d - 1)), (6, .int 9999), (5, .ref ra), (3, .int ((sBst (sIts n xr nr rw q (nI g)) (xn q) k).2)), (2, .int ((sBst (sIts n xr nr rw q (nI g)) (xn q) k).1)), (0, .ref aS)]) hx hb dX4_chosen_199 hl (k := 2) rfl (xdec _) (by decide) rfl (fun ls hl => ?_)
        refine lv_goto (tgt := 114) hx hb dX4_chosen_202 (by decide) ?_
        have hs : sBst (sIts n xr nr rw q (nI g)) (xn q) (k + 1) = sBst (sIts n xr nr rw q (nI g)) (xn q) k := by rw [sBst, ← hi, if_pos hz]
        refine pW_le (c2 := cells + (k + 1)) (s2 := slots + 10 * (k + 1)) (by (try dsimp only); omega) (by (try dsimp only); omega) ?_
        refine ih (k + 1) (by omega) L f H locs ls hO hA k0 ?_ hw
        rw [hs]
        exact lv_sub hl [0, 3, 4, 5] rfl
      · refine lv_iload hx hb dX4_chosen_184 (lv_at hl 0 rfl) ?_
        refine lv_iload_n hx hb dX4_chosen_186 rfl (lv_at hl 3 rfl) ?_
        refine lv_icmp_le (tgt := 193) hx hb dX4_chosen_187 (by decide) (fun hz2 => ?_) (fun hz2 => ?_)
        · refine lv_iload hx hb dX4_chosen_193 (lv_at hl 2 rfl) ?_
          refine lv_istore_n (lv' := [(2, .int (nI d)), (6, .int 9999), (5, .ref ra), (4, .int (nI d)), (3, .int ((sBst (sIts n xr nr rw q (nI g)) (xn q) k).2)), (0, .ref aS)]) hx hb dX4_chosen_195 rfl hl (by decide) rfl (fun ls hl => ?_)
          refine lv_iload hx hb dX4_chosen_196 (lv_at hl 1 rfl) ?_
          refine lv_istore_n (lv' := [(3, .int 9999), (2, .int (nI d)), (6, .int 9999), (5, .ref ra), (4, .int (nI d)), (0, .ref aS)]) hx hb dX4_chosen_198 rfl hl (by decide) rfl (fun ls hl => ?_)
          refine lv_iinc (v := nI d - 1) (lv' := [(4, .int (nI d - 1)), (3, .int 9999), (2, .int (nI d)), (6, .int 9999), (5, .ref ra), (0, .ref aS)]) hx hb dX4_chosen_199 hl (k := 4) rfl (xdec _) (by decide) rfl (fun ls hl => ?_)
          refine lv_goto (tgt := 114) hx hb dX4_chosen_202 (by decide) ?_
          have hs : sBst (sIts n xr nr rw q (nI g)) (xn q) (k + 1) = (nI d, 9999) := by rw [sBst, ← hi, if_neg hz, if_neg (by rw [xltI]; rw [xle] at hz2; exact Int.not_lt.mpr hz2), hd2]
          refine pW_le (c2 := cells + (k + 1)) (s2 := slots + 10 * (k + 1)) (by (try dsimp only); omega) (by (try dsimp only); omega) ?_
          refine ih (k + 1) (by omega) L f H locs ls hO hA k0 ?_ hw
          rw [hs]
          exact lv_sub hl [0, 1, 2, 5] rfl
        · refine lv_goto (tgt := 199) hx hb dX4_chosen_190 (by decide) ?_
          refine lv_iinc (v := nI d - 1) (lv' := [(4, .int (nI d - 1)), (6, .int 9999), (5, .ref ra), (3, .int ((sBst (sIts n xr nr rw q (nI g)) (xn q) k).2)), (2, .int ((sBst (sIts n xr nr rw q (nI g)) (xn q) k).1)), (0, .ref aS)]) hx hb dX4_chosen_199 hl (k := 2) rfl (xdec _) (by decide) rfl (fun ls hl => ?_)
          refine lv_goto (tgt := 114) hx hb dX4_chosen_202 (by decide) ?_
          have hs : sBst (sIts n xr nr rw q (nI g)) (xn q) (k + 1) = sBst (sIts n xr nr rw q (nI g)) (xn q) k := by rw [sBst, ← hi, if_neg hz, if_pos (by rw [xltI]; rw [xle] at hz2; exact Int.not_le.mp hz2)]
          refine pW_le (c2 := cells + (k + 1)) (s2 := slots + 10 * (k + 1)) (by (try dsimp only); omega) (by (try dsimp only); omega) ?_
          refine ih (k + 1) (by omega) L f H locs ls hO hA k0 ?_ hw
          rw [hs]
          exact lv_sub hl [0, 3, 4, 5] rfl
set_option maxHeartbeats 40000000 in
set_option maxRecDepth 100000 in
theorem lpS_chT {p : Program} {l : Launch} {e : Env} {R : Room} {s : State} {m : MethodId} {args : Array Value} {below : List Frame} {meth : Method} {c : Code} {cells slots : Nat} {Q : State → Prop} {ret : Option FieldType} {G : xG} {A : Nat → Prop} (hc : xC p s m args meth c cX4_chosen 7 RX4 wsX4_chosen ret G A) {aS : Nat} {ad : Nat → Nat} {oo om : Nat → Nat → Option Nat} {v : Nat → Int32} {n : Nat} {xn : Nat → Nat} {xr : Nat → Nat → Int32} {nr : Nat} {rw : Nat → Nat → Int32} {sh ak : Nat → Int32} {wl : Nat} {wy : Nat → Nat → Int32} {mp : Nat → Nat → Bool} {mm : Nat → Nat → Nat → Int32} {L : List Nat} {f : Nat → va_E} (hX : sX n xn xr nr rw) (hV : sVd n xn v wl wy mp mm) {q g : Nat} (hq4 : v 4 = nI q) (hq : q < n) (hg6 : v 6 = nI g) (hg : g < n) (hRf : 3 ≤ R.frames) (hRl : 80 ≤ R.locals) (hRc : cells + 5 ≤ R.cells ∧ slots + 42 ≤ R.slots) (hsh : ∀ k, k < 10 → sh k = 0 ∨ sh k = 1) (hO : objS L f aS 4 [.ref (ad 0), .ref (ad 1), .ref (ad 2), .ref (ad 3), .int (v 4), .int (v 5), .int (v 6), .ref (ad 4), .ref (ad 5), .int (v 9), .int (v 10), .int (v 11), .int (v 12), .int (v 13)]) (hA : ShA G L f ad oo om n xn xr nr rw sh ak wl wy mp mm) (hK : ¬ (mp g q = true ∧ ¬ sFr rw xr q (mm g q 0).toNatClampNeg = 0))
    (kr : ∀ (L : List Nat) (f : Nat → va_E) (H : Heap) (locs : List Loc) (ls : Array Slot) (r : Int32) (pc : Nat) (v2 ak2 : Nat → Int32) (mp2 : Nat → Nat → Bool) (mm2 : Nat → Nat → Nat → Int32), sChR v n xn xr nr rw sh ak mp mm q g r v2 ak2 mp2 mm2 → Sh G L f aS v2 n xn xr nr rw sh ak2 wl wy mp2 mm2 → xW G A s.heap (([] : va_W) ++ va_pl L f) H locs → decode cX4_chosen pc = .ok (.ireturn, 1) → W p l e R s m args below meth c H locs (cells + 5) (slots + 42) Q (F0 m pc ls [.int r])) {H : Heap} {locs : List Loc} {ls : Array Slot} (hl : lv_has ls 7 [(0, .ref aS)]) (hw : xW G A s.heap (([] : va_W) ++ va_pl L f) H locs) : W p l e R s m args below meth c H locs cells slots Q (F0 m 33 ls []) := by
  obtain ⟨hx, hb, -, hown, hts, -⟩ := id hc
  have hn10 : n ≤ 10 := hX.1
  obtain ⟨⟨hR1, hR2, hR3⟩, ⟨hE1, hE2⟩, ⟨hZ1, hZ2, hZ3⟩, -⟩ := id hA
  obtain ⟨hx4, ea, he1, he2⟩ := hE2 q hq
  refine lv_aload_n hx hb dX4_chosen_33 rfl (lv_at hl 0 rfl) ?_
  refine pget (C := RX4) (T := TX4) (N := 14) (ci := 4) hc hw inX4_chosen_X4 hO rfl 2 (by decide) lkX4_chosen_f18 rfl rfl dX4_chosen_34 ?_
  refine lv_aload_n hx hb dX4_chosen_37 rfl (lv_at hl 0 rfl) ?_
  refine pget (C := RX4) (T := TX4) (N := 14) (ci := 4) hc hw inX4_chosen_X4 hO rfl 4 (by decide) lkX4_chosen_f25 rfl rfl dX4_chosen_38 ?_
  refine pzld hc hw hZ1 q hq4 (by omega) (by omega) (v := (sh q)) rfl dX4_chosen_41 ?_
  refine lv_if_eq (tgt := 248) hx hb dX4_chosen_42 (by decide) (fun hs => ?_) (fun hs => ?_)
  · refine lv_iconst (v := 0) hx hb dX4_chosen_248 (by decide) ?_
    refine lv_istore_n (lv' := [(2, .int 0), (0, .ref aS)]) hx hb dX4_chosen_249 rfl hl (by decide) rfl (fun ls hl => ?_)
    refine lpS_chF (v := v) (ak := ak) hc hX hV hq4 hq hg6 hg (Nat.le_trans (by decide) hRf) (Nat.le_trans (by decide) hRl) (by refine ⟨?_, ?_⟩ <;> ((try dsimp only); omega)) hO hA trivial (xn q) 0 (by omega) _ _ ls (fun H locs ls x pc hx2 hw hd => ?_) (lv_sub hl [0, 1] rfl) hw
    refine W.widen (by (try dsimp only); omega) (by (try dsimp only); omega) (kr _ _ H locs ls x pc v ak mp mm (Or.inr (Or.inl ⟨hK, fun z => z.1 hs, hx2.symm, rfl, rfl, rfl, rfl⟩)) ⟨_, _, _, hO, hA⟩ hw hd)
  · refine lv_aload_n hx hb dX4_chosen_45 rfl (lv_at hl 0 rfl) ?_
    refine pget (C := RX4) (T := TX4) (N := 14) (ci := 4) hc hw inX4_chosen_X4 hO rfl 3 (by decide) lkX4_chosen_f22 rfl rfl dX4_chosen_46 ?_
    refine lv_aload_n hx hb dX4_chosen_49 rfl (lv_at hl 0 rfl) ?_
    refine pget (C := RX4) (T := TX4) (N := 14) (ci := 4) hc hw inX4_chosen_X4 hO rfl 4 (by decide) lkX4_chosen_f25 rfl rfl dX4_chosen_50 ?_
    refine pzld hc hw hZ2 q hq4 (by omega) (by omega) (v := (ak q)) rfl dX4_chosen_53 ?_
    refine lv_if_ne (tgt := 248) hx hb dX4_chosen_54 (by decide) (fun ha => ?_) (fun ha => ?_)
    · refine lv_iconst (v := 0) hx hb dX4_chosen_248 (by decide) ?_
      refine lv_istore_n (lv' := [(2, .int 0), (0, .ref aS)]) hx hb dX4_chosen_249 rfl hl (by decide) rfl (fun ls hl => ?_)
      refine lpS_chF (v := v) (ak := ak) hc hX hV hq4 hq hg6 hg (Nat.le_trans (by decide) hRf) (Nat.le_trans (by decide) hRl) (by refine ⟨?_, ?_⟩ <;> ((try dsimp only); omega)) hO hA trivial (xn q) 0 (by omega) _ _ ls (fun H locs ls x pc hx2 hw hd => ?_) (lv_sub hl [0, 1] rfl) hw
      refine W.widen (by (try dsimp only); omega) (by (try dsimp only); omega) (kr _ _ H locs ls x pc v ak mp mm (Or.inr (Or.inl ⟨hK, fun z => ha z.2.1, hx2.symm, rfl, rfl, rfl, rfl⟩)) ⟨_, _, _, hO, hA⟩ hw hd)
    · refine lv_aload_n hx hb dX4_chosen_57 rfl (lv_at hl 0 rfl) ?_
      refine pget (C := RX4) (T := TX4) (N := 14) (ci := 4) hc hw inX4_chosen_X4 hO rfl 5 (by decide) lkX4_chosen_f50 rfl rfl dX4_chosen_58 ?_
      refine lv_if_le (tgt := 248) hx hb dX4_chosen_61 (by decide) (fun hco => ?_) (fun hco => ?_)
      · refine lv_iconst (v := 0) hx hb dX4_chosen_248 (by decide) ?_
        refine lv_istore_n (lv' := [(2, .int 0), (0, .ref aS)]) hx hb dX4_chosen_249 rfl hl (by decide) rfl (fun ls hl => ?_)
        refine lpS_chF (v := v) (ak := ak) hc hX hV hq4 hq hg6 hg (Nat.le_trans (by decide) hRf) (Nat.le_trans (by decide) hRl) (by refine ⟨?_, ?_⟩ <;> ((try dsimp only); omega)) hO hA trivial (xn q) 0 (by omega) _ _ ls (fun H locs ls x pc hx2 hw hd => ?_) (lv_sub hl [0, 1] rfl) hw
        refine W.widen (by (try dsimp only); omega) (by (try dsimp only); omega) (kr _ _ H locs ls x pc v ak mp mm (Or.inr (Or.inl ⟨hK, fun z => absurd z.2.2 (by rw [xltI]; rw [xle] at hco; exact Int.not_lt.mpr hco), hx2.symm, rfl, rfl, rfl, rfl⟩)) ⟨_, _, _, hO, hA⟩ hw hd)
      · refine lv_aload_n hx hb dX4_chosen_64 rfl (lv_at hl 0 rfl) ?_
        refine lv_dup hx hb dX4_chosen_65 rfl ?_
        refine pget (C := RX4) (T := TX4) (N := 14) (ci := 4) hc hw inX4_chosen_X4 hO rfl 5 (by decide) lkX4_chosen_f50 rfl rfl dX4_chosen_66 ?_
        refine lv_iconst (v := 1) hx hb dX4_chosen_69 (by decide) ?_
        refine lv_isub hx hb dX4_chosen_70 ?_
        refine pput (C := RX4) (T := TX4) (N := 14) (ci := 4) (ty := .int) hc hw inX4_chosen_X4 tyX4 tyX4_ok nmX4 hO rfl 5 (by decide) lkX4_chosen_f50 rfl rfl rfl rfl (Nat.le_of_ble_eq_true rfl) [.ref (ad 0), .ref (ad 1), .ref (ad 2), .ref (ad 3), .int (v 4), .int (v 5 - 1), .int (v 6), .ref (ad 4), .ref (ad 5), .int (v 9), .int (v 10), .int (v 11), .int (v 12), .int (v 13)] rfl dX4_chosen_71 (fun f H locs k1 hO1 hw => ?_)
        have hA := hA.obj hO k1
        have hO := hO1
        refine lv_aload_n hx hb dX4_chosen_74 rfl (lv_at hl 0 rfl) ?_
        refine lv_dup hx hb dX4_chosen_75 rfl ?_
        refine pget (C := RX4) (T := TX4) (N := 14) (ci := 4) hc hw inX4_chosen_X4 hO rfl 13 (by decide) lkX4_chosen_f65 rfl rfl dX4_chosen_76 ?_
        refine lv_iconst (v := 1) hx hb dX4_chosen_79 (by decide) ?_
        refine lv_iadd hx hb dX4_chosen_80 ?_
        refine pput (C := RX4) (T := TX4) (N := 14) (ci := 4) (ty := .int) hc hw inX4_chosen_X4 tyX4 tyX4_ok nmX4 hO rfl 13 (by decide) lkX4_chosen_f65 rfl rfl rfl rfl (Nat.le_of_ble_eq_true rfl) [.ref (ad 0), .ref (ad 1), .ref (ad 2), .ref (ad 3), .int (v 4), .int (v 5 - 1), .int (v 6), .ref (ad 4), .ref (ad 5), .int (v 9), .int (v 10), .int (v 11), .int (v 12), .int (v 13 + 1)] rfl dX4_chosen_81 (fun f H locs k1 hO1 hw => ?_)
        have hA := hA.obj hO k1
        have hO := hO1
        obtain ⟨⟨hR1, hR2, hR3⟩, ⟨hE1, hE2⟩, ⟨hZ1, hZ2, hZ3⟩, -⟩ := id hA
        obtain ⟨hx4, ea, he1, he2⟩ := hE2 q hq
        refine lv_aload_n hx hb dX4_chosen_84 rfl (lv_at hl 0 rfl) ?_
        refine pget (C := RX4) (T := TX4) (N := 14) (ci := 4) hc hw inX4_chosen_X4 hO rfl 3 (by decide) lkX4_chosen_f22 rfl rfl dX4_chosen_85 ?_
        refine lv_aload_n hx hb dX4_chosen_88 rfl (lv_at hl 0 rfl) ?_
        refine pget (C := RX4) (T := TX4) (N := 14) (ci := 4) hc hw inX4_chosen_X4 hO rfl 4 (by decide) lkX4_chosen_f25 rfl rfl dX4_chosen_89 ?_
        refine lv_iconst (v := 1) hx hb dX4_chosen_92 (by decide) ?_
        refine pzst hc hw hZ2 q hq4 (by omega) (by omega) rfl dX4_chosen_93 (fun f H locs k1 r1 hw => ?_)
        have hO := hO.kp k1 (hO.neZ hZ2)
        have hA := hA.setAk k1 r1
        have hO : objS L _ aS 4 [.ref (ad 0), .ref (ad 1), .ref (ad 2), .ref (ad 3), .int ((upd (upd v 5 (v 5 - 1)) 13 (v 13 + 1)) 4), .int ((upd (upd v 5 (v 5 - 1)) 13 (v 13 + 1)) 5), .int ((upd (upd v 5 (v 5 - 1)) 13 (v 13 + 1)) 6), .ref (ad 4), .ref (ad 5), .int ((upd (upd v 5 (v 5 - 1)) 13 (v 13 + 1)) 9), .int ((upd (upd v 5 (v 5 - 1)) 13 (v 13 + 1)) 10), .int ((upd (upd v 5 (v 5 - 1)) 13 (v 13 + 1)) 11), .int ((upd (upd v 5 (v 5 - 1)) 13 (v 13 + 1)) 12), .int ((upd (upd v 5 (v 5 - 1)) 13 (v 13 + 1)) 13)] := hO
        obtain ⟨⟨hR1, hR2, hR3⟩, ⟨hE1, hE2⟩, ⟨hZ1, hZ2, hZ3⟩, -⟩ := id hA
        obtain ⟨hx4, ea, he1, he2⟩ := hE2 q hq
        have hq42 : (upd (upd v 5 (v 5 - 1)) 13 (v 13 + 1)) 4 = nI q := hq4
        have hg62 : (upd (upd v 5 (v 5 - 1)) 13 (v 13 + 1)) 6 = nI g := hg6
        have hco2 : 0 < v 5 := by rw [xltI]; rw [xle] at hco; exact Int.not_le.mp hco
        have hask : ¬ sh q = 0 ∧ ak q = 0 ∧ 0 < v 5 := ⟨hs, ha, hco2⟩
        refine lv_iconst (v := (-1)) hx hb dX4_chosen_94 (by decide) ?_
        refine lv_istore_n (lv' := [(2, .int (-1)), (0, .ref aS)]) hx hb dX4_chosen_95 rfl hl (by decide) rfl (fun ls hl => ?_)
        refine lv_sipush (v := 9999) hx hb dX4_chosen_96 (by decide) ?_
        refine lv_istore_n (lv' := [(3, .int 9999), (2, .int (-1)), (0, .ref aS)]) hx hb dX4_chosen_99 rfl hl (by decide) rfl (fun ls hl => ?_)
        refine lv_aload_n hx hb dX4_chosen_100 rfl (lv_at hl 2 rfl) ?_
        refine pget (C := RX4) (T := TX4) (N := 14) (ci := 4) hc hw inX4_chosen_X4 hO rfl 1 (by decide) lkX4_chosen_f15 rfl rfl dX4_chosen_101 ?_
        refine lv_aload_n hx hb dX4_chosen_104 rfl (lv_at hl 2 rfl) ?_
        refine pget (C := RX4) (T := TX4) (N := 14) (ci := 4) hc hw inX4_chosen_X4 hO rfl 4 (by decide) lkX4_chosen_f25 rfl rfl dX4_chosen_105 ?_
        refine pald hc hw hE1 q hq42 hq (by omega) (v := .ref ea) (by rw [he1]; rfl) dX4_chosen_108 ?_
        refine plenI hc hw he2 dX4_chosen_109 ?_
        refine lv_iconst (v := 1) hx hb dX4_chosen_110 (by decide) ?_
        refine lv_isub hx hb dX4_chosen_111 ?_
        refine lv_istore (lv' := [(4, .int ((nI (xn q)) - 1)), (3, .int 9999), (2, .int (-1)), (0, .ref aS)]) hx hb dX4_chosen_112 hl (by decide) rfl (fun ls hl => ?_)
        refine lpS_chB (v := (upd (upd v 5 (v 5 - 1)) 13 (v 13 + 1))) (ak := (upd ak q 1)) (cells := cells) (slots := slots) hc hX hV hq42 hq hg62 hg (Nat.le_trans (by decide) hRf) (Nat.le_trans (by decide) hRl) (by refine ⟨?_, ?_⟩ <;> ((try dsimp only); omega)) hx4 (fun L1 f1 H locs ls hO hA k2 hl hw => ?_) (xn q) 0 (by omega) _ _ _ _ ls hO hA pk.rf hl hw
        refine lv_iload_n hx hb dX4_chosen_205 rfl (lv_at hl 1 rfl) ?_
        refine lv_if_lt (tgt := 234) hx hb dX4_chosen_206 (by decide) (fun hz => ?_) (fun hz => ?_)
        · refine lv_iload_n hx hb dX4_chosen_234 rfl (lv_at hl 1 rfl) ?_
          refine lv_if_lt (tgt := 248) hx hb dX4_chosen_235 (by decide) (fun hz2 => ?_) (fun h => absurd hz h)
          refine lv_iconst (v := 0) hx hb dX4_chosen_248 (by decide) ?_
          refine lv_istore_n (lv' := [(2, .int 0), (3, .int ((sBst (sIts n xr nr rw q (nI g)) (xn q) (xn q)).2)), (0, .ref aS)]) hx hb dX4_chosen_249 rfl hl (by decide) rfl (fun ls hl => ?_)
          refine lpS_chF (v := (upd (upd v 5 (v 5 - 1)) 13 (v 13 + 1))) (ak := (upd ak q 1)) hc hX hV hq42 hq hg62 hg (Nat.le_trans (by decide) hRf) (Nat.le_trans (by decide) hRl) (by refine ⟨?_, ?_⟩ <;> ((try dsimp only); omega)) hO hA trivial (xn q) 0 (by omega) _ _ ls (fun H locs ls x pc hx2 hw hd => ?_) (lv_sub hl [0, 2] rfl) hw
          refine W.widen (by (try dsimp only); omega) (by (try dsimp only); omega) (kr _ _ H locs ls x pc (upd (upd v 5 (v 5 - 1)) 13 (v 13 + 1)) (upd ak q 1) mp mm (Or.inr (Or.inr ⟨hK, hask, rfl, rfl, Or.inl ⟨hz, hx2.symm, rfl, rfl⟩⟩)) ⟨_, _, _, hO, hA⟩ hw hd)
        · obtain ⟨xb, hxb, hxb2⟩ : ∃ x, (sBst (sIts n xr nr rw q (nI g)) (xn q) (xn q)).1 = nI x ∧ x < xn q := (by
            rcases sBst_in (sIts n xr nr rw q (nI g)) (xn q) (xn q) (Nat.le_refl _) with h | h
            · exact absurd (by rw [h]; decide) hz
            · exact h)
          obtain ⟨-, -, -, -, hM, -⟩ := id hA
          obtain ⟨hM1, hM2, hM3⟩ := hM
          obtain ⟨ga, hga1, hga2, hga3⟩ := hM3 g (by omega)
          have hA0z := hA
          refine lv_aload_n hx hb dX4_chosen_209 rfl (lv_at hl 2 rfl) ?_
          refine pget (C := RX4) (T := TX4) (N := 14) (ci := 4) hc hw inX4_chosen_X4 hO rfl 8 (by decide) lkX4_chosen_f37 rfl rfl dX4_chosen_210 ?_
          refine lv_aload_n hx hb dX4_chosen_213 rfl (lv_at hl 2 rfl) ?_
          refine pget (C := RX4) (T := TX4) (N := 14) (ci := 4) hc hw inX4_chosen_X4 hO rfl 6 (by decide) lkX4_chosen_f29 rfl rfl dX4_chosen_214 ?_
          refine pbld hc hw hM1 g hg62 (by omega) (by omega) (v := .ref ga) (by rw [hga1]; rfl) dX4_chosen_217 ?_
          refine lv_aload_n hx hb dX4_chosen_218 rfl (lv_at hl 2 rfl) ?_
          refine pget (C := RX4) (T := TX4) (N := 14) (ci := 4) hc hw inX4_chosen_X4 hO rfl 4 (by decide) lkX4_chosen_f25 rfl rfl dX4_chosen_219 ?_
          refine lv_iconst (v := 2) hx hb dX4_chosen_222 (by decide) ?_
          refine pnewI hc hw 2 rfl (by omega) lkX4_chosen_aI (by first | exact Nat.le_of_ble_eq_true rfl | ((try dsimp only); omega)) (by first | exact Nat.le_of_ble_eq_true rfl | ((try dsimp only); omega)) dX4_chosen_223 (fun z L2 f2 H hzn k3 r3 hw => ?_)
          have hO := hO.kp k3 (fun z => z)
          have hA := hA.fresh k3
          have hga2 := hga2.kp k3 (fun z => z)
          refine lv_dup hx hb dX4_chosen_225 rfl ?_
          refine lv_iconst (v := 0) hx hb dX4_chosen_226 (by decide) ?_
          refine lv_iload_n hx hb dX4_chosen_227 rfl (lv_at hl 1 rfl) ?_
          refine pist hc hw r3 0 rfl (by decide) (by omega) dX4_chosen_228 (fun f H locs k4 r4 hw => ?_)
          have kz := k4
          refine lv_dup hx hb dX4_chosen_229 rfl ?_
          refine lv_iconst (v := 1) hx hb dX4_chosen_230 (by decide) ?_
          refine lv_iconst (v := 3) hx hb dX4_chosen_231 (by decide) ?_
          refine pist hc hw r4 1 rfl (by decide) (by omega) dX4_chosen_232 (fun f H locs k5 r5 hw => ?_)
          have kz2 := kz.tr k5
          have hOz := hO.kp kz2 (hO.neI r3)
          have hga2 := hga2.kp kz2 (fun w => (r3.neA hga2) w.symm)
          have hA := hA0z.fresh (k3.off hzn kz2)
          have hO := hOz
          refine past hc hw hga2 q hq42 (by omega) (by omega) r5 dX4_chosen_233 (fun f H locs k6 r6 hw => ?_)
          have hO := hO.kp k6 (hO.neA hga2)
          have hA := hA.setM (g := g) (p := q) (b1 := true) (g1 := upd (upd (fun _ => 0) 0 ((sBst (sIts n xr nr rw q (nI g)) (xn q) (xn q)).1)) 1 3) (by omega) hga1 k6 r6 (Or.inr ⟨rfl, z, rfl, r5⟩)
          have hV2 : sVd n xn v wl wy (va_up mp g (va_up (mp g) q true)) (va_up mm g (va_up (mm g) q (upd (upd (fun _ => 0) 0 ((sBst (sIts n xr nr rw q (nI g)) (xn q) (xn q)).1)) 1 3))) := (by
            refine ⟨fun g' q' h1 h2 h3 => ?_, hV.2⟩
            by_cases c1 : g' = g
            · subst c1
              rw [va_up_self] at h3 ⊢
              by_cases c2 : q' = q
              · subst c2
                rw [va_up_self]
                exact ⟨xb, hxb, hxb2⟩
              · rw [va_up_ne _ _ c2] at h3 ⊢
                exact hV.1 g' q' h1 h2 h3
            · rw [va_up_ne _ _ c1] at h3 ⊢
              exact hV.1 g' q' h1 h2 h3)
          refine lv_iload_n hx hb dX4_chosen_234 rfl (lv_at hl 1 rfl) ?_
          refine lv_if_lt (tgt := 248) hx hb dX4_chosen_235 (by decide) (fun h => absurd h hz) (fun hz2 => ?_)
          refine lv_aload_n hx hb dX4_chosen_238 rfl (lv_at hl 2 rfl) ?_
          refine lv_iload_n hx hb dX4_chosen_239 rfl (lv_at hl 1 rfl) ?_
          rw [hxb]
          refine pcall_i hc hw (prunV (n := 1) (As := [.int (nI xb)]) (rest := []) hc hw (metS_isFree l G _ _ _ aS (upd (upd v 5 (v 5 - 1)) 13 (v 13 + 1)) n xn xr nr rw _ _ _ _ _ _ ⟨_, _, _, hO, hA⟩ hX q xb ⟨hq42, hq⟩ hxb2) gX4_chosen_X4_isFree rfl (by decide +kernel) ⟨by (try dsimp only); omega, by (try dsimp only); omega⟩ hO rfl rfl rfl hl.1 (Nat.le_of_ble_eq_true rfl) dX4_chosen_240 ⟨by (try dsimp only); omega, by (try dsimp only); omega⟩) (fun y L9 f9 H locs hp hw => ?_)
          obtain ⟨hey, eu⟩ := hp
          obtain ⟨eL, ef⟩ := Prod.mk.inj eu
          rw [eL, ef] at hw
          refine lv_if_eq (tgt := 248) hx hb dX4_chosen_243 (by decide) (fun hf => ?_) (fun hf => ?_)
          · refine lv_iconst (v := 0) hx hb dX4_chosen_248 (by decide) ?_
            refine lv_istore_n (lv' := [(2, .int 0), (3, .int ((sBst (sIts n xr nr rw q (nI g)) (xn q) (xn q)).2)), (0, .ref aS)]) hx hb dX4_chosen_249 rfl hl (by decide) rfl (fun ls hl => ?_)
            refine lpS_chF (v := (upd (upd v 5 (v 5 - 1)) 13 (v 13 + 1))) (ak := (upd ak q 1)) hc hX hV2 hq42 hq hg62 hg (Nat.le_trans (by decide) hRf) (Nat.le_trans (by decide) hRl) (by refine ⟨?_, ?_⟩ <;> ((try dsimp only); omega)) hO hA trivial (xn q) 0 (by omega) _ _ ls (fun H locs ls x pc hx2 hw hd => ?_) (lv_sub hl [0, 2] rfl) hw
            refine W.widen (by (try dsimp only); omega) (by (try dsimp only); omega) (kr _ _ H locs ls x pc (upd (upd v 5 (v 5 - 1)) 13 (v 13 + 1)) (upd ak q 1) (va_up mp g (va_up (mp g) q true)) (va_up mm g (va_up (mm g) q (upd (upd (fun _ => 0) 0 ((sBst (sIts n xr nr rw q (nI g)) (xn q) (xn q)).1)) 1 3))) (Or.inr (Or.inr ⟨hK, hask, rfl, rfl, Or.inr ⟨hz, rfl, rfl, by rw [hxb, nI_clamp (by omega), if_pos (by rw [← hey]; exact hf)]; exact hx2.symm⟩⟩)) ⟨_, _, _, hO, hA⟩ hw hd)
          · refine lv_iload_n hx hb dX4_chosen_246 rfl (lv_at hl 1 rfl) ?_
            refine W.widen (by (try dsimp only); omega) (by (try dsimp only); omega) (kr _ _ _ _ ls _ 247 (upd (upd v 5 (v 5 - 1)) 13 (v 13 + 1)) (upd ak q 1) (va_up mp g (va_up (mp g) q true)) (va_up mm g (va_up (mm g) q (upd (upd (fun _ => 0) 0 ((sBst (sIts n xr nr rw q (nI g)) (xn q) (xn q)).1)) 1 3))) (Or.inr (Or.inr ⟨hK, hask, rfl, rfl, Or.inr ⟨hz, rfl, rfl, by rw [if_neg (by rw [hxb, nI_clamp (by omega), ← hey]; exact hf)]⟩⟩)) ⟨_, _, _, hO, hA⟩ hw dX4_chosen_247)
set_option maxHeartbeats 40000000 in
set_option maxRecDepth 100000 in
theorem metS_chosen (l : Launch) (G : xG) (sz : Nat) (L : List Nat) (f : Nat → va_E) (aS : Nat) (v : Nat → Int32) (n : Nat) (xn : Nat → Nat) (xr : Nat → Nat → Int32) (nr : Nat) (rw : Nat → Nat → Int32) (sh ak : Nat → Int32) (wl : Nat) (wy : Nat → Nat → Int32) (mp : Nat → Nat → Bool) (mm : Nat → Nat → Nat → Int32) (q g : Nat) (S : Sh G L f aS v n xn xr nr rw sh ak wl wy mp mm) (hX : sX n xn xr nr rw) (hV : sVd n xn v wl wy mp mm) (hq4 : v 4 = nI q) (hq : q < n) (hg6 : v 6 = nI g) (hg : g < n) (hsh : ∀ k, k < 10 → sh k = 0 ∨ sh k = 1) : pMi l yX4_chosen wsX4_chosen ⟨3, 5, 42, 80⟩ G [.ref aS] L f sz (fun r u => ∃ (v2 ak2 : Nat → Int32) (mp2 : Nat → Nat → Bool) (mm2 : Nat → Nat → Nat → Int32), sChR v n xn xr nr rw sh ak mp mm q g r v2 ak2 mp2 mm2 ∧ Sh G u.1 u.2 aS v2 n xn xr nr rw sh ak2 wl wy mp2 mm2) := by
  obtain ⟨ad, oo, om, hO, hA⟩ := S
  have hO : objS L f aS 4 [.ref (ad 0), .ref (ad 1), .ref (ad 2), .ref (ad 3), .int (v 4), .int (v 5), .int (v 6), .ref (ad 4), .ref (ad 5), .int (v 9), .int (v 10), .int (v 11), .int (v 12), .int (v 13)] := hO
  refine xof (own := RX4) (cc := cX4_chosen) (maxL := 7) (ret := (some .int)) rfl (by decide) rfl (Nat.le_of_ble_eq_true rfl) ?_
  intro pg en s mi below meth cd hc hnm hw ls hl
  obtain ⟨hx, hb, -, hown, hts, -⟩ := id hc
  have hl : lv_has ls 7 [(0, .ref aS)] := hl
  have hw : xW G _ s.heap (([] : va_W) ++ va_pl L f) s.heap [] := hw
  have hn10 : n ≤ 10 := hX.1
  obtain ⟨-, -, -, -, ⟨hM1, hM2, hM3⟩, -⟩ := id hA
  obtain ⟨ga, hga1, hga2, hga3⟩ := hM3 g (by omega)
  refine lv_aload_n hx hb dX4_chosen_0 rfl (lv_at hl 0 rfl) ?_
  refine pget (C := RX4) (T := TX4) (N := 14) (ci := 4) hc hw inX4_chosen_X4 hO rfl 8 (by decide) lkX4_chosen_f37 rfl rfl dX4_chosen_1 ?_
  refine lv_aload_n hx hb dX4_chosen_4 rfl (lv_at hl 0 rfl) ?_
  refine pget (C := RX4) (T := TX4) (N := 14) (ci := 4) hc hw inX4_chosen_X4 hO rfl 6 (by decide) lkX4_chosen_f29 rfl rfl dX4_chosen_5 ?_
  refine pbld hc hw hM1 g hg6 (by omega) (by omega) (v := .ref ga) (by rw [hga1]; rfl) dX4_chosen_8 ?_
  refine lv_aload_n hx hb dX4_chosen_9 rfl (lv_at hl 0 rfl) ?_
  refine pget (C := RX4) (T := TX4) (N := 14) (ci := 4) hc hw inX4_chosen_X4 hO rfl 4 (by decide) lkX4_chosen_f25 rfl rfl dX4_chosen_10 ?_
  rcases hga3 q (by omega) with ⟨hn1, hn2⟩ | ⟨hn2, b, hn1, hn3⟩
  · refine pald hc hw hga2 q hq4 (by omega) (by omega) (v := .null) (by rw [hn1]; rfl) dX4_chosen_13 ?_
    refine lv_astore_nN (lv' := [(1, .null), (0, .ref aS)]) hx hb dX4_chosen_14 rfl hl (by decide) rfl (fun ls hl => ?_)
    refine lv_aload_nN hx hb dX4_chosen_15 rfl (lv_at hl 0 rfl) ?_
    refine lv_ifnullN (tgt := 33) hx hb dX4_chosen_16 (by decide) ?_
    exact lpS_chT (cells := 0) (slots := 0) hc hX hV hq4 hq hg6 hg (Nat.le_of_ble_eq_true rfl) (Nat.le_of_ble_eq_true rfl) ⟨Nat.le_of_ble_eq_true rfl, Nat.le_of_ble_eq_true rfl⟩ hsh hO hA (fun z => by rw [hn2] at z; exact absurd z.1 (by decide)) (fun L f H locs ls r pc v2 ak2 mp2 mm2 h1 h2 hw hd => pret_i hc hw ⟨v2, ak2, mp2, mm2, h1, h2⟩ ⟨Nat.le_of_ble_eq_true rfl, Nat.le_of_ble_eq_true rfl⟩ hd) (lv_sub hl [1] rfl) hw
  · obtain ⟨x, hx0, hx1⟩ := hV.1 g q (by omega) hq hn2
    refine pald hc hw hga2 q hq4 (by omega) (by omega) (v := .ref b) (by rw [hn1]; rfl) dX4_chosen_13 ?_
    have hx4 := (hA.2.1.2 q hq).1
    refine lv_astore_n (lv' := [(1, .ref b), (0, .ref aS)]) hx hb dX4_chosen_14 rfl hl (by decide) rfl (fun ls hl => ?_)
    refine lv_aload_n hx hb dX4_chosen_15 rfl (lv_at hl 0 rfl) ?_
    refine lv_ifnull hx hb dX4_chosen_16 ?_
    refine lv_aload_n hx hb dX4_chosen_19 rfl (lv_at hl 1 rfl) ?_
    refine lv_aload_n hx hb dX4_chosen_20 rfl (lv_at hl 0 rfl) ?_
    refine lv_iconst (v := 0) hx hb dX4_chosen_21 (by decide) ?_
    refine pild hc hw hn3 0 rfl (by decide) (by omega) (v := (nI x)) hx0 dX4_chosen_22 ?_
    refine pcall_i hc hw (prunV (n := 1) (As := [.int (nI x)]) (rest := []) hc hw (metS_isFree l G _ _ _ aS v n xn xr nr rw _ _ _ _ _ _ ⟨_, _, _, hO, hA⟩ hX q x ⟨hq4, hq⟩ hx1) gX4_chosen_X4_isFree rfl (by decide +kernel) ⟨Nat.le_of_ble_eq_true rfl, Nat.le_of_ble_eq_true rfl⟩ hO rfl rfl rfl hl.1 (Nat.le_of_ble_eq_true rfl) dX4_chosen_23 (by first | exact ⟨Nat.le_of_ble_eq_true rfl, Nat.le_of_ble_eq_true rfl⟩ | (refine ⟨?_, ?_⟩ <;> ((try dsimp only); omega)))) (fun y L9 f9 H locs hp hw => ?_)
    obtain ⟨hey, eu⟩ := hp
    obtain ⟨eL, ef⟩ := Prod.mk.inj eu
    rw [eL, ef] at hw
    refine lv_if_eq (tgt := 33) hx hb dX4_chosen_26 (by decide) (fun hz => ?_) (fun hz => ?_)
    · exact lpS_chT (cells := 0) (slots := 0) hc hX hV hq4 hq hg6 hg (Nat.le_of_ble_eq_true rfl) (Nat.le_of_ble_eq_true rfl) ⟨Nat.le_of_ble_eq_true rfl, Nat.le_of_ble_eq_true rfl⟩ hsh hO hA (fun z => z.2 (by rw [hx0, nI_clamp (by omega), ← hey]; exact hz)) (fun L f H locs ls r pc v2 ak2 mp2 mm2 h1 h2 hw hd => pret_i hc hw ⟨v2, ak2, mp2, mm2, h1, h2⟩ ⟨Nat.le_of_ble_eq_true rfl, Nat.le_of_ble_eq_true rfl⟩ hd) (lv_sub hl [1] rfl) hw
    · refine lv_aload_n hx hb dX4_chosen_29 rfl (lv_at hl 0 rfl) ?_
      refine lv_iconst (v := 0) hx hb dX4_chosen_30 (by decide) ?_
      refine pild hc hw hn3 0 rfl (by decide) (by omega) (v := (mm g q 0)) rfl dX4_chosen_31 ?_
      exact pret_i hc hw ⟨v, ak, mp, mm, Or.inl ⟨⟨hn2, by rw [hx0, nI_clamp (by omega), ← hey]; exact hz⟩, rfl, rfl, rfl, rfl, rfl⟩, _, _, _, hO, hA⟩ ⟨Nat.le_of_ble_eq_true rfl, Nat.le_of_ble_eq_true rfl⟩ dX4_chosen_32
