theorem inX4_go_X4 : ∀ w ∈ u_ws RX4 TX4 14, w ∈ wsX4_go := fun _ h => List.mem_cons_of_mem _ (List.mem_append_right _ h)
theorem lkX4_go_f29 : Cond.fieldLink RX4 29 "MapCarrierLaw$Sim" "goal" "I" ∈ wsX4_go := List.mem_of_getElem? (i := 1) (by decide +kernel)
theorem inX4_knows_X4 : ∀ w ∈ u_ws RX4 TX4 14, w ∈ wsX4_knows := fun _ h => List.mem_cons_of_mem _ (List.mem_append_right _ h)
theorem lkX4_knows_f37 : Cond.fieldLink RX4 37 "MapCarrierLaw$Sim" "memory" "[[[I" ∈ wsX4_knows := List.mem_of_getElem? (i := 2) (by decide +kernel)
theorem lkX4_knows_f9 : Cond.fieldLink RX4 9 "MapCarrierLaw$Sim" "roads" "[[I" ∈ wsX4_knows := List.mem_of_getElem? (i := 3) (by decide +kernel)
theorem lkX4_knows_f15 : Cond.fieldLink RX4 15 "MapCarrierLaw$Sim" "exits" "[[I" ∈ wsX4_knows := List.mem_of_getElem? (i := 4) (by decide +kernel)
theorem lkX4_knows_f25 : Cond.fieldLink RX4 25 "MapCarrierLaw$Sim" "where" "I" ∈ wsX4_knows := List.mem_of_getElem? (i := 1) (by decide +kernel)
/-! the second carrier: many steps, a night, a way that is known -/
set_option maxHeartbeats 40000000 in
set_option maxRecDepth 100000 in
theorem lpS_go {p : Program} {l : Launch} {e : Env} {R : Room} {s : State} {m : MethodId} {args : Array Value} {below : List Frame} {meth : Method} {c : Code} {cells slots : Nat} {Q : State → Prop} {ret : Option FieldType} {G : xG} {A : Nat → Prop} (hc : xC p s m args meth c cX4_go 3 RX4 wsX4_go ret G A) {aS : Nat} {n : Nat} {xn : Nat → Nat} {xr : Nat → Nat → Int32} {nr : Nat} {sh : Nat → Int32} {N : Nat} (hN : N ≤ 100) (J E : Nat → (Nat → Int32) → (Nat → Nat → Int32) → (Nat → Int32) → Nat → (Nat → Nat → Int32) → (Nat → Nat → Bool) → (Nat → Nat → Nat → Int32) → Prop) (hJ : ∀ i (v : Nat → Int32) (rw : Nat → Nat → Int32) (ak : Nat → Int32) (wl : Nat) (wy : Nat → Nat → Int32) (mp : Nat → Nat → Bool) (mm : Nat → Nat → Nat → Int32), J i v rw ak wl wy mp mm → ¬ v 6 < 0 → ∃ q g, sX n xn xr nr rw ∧ sVd n xn v wl wy mp mm ∧ v 4 = nI q ∧ q < n ∧ v 6 = nI g ∧ g < n ∧ ∀ b v2 rw2 ak2 wl2 wy2 mp2 mm2, sStR v n xn xr nr rw sh ak wl wy mp mm q g b v2 rw2 ak2 wl2 wy2 mp2 mm2 → (¬ b = 0 → J (i + 1) v2 rw2 ak2 wl2 wy2 mp2 mm2) ∧ (b = 0 → E i v2 rw2 ak2 wl2 wy2 mp2 mm2)) (hsh : ∀ k, k < 10 → sh k = 0 ∨ sh k = 1) (hRf : 5 ≤ R.frames) (hRl : 150 ≤ R.locals) (hRc : cells + 30 * N ≤ R.cells ∧ slots + 137 * N ≤ R.slots)
    (kx : ∀ (L : List Nat) (f : Nat → va_E) (H : Heap) (locs : List Loc) (ls : Array Slot) (i : Nat) (v : Nat → Int32) (rw : Nat → Nat → Int32) (ak : Nat → Int32) (wl : Nat) (wy : Nat → Nat → Int32) (mp : Nat → Nat → Bool) (mm : Nat → Nat → Nat → Int32), i ≤ N → ((J i v rw ak wl wy mp mm ∧ (N ≤ i ∨ v 6 < 0)) ∨ (i < N ∧ E i v rw ak wl wy mp mm)) → Sh G L f aS v n xn xr nr rw sh ak wl wy mp mm → lv_has ls 3 [(2, .int (nI i)), (0, .ref aS), (1, .int (nI N))] → xW G A s.heap (([] : va_W) ++ va_pl L f) H locs → W p l e R s m args below meth c H locs (cells + 30 * N) (slots + 137 * N) Q (F0 m 27 ls [])) :
    ∀ (d i : Nat), i + d = N → ∀ (L : List Nat) (f : Nat → va_E) (v : Nat → Int32) (rw : Nat → Nat → Int32) (ak : Nat → Int32) (wl : Nat) (wy : Nat → Nat → Int32) (mp : Nat → Nat → Bool) (mm : Nat → Nat → Nat → Int32) (H : Heap) (locs : List Loc) (ls : Array Slot), J i v rw ak wl wy mp mm → Sh G L f aS v n xn xr nr rw sh ak wl wy mp mm → lv_has ls 3 [(2, .int (nI i)), (0, .ref aS), (1, .int (nI N))] → xW G A s.heap (([] : va_W) ++ va_pl L f) H locs → W p l e R s m args below meth c H locs (cells + 30 * i) (slots + 137 * i) Q (F0 m 2 ls []) := by
  obtain ⟨hx, hb, -, hown, hts, -⟩ := id hc
  intro d
  induction d with
  | zero =>
    intro i hd L f v rw ak wl wy mp mm H locs ls hj hS hl hw
    refine lv_iload_n hx hb dX4_go_2 rfl (lv_at hl 0 rfl) ?_
    refine lv_iload_n hx hb dX4_go_3 rfl (lv_at hl 2 rfl) ?_
    refine lv_icmp_ge (tgt := 27) hx hb dX4_go_4 (by decide) (fun hz => ?_) (fun h => absurd (nI_le (by omega) (by omega)) h)
    exact pW_le (by omega) (by omega) (kx L f H locs ls i v rw ak wl wy mp mm (by omega) (Or.inl ⟨hj, Or.inl (by omega)⟩) hS hl hw)
  | succ d ih =>
    intro i hd L f v rw ak wl wy mp mm H locs ls hj hS hl hw
    obtain ⟨ad, oo, om, hO, hA⟩ := id hS
    have hO : objS L f aS 4 [.ref (ad 0), .ref (ad 1), .ref (ad 2), .ref (ad 3), .int (v 4), .int (v 5), .int (v 6), .ref (ad 4), .ref (ad 5), .int (v 9), .int (v 10), .int (v 11), .int (v 12), .int (v 13)] := hO
    refine lv_iload_n hx hb dX4_go_2 rfl (lv_at hl 0 rfl) ?_
    refine lv_iload_n hx hb dX4_go_3 rfl (lv_at hl 2 rfl) ?_
    refine lv_icmp_ge (tgt := 27) hx hb dX4_go_4 (by decide) (fun h => absurd h (nI_ge (by omega) (by omega))) (fun hz => ?_)
    refine lv_aload_n hx hb dX4_go_7 rfl (lv_at hl 1 rfl) ?_
    refine pget (C := RX4) (T := TX4) (N := 14) (ci := 4) hc hw inX4_go_X4 hO rfl 6 (by decide) lkX4_go_f29 rfl rfl dX4_go_8 ?_
    refine lv_if_lt (tgt := 27) hx hb dX4_go_11 (by decide) (fun hgo => ?_) (fun hgo => ?_)
    · exact pW_le (by omega) (by omega) (kx L f H locs ls i v rw ak wl wy mp mm (by omega) (Or.inl ⟨hj, Or.inr hgo⟩) hS hl hw)
    · obtain ⟨q, g, hX, hV, hq4, hq, hg6, hg, hst⟩ := hJ i v rw ak wl wy mp mm hj hgo
      refine lv_aload_n hx hb dX4_go_14 rfl (lv_at hl 1 rfl) ?_
      refine pcall_i hc hw (prunV (n := 0) (As := []) (rest := []) hc hw (metS_step l G _ _ _ aS v n xn xr nr rw sh ak wl wy mp mm q g hS hX hV hq4 hq hg6 hg hsh) gX4_go_X4_step rfl (by decide +kernel) ⟨by (try dsimp only); omega, by (try dsimp only); omega⟩ hO rfl rfl rfl hl.1 (Nat.le_of_ble_eq_true rfl) dX4_go_15 ⟨by have := hRc.1; (try dsimp only); omega, by have := hRc.2; (try dsimp only); omega⟩) (fun b L1 f1 H locs hp hw => ?_)
      obtain ⟨v2, rw2, ak2, wl2, wy2, mp2, mm2, hst2, hS2⟩ := hp
      obtain ⟨hj1, hj2⟩ := hst _ _ _ _ _ _ _ _ hst2
      refine lv_if_eq (tgt := 27) hx hb dX4_go_18 (by decide) (fun hz0 => ?_) (fun hz0 => ?_)
      · exact pW_le (by (try dsimp only); omega) (by (try dsimp only); omega) (kx L1 f1 H locs ls i v2 rw2 ak2 wl2 wy2 mp2 mm2 (by omega) (Or.inr ⟨by omega, hj2 hz0⟩) hS2 hl hw)
      · refine lv_iinc (v := nI (i + 1)) (lv' := [(2, .int (nI (i + 1))), (0, .ref aS), (1, .int (nI N))]) hx hb dX4_go_21 hl (k := 0) rfl (nI_1 _) (by decide) rfl (fun ls hl => ?_)
        refine lv_goto (tgt := 2) hx hb dX4_go_24 (by decide) ?_
        exact pW_eq (by (try dsimp only); omega) (by (try dsimp only); omega) (ih (i + 1) (by omega) L1 f1 v2 rw2 ak2 wl2 wy2 mp2 mm2 H locs ls (hj1 hz0) hS2 hl hw)
set_option maxHeartbeats 40000000 in
set_option maxRecDepth 100000 in
theorem metS_go (l : Launch) (G : xG) (sz : Nat) (L : List Nat) (f : Nat → va_E) (aS : Nat) (v : Nat → Int32) (n : Nat) (xn : Nat → Nat) (xr : Nat → Nat → Int32) (nr : Nat) (rw : Nat → Nat → Int32) (sh ak : Nat → Int32) (wl : Nat) (wy : Nat → Nat → Int32) (mp : Nat → Nat → Bool) (mm : Nat → Nat → Nat → Int32) (N : Nat) (S : Sh G L f aS v n xn xr nr rw sh ak wl wy mp mm) (hN : N ≤ 100) (J E : Nat → (Nat → Int32) → (Nat → Nat → Int32) → (Nat → Int32) → Nat → (Nat → Nat → Int32) → (Nat → Nat → Bool) → (Nat → Nat → Nat → Int32) → Prop) (hJ : ∀ i (v : Nat → Int32) (rw : Nat → Nat → Int32) (ak : Nat → Int32) (wl : Nat) (wy : Nat → Nat → Int32) (mp : Nat → Nat → Bool) (mm : Nat → Nat → Nat → Int32), J i v rw ak wl wy mp mm → ¬ v 6 < 0 → ∃ q g, sX n xn xr nr rw ∧ sVd n xn v wl wy mp mm ∧ v 4 = nI q ∧ q < n ∧ v 6 = nI g ∧ g < n ∧ ∀ b v2 rw2 ak2 wl2 wy2 mp2 mm2, sStR v n xn xr nr rw sh ak wl wy mp mm q g b v2 rw2 ak2 wl2 wy2 mp2 mm2 → (¬ b = 0 → J (i + 1) v2 rw2 ak2 wl2 wy2 mp2 mm2) ∧ (b = 0 → E i v2 rw2 ak2 wl2 wy2 mp2 mm2)) (hsh : ∀ k, k < 10 → sh k = 0 ∨ sh k = 1) (hj : J 0 v rw ak wl wy mp mm) : pMi l yX4_go wsX4_go ⟨5, 3000, 13700, 150⟩ G [.ref aS, .int (nI N)] L f sz (fun r u => ∃ i v2 rw2 ak2 wl2 wy2 mp2 mm2, r = nI i ∧ i ≤ N ∧ ((J i v2 rw2 ak2 wl2 wy2 mp2 mm2 ∧ (N ≤ i ∨ v2 6 < 0)) ∨ (i < N ∧ E i v2 rw2 ak2 wl2 wy2 mp2 mm2)) ∧ Sh G u.1 u.2 aS v2 n xn xr nr rw2 sh ak2 wl2 wy2 mp2 mm2) := by
  refine xof (own := RX4) (cc := cX4_go) (maxL := 3) (ret := (some .int)) rfl (by decide) rfl (Nat.le_of_ble_eq_true rfl) ?_
  intro pg en s mi below meth cd hc hnm hw ls hl
  obtain ⟨hx, hb, -, hown, hts, -⟩ := id hc
  have hl : lv_has ls 3 [(0, .ref aS), (1, .int (nI N))] := hl
  have hw : xW G _ s.heap (([] : va_W) ++ va_pl L f) s.heap [] := hw
  refine lv_iconst (v := 0) hx hb dX4_go_0 (by decide) ?_
  refine lv_istore_n (lv' := [(2, .int 0), (0, .ref aS), (1, .int (nI N))]) hx hb dX4_go_1 rfl hl (by decide) rfl (fun ls hl => ?_)
  refine lpS_go (cells := 0) (slots := 0) hc hN J E hJ hsh (Nat.le_of_ble_eq_true rfl) (Nat.le_of_ble_eq_true rfl) ⟨by (try dsimp only); omega, by (try dsimp only); omega⟩ (fun L f H locs ls i v rw ak wl wy mp mm hi hd hS hl hw => ?_) N 0 (by omega) L f v rw ak wl wy mp mm _ _ ls hj S hl hw
  refine lv_iload_n hx hb dX4_go_27 rfl (lv_at hl 0 rfl) ?_
  exact pret_i hc hw (⟨i, v, rw, ak, wl, wy, mp, mm, rfl, hi, hd, hS⟩) (by first | exact ⟨Nat.le_of_ble_eq_true rfl, Nat.le_of_ble_eq_true rfl⟩ | (refine ⟨?_, ?_⟩ <;> ((try dsimp only); omega))) dX4_go_28
def sKn (rw xr : Nat → Nat → Int32) (mp : Nat → Nat → Bool) (mm : Nat → Nat → Nat → Int32) (g : Nat) : Nat → Nat → Int32
  | 0, a => if nI a = nI g then 1 else 0
  | d + 1, a => if nI a = nI g then 1 else if mp g a = false then 0 else if rw (xr a (mm g a 0).toNatClampNeg).toNatClampNeg 3 = 0 then 0 else sKn rw xr mp mm g d (sTo rw xr a (mm g a 0).toNatClampNeg).toNatClampNeg
set_option maxHeartbeats 40000000 in
set_option maxRecDepth 100000 in
theorem lpS_knows {p : Program} {l : Launch} {e : Env} {R : Room} {s : State} {m : MethodId} {args : Array Value} {below : List Frame} {meth : Method} {c : Code} {cells slots : Nat} {Q : State → Prop} {ret : Option FieldType} {G : xG} {A : Nat → Prop} (hc : xC p s m args meth c cX4_knows 5 RX4 wsX4_knows ret G A) {aS : Nat} {ad : Nat → Nat} {oo om : Nat → Nat → Option Nat} {v : Nat → Int32} {n : Nat} {xn : Nat → Nat} {xr : Nat → Nat → Int32} {nr : Nat} {rw : Nat → Nat → Int32} {sh ak : Nat → Int32} {wl : Nat} {wy : Nat → Nat → Int32} {mp : Nat → Nat → Bool} {mm : Nat → Nat → Nat → Int32} {L : List Nat} {f : Nat → va_E} {g : Nat} (hX : sX n xn xr nr rw) (hg : g < n) (hmx : ∀ q, q < n → mp g q = true → ∃ x, mm g q 0 = nI x ∧ x < xn q) (hO : objS L f aS 4 [.ref (ad 0), .ref (ad 1), .ref (ad 2), .ref (ad 3), .int (v 4), .int (v 5), .int (v 6), .ref (ad 4), .ref (ad 5), .int (v 9), .int (v 10), .int (v 11), .int (v 12), .int (v 13)]) (hA : ShA G L f ad oo om n xn xr nr rw sh ak wl wy mp mm) (hRf : 1 ≤ R.frames) (hRl : 40 ≤ R.locals) (hRc : cells ≤ R.cells ∧ slots ≤ R.slots)
    (kx : True) :
    ∀ (d i : Nat), i + d = 10 → ∀ (a : Nat) (H : Heap) (locs : List Loc) (ls : Array Slot), (∀ (H : Heap) (locs : List Loc) (ls : Array Slot) (x : Int32) (pc : Nat), (x = 0 ∨ x = 1) → sKn rw xr mp mm g d a = x → xW G A s.heap (([] : va_W) ++ va_pl L f) H locs → decode cX4_knows pc = .ok (.ireturn, 1) → W p l e R s m args below meth c H locs cells slots Q (F0 m pc ls [.int x])) → a < n → lv_has ls 5 [(3, .int (nI i)), (2, .int (nI a)), (0, .ref aS), (1, .int (nI g))] → xW G A s.heap (([] : va_W) ++ va_pl L f) H locs → W p l e R s m args below meth c H locs cells slots Q (F0 m 7 ls []) := by
  obtain ⟨hx, hb, -, hown, hts, -⟩ := id hc
  intro d
  induction d with
  | zero =>
    intro i hd a H locs ls ke ha hl hw
    refine lv_iload_n hx hb dX4_knows_7 rfl (lv_at hl 0 rfl) ?_
    refine lv_bipush (v := 10) hx hb dX4_knows_8 (by decide) ?_
    refine lv_icmp_ge (tgt := 74) hx hb dX4_knows_10 (by decide) (fun hz => ?_) (fun h => absurd (show (10 : Int32) ≤ nI i from nI_le (a := 10) (by omega) (by omega)) h)
    refine lv_iload_n hx hb dX4_knows_74 rfl (lv_at hl 1 rfl) ?_
    refine lv_iload_n hx hb dX4_knows_75 rfl (lv_at hl 3 rfl) ?_
    refine lv_icmp_ne (tgt := 83) hx hb dX4_knows_76 (by decide) (fun hz2 => ?_) (fun hz2 => ?_)
    · refine lv_iconst (v := 0) hx hb dX4_knows_83 (by decide) ?_
      exact ke H locs ls 0 84 (Or.inl rfl) (by rw [sKn, if_neg hz2]) hw dX4_knows_84
    · refine lv_iconst (v := 1) hx hb dX4_knows_79 (by decide) ?_
      refine lv_goto (tgt := 84) hx hb dX4_knows_80 (by decide) ?_
      exact ke H locs ls 1 84 (Or.inr rfl) (by rw [sKn, if_pos hz2]) hw dX4_knows_84
  | succ d ih =>
    intro i hd a H locs ls ke ha hl hw
    refine lv_iload_n hx hb dX4_knows_7 rfl (lv_at hl 0 rfl) ?_
    refine lv_bipush (v := 10) hx hb dX4_knows_8 (by decide) ?_
    refine lv_icmp_ge (tgt := 74) hx hb dX4_knows_10 (by decide) (fun h => absurd h (show ¬ (10 : Int32) ≤ nI i from nI_ge (b := 10) (by omega) (by omega))) (fun hz => ?_)
    refine lv_iload_n hx hb dX4_knows_13 rfl (lv_at hl 1 rfl) ?_
    refine lv_iload_n hx hb dX4_knows_14 rfl (lv_at hl 3 rfl) ?_
    refine lv_icmp_ne (tgt := 20) hx hb dX4_knows_15 (by decide) (fun hz2 => ?_) (fun hz2 => ?_)
    · have hn10 : n ≤ 10 := hX.1
      have hr20 : nr ≤ 20 := hX.2.1
      obtain ⟨⟨hR1, hR2, hR3⟩, ⟨hE1, hE2⟩, -, -, ⟨hM1, hM2, hM3⟩, -⟩ := id hA
      obtain ⟨ga, hga1, hga2, hga3⟩ := hM3 g (by omega)
      refine lv_aload_n hx hb dX4_knows_20 rfl (lv_at hl 2 rfl) ?_
      refine pget (C := RX4) (T := TX4) (N := 14) (ci := 4) hc hw inX4_knows_X4 hO rfl 8 (by decide) lkX4_knows_f37 rfl rfl dX4_knows_21 ?_
      refine lv_iload_n hx hb dX4_knows_24 rfl (lv_at hl 3 rfl) ?_
      refine pbld hc hw hM1 g rfl (by omega) (by omega) (v := .ref ga) (by rw [hga1]; rfl) dX4_knows_25 ?_
      refine lv_iload_n hx hb dX4_knows_26 rfl (lv_at hl 1 rfl) ?_
      rcases hga3 a (by omega) with ⟨hn1, hn2⟩ | ⟨hn2, b, hn1, hn3⟩
      · refine pald hc hw hga2 a rfl (by omega) (by omega) (v := .null) (by rw [hn1]; rfl) dX4_knows_27 ?_
        refine lv_astoreN (lv' := [(4, .null), (3, .int (nI i)), (2, .int (nI a)), (0, .ref aS), (1, .int (nI g))]) hx hb dX4_knows_28 hl (by decide) rfl (fun ls hl => ?_)
        refine lv_aloadN hx hb dX4_knows_30 (lv_at hl 0 rfl) ?_
        refine lv_ifnullN (tgt := 56) hx hb dX4_knows_32 (by decide) ?_
        refine lv_iconst (v := 0) hx hb dX4_knows_56 (by decide) ?_
        exact ke H locs ls 0 57 (Or.inl rfl) (by rw [sKn, if_neg hz2, if_pos hn2]) hw dX4_knows_57
      · obtain ⟨x, hx0, hx1⟩ := hmx a (by omega) hn2
        obtain ⟨hx4, ea, he1, he2⟩ := hE2 a ha
        obtain ⟨k, hk1, hk2⟩ := hX.2.2.1 a x ha hx1
        obtain ⟨ra, hr1, hr2⟩ := hR2 k hk2
        have hkc : (xr a (mm g a 0).toNatClampNeg).toNatClampNeg = k := by rw [hx0, nI_clamp (by omega), hk1, nI_clamp (by omega)]
        refine pald hc hw hga2 a rfl (by omega) (by omega) (v := .ref b) (by rw [hn1]; rfl) dX4_knows_27 ?_
        refine lv_astore (lv' := [(4, .ref b), (3, .int (nI i)), (2, .int (nI a)), (0, .ref aS), (1, .int (nI g))]) hx hb dX4_knows_28 hl (by decide) rfl (fun ls hl => ?_)
        refine lv_aload hx hb dX4_knows_30 (lv_at hl 0 rfl) ?_
        refine lv_ifnull hx hb dX4_knows_32 ?_
        refine lv_aload_n hx hb dX4_knows_35 rfl (lv_at hl 3 rfl) ?_
        refine pget (C := RX4) (T := TX4) (N := 14) (ci := 4) hc hw inX4_knows_X4 hO rfl 0 (by decide) lkX4_knows_f9 rfl rfl dX4_knows_36 ?_
        refine lv_aload_n hx hb dX4_knows_39 rfl (lv_at hl 3 rfl) ?_
        refine pget (C := RX4) (T := TX4) (N := 14) (ci := 4) hc hw inX4_knows_X4 hO rfl 1 (by decide) lkX4_knows_f15 rfl rfl dX4_knows_40 ?_
        refine lv_iload_n hx hb dX4_knows_43 rfl (lv_at hl 2 rfl) ?_
        refine pald hc hw hE1 a rfl ha (by omega) (v := .ref ea) (by rw [he1]; rfl) dX4_knows_44 ?_
        refine lv_aload hx hb dX4_knows_45 (lv_at hl 0 rfl) ?_
        refine lv_iconst (v := 0) hx hb dX4_knows_47 (by decide) ?_
        refine pild hc hw hn3 0 rfl (by decide) (by omega) (v := (nI x)) hx0 dX4_knows_48 ?_
        refine pild hc hw he2 x rfl hx1 (by omega) (v := (nI k)) hk1 dX4_knows_49 ?_
        refine pald hc hw hR1 k rfl hk2 (by omega) (v := .ref ra) (by rw [hr1]; rfl) dX4_knows_50 ?_
        refine lv_iconst (v := 3) hx hb dX4_knows_51 (by decide) ?_
        refine pild hc hw hr2 3 rfl (by decide) (by omega) (v := (rw k 3)) rfl dX4_knows_52 ?_
        refine lv_if_ne (tgt := 58) hx hb dX4_knows_53 (by decide) (fun hz3 => ?_) (fun hz3 => ?_)
        · refine lv_aload_n hx hb dX4_knows_58 rfl (lv_at hl 3 rfl) ?_
          refine lv_iload_n hx hb dX4_knows_59 rfl (lv_at hl 2 rfl) ?_
          refine lv_aload hx hb dX4_knows_60 (lv_at hl 0 rfl) ?_
          refine lv_iconst (v := 0) hx hb dX4_knows_62 (by decide) ?_
          refine pild hc hw hn3 0 rfl (by decide) (by omega) (v := (nI x)) hx0 dX4_knows_63 ?_
          refine pcall_i hc hw (prunV (n := 2) (As := [.int (nI a), .int (nI x)]) (rest := []) hc hw (metS_to l G _ _ _ aS v n xn xr nr rw _ _ _ _ _ _ ⟨_, _, _, hO, hA⟩ hX a x ha hx1) gX4_knows_X4_to rfl (by decide +kernel) ⟨by (try dsimp only); omega, by (try dsimp only); omega⟩ hO rfl rfl rfl hl.1 (Nat.le_of_ble_eq_true rfl) dX4_knows_64 ⟨by have := hRc.1; (try dsimp only); omega, by have := hRc.2; (try dsimp only); omega⟩) (fun t L9 f9 H locs hp hw => ?_)
          obtain ⟨het, eu⟩ := hp
          obtain ⟨eL, ef⟩ := Prod.mk.inj eu
          rw [eL, ef] at hw
          obtain ⟨a2, ha2, ha3⟩ := sTo_in hX ha hx1
          have het : t = nI a2 := het.trans ha2
          subst het
          refine lv_istore_n (lv' := [(2, .int (nI a2)), (4, .ref b), (3, .int (nI i)), (0, .ref aS), (1, .int (nI g))]) hx hb dX4_knows_67 rfl hl (by decide) rfl (fun ls hl => ?_)
          refine lv_iinc (v := nI (i + 1)) (lv' := [(3, .int (nI (i + 1))), (2, .int (nI a2)), (4, .ref b), (0, .ref aS), (1, .int (nI g))]) hx hb dX4_knows_68 hl (k := 2) rfl (nI_1 _) (by decide) rfl (fun ls hl => ?_)
          refine lv_goto (tgt := 7) hx hb dX4_knows_71 (by decide) ?_
          refine ih (i + 1) (by omega) a2 H locs ls (fun H2 locs2 ls2 x2 pc h01 hx2 => ke H2 locs2 ls2 x2 pc h01 ?_) ha3 (lv_sub hl [0, 1, 3, 4] rfl) hw
          rw [sKn, if_neg hz2, if_neg (by rw [hn2]; exact fun z => Bool.noConfusion z), hkc, if_neg hz3, hx0, nI_clamp (by omega), ha2, nI_clamp (by omega)]
          exact hx2
        · refine lv_iconst (v := 0) hx hb dX4_knows_56 (by decide) ?_
          exact ke H locs ls 0 57 (Or.inl rfl) (by rw [sKn, if_neg hz2, if_neg (by rw [hn2]; exact fun z => Bool.noConfusion z), hkc, if_pos hz3]) hw dX4_knows_57
    · refine lv_iconst (v := 1) hx hb dX4_knows_18 (by decide) ?_
      exact ke H locs ls 1 19 (Or.inr rfl) (by rw [sKn, if_pos hz2]) hw dX4_knows_19
set_option maxHeartbeats 40000000 in
set_option maxRecDepth 100000 in
theorem metS_knows (l : Launch) (G : xG) (sz : Nat) (L : List Nat) (f : Nat → va_E) (aS : Nat) (v : Nat → Int32) (n : Nat) (xn : Nat → Nat) (xr : Nat → Nat → Int32) (nr : Nat) (rw : Nat → Nat → Int32) (sh ak : Nat → Int32) (wl : Nat) (wy : Nat → Nat → Int32) (mp : Nat → Nat → Bool) (mm : Nat → Nat → Nat → Int32) (q g : Nat) (S : Sh G L f aS v n xn xr nr rw sh ak wl wy mp mm) (hX : sX n xn xr nr rw) (hq4 : v 4 = nI q) (hq : q < n) (hg : g < n) (hmx : ∀ q, q < n → mp g q = true → ∃ x, mm g q 0 = nI x ∧ x < xn q) : pMi l yX4_knows wsX4_knows ⟨1, 0, 0, 40⟩ G [.ref aS, .int (nI g)] L f sz (fun r u => r = sKn rw xr mp mm g 10 q ∧ (r = 0 ∨ r = 1) ∧ u = (L, f)) := by
  obtain ⟨ad, oo, om, hO, hA⟩ := S
  have hO : objS L f aS 4 [.ref (ad 0), .ref (ad 1), .ref (ad 2), .ref (ad 3), .int (v 4), .int (v 5), .int (v 6), .ref (ad 4), .ref (ad 5), .int (v 9), .int (v 10), .int (v 11), .int (v 12), .int (v 13)] := hO
  refine xof (own := RX4) (cc := cX4_knows) (maxL := 5) (ret := (some .boolean)) rfl (by decide) rfl (Nat.le_of_ble_eq_true rfl) ?_
  intro pg en s mi below meth cd hc hnm hw ls hl
  obtain ⟨hx, hb, -, hown, hts, -⟩ := id hc
  have hl : lv_has ls 5 [(0, .ref aS), (1, .int (nI g))] := hl
  have hw : xW G _ s.heap (([] : va_W) ++ va_pl L f) s.heap [] := hw
  refine lv_aload_n hx hb dX4_knows_0 rfl (lv_at hl 0 rfl) ?_
  refine pget (C := RX4) (T := TX4) (N := 14) (ci := 4) hc hw inX4_knows_X4 hO rfl 4 (by decide) lkX4_knows_f25 rfl rfl dX4_knows_1 ?_
  refine lv_istore_n (lv' := [(2, .int (v 4)), (0, .ref aS), (1, .int (nI g))]) hx hb dX4_knows_4 rfl hl (by decide) rfl (fun ls hl => ?_)
  refine lv_iconst (v := 0) hx hb dX4_knows_5 (by decide) ?_
  refine lv_istore_n (lv' := [(3, .int 0), (2, .int (v 4)), (0, .ref aS), (1, .int (nI g))]) hx hb dX4_knows_6 rfl hl (by decide) rfl (fun ls hl => ?_)
  rw [hq4] at hl
  refine lpS_knows hc hX hg hmx hO hA (Nat.le_of_ble_eq_true rfl) (Nat.le_of_ble_eq_true rfl) ⟨Nat.le_of_ble_eq_true rfl, Nat.le_of_ble_eq_true rfl⟩ trivial 10 0 rfl q _ _ ls (fun H locs ls x pc h01 hx2 hw hd => ?_) hq hl hw
  rcases h01 with rfl | rfl
  · exact pret_z hc hw rfl ⟨hx2.symm, Or.inl rfl, rfl⟩ (by first | exact ⟨Nat.le_of_ble_eq_true rfl, Nat.le_of_ble_eq_true rfl⟩ | (refine ⟨?_, ?_⟩ <;> ((try dsimp only); omega))) hd
  · exact pret_z hc hw rfl ⟨hx2.symm, Or.inr rfl, rfl⟩ (by first | exact ⟨Nat.le_of_ble_eq_true rfl, Nat.le_of_ble_eq_true rfl⟩ | (refine ⟨?_, ?_⟩ <;> ((try dsimp only); omega))) hd
