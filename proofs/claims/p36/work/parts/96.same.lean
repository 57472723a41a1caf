theorem inX4_isSame_X4 : ∀ w ∈ u_ws RX4 TX4 14, w ∈ wsX4_isSame := fun _ h => List.mem_cons_of_mem _ (List.mem_append_left _ (List.mem_append_left _ (List.mem_append_left _ (List.mem_append_left _ (List.mem_append_left _ (List.mem_append_right _ h))))))
theorem lkX4_isSame_f15 : Cond.fieldLink RX4 15 "MapCarrierLaw$Sim" "exits" "[[I" ∈ wsX4_isSame := List.mem_of_getElem? (i := 1) (by decide +kernel)
theorem lkX4_isSame_f9 : Cond.fieldLink RX4 9 "MapCarrierLaw$Sim" "roads" "[[I" ∈ wsX4_isSame := List.mem_of_getElem? (i := 12) (by decide +kernel)
theorem lkX4_isSame_f37 : Cond.fieldLink RX4 37 "MapCarrierLaw$Sim" "memory" "[[[I" ∈ wsX4_isSame := List.mem_of_getElem? (i := 13) (by decide +kernel)
theorem lkX4_isSame_f18 : Cond.fieldLink RX4 18 "MapCarrierLaw$Sim" "shepherd" "[Z" ∈ wsX4_isSame := List.mem_of_getElem? (i := 11) (by decide +kernel)
theorem lkX4_isSame_f25 : Cond.fieldLink RX4 25 "MapCarrierLaw$Sim" "where" "I" ∈ wsX4_isSame := List.mem_of_getElem? (i := 2) (by decide +kernel)
theorem lkX4_isSame_f50 : Cond.fieldLink RX4 50 "MapCarrierLaw$Sim" "coins" "I" ∈ wsX4_isSame := List.mem_of_getElem? (i := 3) (by decide +kernel)
theorem lkX4_isSame_f29 : Cond.fieldLink RX4 29 "MapCarrierLaw$Sim" "goal" "I" ∈ wsX4_isSame := List.mem_of_getElem? (i := 4) (by decide +kernel)
theorem lkX4_isSame_f32 : Cond.fieldLink RX4 32 "MapCarrierLaw$Sim" "way" "[[I" ∈ wsX4_isSame := List.mem_of_getElem? (i := 5) (by decide +kernel)
theorem lkX4_isSame_f53 : Cond.fieldLink RX4 53 "MapCarrierLaw$Sim" "walked" "I" ∈ wsX4_isSame := List.mem_of_getElem? (i := 6) (by decide +kernel)
theorem lkX4_isSame_f56 : Cond.fieldLink RX4 56 "MapCarrierLaw$Sim" "doubled" "I" ∈ wsX4_isSame := List.mem_of_getElem? (i := 7) (by decide +kernel)
theorem lkX4_isSame_f59 : Cond.fieldLink RX4 59 "MapCarrierLaw$Sim" "done" "I" ∈ wsX4_isSame := List.mem_of_getElem? (i := 8) (by decide +kernel)
theorem lkX4_isSame_f62 : Cond.fieldLink RX4 62 "MapCarrierLaw$Sim" "vain" "I" ∈ wsX4_isSame := List.mem_of_getElem? (i := 9) (by decide +kernel)
theorem lkX4_isSame_f65 : Cond.fieldLink RX4 65 "MapCarrierLaw$Sim" "asked" "I" ∈ wsX4_isSame := List.mem_of_getElem? (i := 10) (by decide +kernel)
/-! in the end all is as by hand -/
theorem xCu {p : Program} {s : State} {m : MethodId} {args : Array Value} {meth : Method} {c : Code} {cc : ByteArray} {nL : Nat} {own : String} {wds : List Cond} {ret : Option FieldType} {G : xG} {A : Nat → Prop} {d : Drawn} (hc : xC p (s.setDrawn d) m args meth c cc nL own wds ret G A) : xC p s m args meth c cc nL own wds ret G A := by
  obtain ⟨hx, hb, hml, hown, hts, hr, hlk, hE, hZ, hA⟩ := hc
  exact ⟨hx, hb, hml, hown, fun w hw => (Cond.before_setDrawn args s d w).symm.trans (hts w hw), hr, hlk, xE.same (u := s.setDrawn d) (U := s) rfl hE, ⟨vx_Zq.moved (Vm.Alike.refl s.vm) hZ.1, vx_Zq.moved (Vm.Alike.refl s.vm) hZ.2⟩, hA⟩
/-- an exit on both sides -/
theorem c_exit {N : Nat} {B : Int} {z : Nat → Int32} {r : Nat → Nat → Int32} {rs : Int32} {q : Nat → Nat → Int32} {n : Nat} {xn : Nat → Nat} {xr : Nat → Nat → Int32} {nr : Nat} {v : Nat → Int32} {rw : Nat → Nat → Int32} {ak : Nat → Int32} {wl : Nat} {wy : Nat → Nat → Int32} {mp : Nat → Nat → Bool} {mm : Nat → Nat → Nat → Int32} (h : cA N B z r rs q n xn xr nr v rw ak wl wy mp mm) {y x : Nat} (hy : y < n) (hx : x < xn y) : ∃ k t, xr y x = nI k ∧ k < nr ∧ zE (z 0) (r 0) (4 * y + x) ∧ x < 4 ∧ r 2 (4 * y + x) = nI t ∧ t < n ∧ sTo rw xr y x = nI t ∧ r 4 (4 * y + x) = rw k 2 ∧ (if r 5 (4 * y + x) = 0 then (0 : Int32) else 1) = (if rw k 3 = 1 then 1 else 0) ∧ (if z 3 = -1 then (0 : Int32) else if r 7 (4 * y + x) = 0 then 0 else 1) = (if rw k 4 = 1 then 1 else 0) := by
  obtain ⟨hn1, hn2, hn3, hn4, hn5⟩ := cA_n h
  obtain ⟨hI, hR, ⟨-, hu, -⟩, -⟩ := h
  obtain ⟨k, hk1, hk2⟩ := (rL_sX hI.1 hR).2.2.1 y x hy hx
  obtain ⟨t, t1, t2⟩ := sTo_in (rL_sX hI.1 hR) hy hx
  obtain ⟨a1, a2, a3, a4, a5, a6⟩ := rL_to hI.1 hR hy hx
  obtain ⟨e1, e2, e3, e4, e5⟩ := rL_e hI.1 hR hy hx
  have hkc : (xr y x).toNatClampNeg = k := by rw [hk1, nI_clamp (by omega)]
  rw [hkc] at a2 a3 a4 a6
  refine ⟨k, t, hk1, hk2, e1, e4, a1.symm.trans t1, t2, t1, a2.symm, ?_, ?_⟩
  · rcases a4 with h | h
    · rw [if_pos (a3.mp h), if_neg (by rw [h]; decide)]
    · rw [if_neg (fun g => by have := a3.mpr g; rw [h] at this; exact absurd this (by decide)), if_pos h]
  · have hur := (zI_B hI).1 k (by omega)
    rw [hu k hk2]
    have idle : (∀ k, k < 20 → q 3 k = 0) → z 3 = -1 → (if z 3 = -1 then (0 : Int32) else if r 7 (4 * y + x) = 0 then 0 else 1) = (if q 3 k = 1 then 1 else 0) := fun h0 h3 => by
      rw [if_pos h3, h0 k (by omega), if_neg (by decide)]
    rcases hI.2.2.2.2 with h1 | h1
    · rcases h1.2.2.2.2 with h2 | h2
      · exact idle h2.2.2 h2.1
      · have h3 : ¬ z 3 = -1 := fun c => by
          have := h2.1.1
          rw [c, show (-1 : Int32).toInt = -1 from rfl] at this
          omega
        have ht : r 7 (4 * y + x) = q 3 k := by rw [h2.2.2.1 _ e1, a6]
        rw [if_neg h3, ht]
        rcases hur with g | g
        · rw [g, if_pos rfl, if_neg (by decide)]
        · rw [g, if_neg (by decide), if_pos rfl]
    · exact idle h1.2.2.2.2.2.2.2 h1.2.2.2.1
set_option maxHeartbeats 40000000 in
set_option maxRecDepth 100000 in
theorem lpI_exits {p : Program} {l : Launch} {e : Env} {s : State} {m : MethodId} {args : Array Value} {below : List Frame} {meth : Method} {c : Code} {Q : State → Prop} {G : xG} {A : Nat → Prop} (hst : l.stackTraces = false) {a : Nat → Nat} {aS : Nat} {ret : Option FieldType} {N : Nat} {B : Int} {z : Nat → Int32} {r : Nat → Nat → Int32} {rs : Int32} {q : Nat → Nat → Int32} {n : Nat} {xn : Nat → Nat} {xr : Nat → Nat → Int32} {nr : Nat} {v : Nat → Int32} {rw : Nat → Nat → Int32} {ak : Nat → Int32} {wl : Nat} {wy : Nat → Nat → Int32} {mp : Nat → Nat → Bool} {mm : Nat → Nat → Nat → Int32} (hc : xC p s m args meth c cX4_isSame 7 RX4 wsX4_isSame ret G A) (hA0 : cA N B z r rs q n xn xr nr v rw ak wl wy mp mm) {C S y : Nat} (hy : y < n) (hCS : C ≤ 900 ∧ S ≤ 6000)
    (kx : ∀ (u : cU) (L : List Nat) (f : Nat → va_E) (H : Heap) (locs : List Loc) (ls : Array Slot), Sh G L f aS v n xn xr nr rw (r 1) ak wl wy mp mm → lv_has ls 7 [(3, .int (nI y)), (2, .int (nI n)), (0, .ref aS), (1, .ref (a 0))] → xW G A s.heap (cW G a z r u ++ va_pl L f) H locs → W p l e ⟨8, 1000, 7000, 130⟩ s m args below meth c H locs (C + 16) (S + 96) Q (F0 m 283 ls [])) :
    ∀ (d x : Nat), x + d = xn y → ∀ (u : cU) (L : List Nat) (f : Nat → va_E) (H : Heap) (locs : List Loc) (ls : Array Slot), Sh G L f aS v n xn xr nr rw (r 1) ak wl wy mp mm → lv_has ls 7 [(4, .int (nI x)), (3, .int (nI y)), (2, .int (nI n)), (0, .ref aS), (1, .ref (a 0))] → xW G A s.heap (cW G a z r u ++ va_pl L f) H locs → W p l e ⟨8, 1000, 7000, 130⟩ s m args below meth c H locs (C + 4 * x) (S + 24 * x) Q (F0 m 170 ls []) := by
  obtain ⟨hx, hb, -, hown, hts, -⟩ := id hc
  have hH := cA_H hA0
  obtain ⟨hn1, hn2, hn3, hn4, hn5⟩ := cA_n hA0
  have hB : cB N B z r n xn xr nr v rw ak wl wy mp mm := ⟨rs, q, hA0⟩
  have hL := cA_L hA0
  have hX := cB_sX hB
  have hxy4 := cB_x4 hB hy
  intro d
  induction d with
  | zero =>
    intro x hd u L f H locs ls hS hl hw
    obtain ⟨ad, oo, om, hO, hA⟩ := id hS
    obtain ⟨⟨hR1, hR2, hR3⟩, ⟨hE1, hE2⟩, ⟨hZ1, hZ2, hZ3⟩, ⟨hW1, hW2⟩, ⟨hM1, hM2, hM3⟩, hNe⟩ := id hA
    have hO : objS L f aS 4 [.ref (ad 0), .ref (ad 1), .ref (ad 2), .ref (ad 3), .int (v 4), .int (v 5), .int (v 6), .ref (ad 4), .ref (ad 5), .int (v 9), .int (v 10), .int (v 11), .int (v 12), .int (v 13)] := hO
    obtain ⟨hy4, ea, he1, he2⟩ := hE2 y hy
    refine lv_iload hx hb dX4_isSame_170 (lv_at hl 0 rfl) ?_
    refine lv_aload_n hx hb dX4_isSame_172 rfl (lv_at hl 3 rfl) ?_
    refine pget (C := RX4) (T := TX4) (N := 14) (ci := 4) hc hw inX4_isSame_X4 hO rfl 1 (by decide) lkX4_isSame_f15 rfl rfl dX4_isSame_173 ?_
    refine lv_iload_n hx hb dX4_isSame_176 rfl (lv_at hl 1 rfl) ?_
    refine pald hc hw hE1 y rfl hy (by omega) (v := .ref ea) (by rw [he1]; rfl) dX4_isSame_177 ?_
    refine plenI hc hw he2 dX4_isSame_178 ?_
    refine lv_icmp_ge (tgt := 283) hx hb dX4_isSame_179 (by decide) (fun hz => ?_) (fun h => absurd (nI_le (by omega) (by omega)) h)
    exact W.widen (k := C + 16) (n := S + 96) (by (try dsimp only); omega) (by (try dsimp only); omega) (kx u L f H locs ls hS (lv_sub hl [1, 2, 3, 4] rfl) hw)
  | succ d ih =>
    intro x hd u L f H locs ls hS hl hw
    obtain ⟨ad, oo, om, hO, hA⟩ := id hS
    obtain ⟨⟨hR1, hR2, hR3⟩, ⟨hE1, hE2⟩, ⟨hZ1, hZ2, hZ3⟩, ⟨hW1, hW2⟩, ⟨hM1, hM2, hM3⟩, hNe⟩ := id hA
    have hO : objS L f aS 4 [.ref (ad 0), .ref (ad 1), .ref (ad 2), .ref (ad 3), .int (v 4), .int (v 5), .int (v 6), .ref (ad 4), .ref (ad 5), .int (v 9), .int (v 10), .int (v 11), .int (v 12), .int (v 13)] := hO
    obtain ⟨hy4, ea, he1, he2⟩ := hE2 y hy
    obtain ⟨k, t, hk1, hk2, ez, hx4, eld, ht, hto, eml, eop, etr⟩ := c_exit hA0 hy (show x < xn y by omega)
    obtain ⟨ra, hr1, hr2⟩ := hR2 k hk2
    refine lv_iload hx hb dX4_isSame_170 (lv_at hl 0 rfl) ?_
    refine lv_aload_n hx hb dX4_isSame_172 rfl (lv_at hl 3 rfl) ?_
    refine pget (C := RX4) (T := TX4) (N := 14) (ci := 4) hc hw inX4_isSame_X4 hO rfl 1 (by decide) lkX4_isSame_f15 rfl rfl dX4_isSame_173 ?_
    refine lv_iload_n hx hb dX4_isSame_176 rfl (lv_at hl 1 rfl) ?_
    refine pald hc hw hE1 y rfl hy (by omega) (v := .ref ea) (by rw [he1]; rfl) dX4_isSame_177 ?_
    refine plenI hc hw he2 dX4_isSame_178 ?_
    refine lv_icmp_ge (tgt := 283) hx hb dX4_isSame_179 (by decide) (fun h => absurd h (nI_ge (by omega) (by omega))) (fun hz => ?_)
    refine lv_aload_n hx hb dX4_isSame_182 rfl (lv_at hl 3 rfl) ?_
    refine pget (C := RX4) (T := TX4) (N := 14) (ci := 4) hc hw inX4_isSame_X4 hO rfl 0 (by decide) lkX4_isSame_f9 rfl rfl dX4_isSame_183 ?_
    refine lv_aload_n hx hb dX4_isSame_186 rfl (lv_at hl 3 rfl) ?_
    refine pget (C := RX4) (T := TX4) (N := 14) (ci := 4) hc hw inX4_isSame_X4 hO rfl 1 (by decide) lkX4_isSame_f15 rfl rfl dX4_isSame_187 ?_
    refine lv_iload_n hx hb dX4_isSame_190 rfl (lv_at hl 1 rfl) ?_
    refine pald hc hw hE1 y rfl hy (by omega) (v := .ref ea) (by rw [he1]; rfl) dX4_isSame_191 ?_
    refine lv_iload hx hb dX4_isSame_192 (lv_at hl 0 rfl) ?_
    refine pild hc hw he2 x rfl (by omega) (by omega) (v := (nI k)) hk1 dX4_isSame_194 ?_
    refine pald hc hw hR1 k rfl hk2 (by omega) (v := .ref ra) (by rw [hr1]; rfl) dX4_isSame_195 ?_
    refine lv_astore (lv' := [(5, .ref ra), (4, .int (nI x)), (3, .int (nI y)), (2, .int (nI n)), (0, .ref aS), (1, .ref (a 0))]) hx hb dX4_isSame_196 hl (by decide) rfl (fun ls hl => ?_)
    refine lv_aload_n hx hb dX4_isSame_198 rfl (lv_at hl 5 rfl) ?_
    refine lv_iload_n hx hb dX4_isSame_199 rfl (lv_at hl 2 rfl) ?_
    refine lv_iload hx hb dX4_isSame_200 (lv_at hl 1 rfl) ?_
    refine ccall_i hc hw (crunV (n := 2) (As := [.int (nI y), .int (nI x)]) (rest := []) hc hw (k_leadsTo hst _ a z r u _ _ hH (ans := nI t) (by rw [l_leadsTo hL ez hx4, eld])) gX4_isSame_X3_leadsTo rfl (by decide +kernel) ⟨Nat.le_of_ble_eq_true rfl, Nat.le_of_ble_eq_true rfl⟩ 0 rfl rfl rfl rfl hl.1 (Nat.le_of_ble_eq_true rfl) dX4_isSame_202 (by first | exact ⟨Nat.le_of_ble_eq_true rfl, Nat.le_of_ble_eq_true rfl⟩ | (refine ⟨?_, ?_⟩ <;> ((try dsimp only); omega)))) (fun x0 u H locs hp hw => ?_)
    have hx0 : x0 = _ := hp
    subst hx0
    refine lv_aload_n hx hb dX4_isSame_205 rfl (lv_at hl 4 rfl) ?_
    refine lv_iload_n hx hb dX4_isSame_206 rfl (lv_at hl 2 rfl) ?_
    refine lv_iload hx hb dX4_isSame_207 (lv_at hl 1 rfl) ?_
    refine pcall_i hc hw (prunV (n := 2) (As := [.int (nI y), .int (nI x)]) (rest := [.int (nI t)]) hc hw (metS_to l G _ _ _ aS v n xn xr nr rw _ ak wl wy mp mm hS hX y x hy (by omega)) gX4_isSame_X4_to rfl (by decide +kernel) ⟨Nat.le_of_ble_eq_true rfl, Nat.le_of_ble_eq_true rfl⟩ hO rfl rfl rfl hl.1 (Nat.le_of_ble_eq_true rfl) dX4_isSame_209 (by first | exact ⟨Nat.le_of_ble_eq_true rfl, Nat.le_of_ble_eq_true rfl⟩ | (refine ⟨?_, ?_⟩ <;> ((try dsimp only); omega)))) (fun t9 L9 f9 H locs hp hw => ?_)
    obtain ⟨het, eu⟩ := hp
    obtain ⟨eL, ef⟩ := Prod.mk.inj eu
    rw [eL, ef] at hw
    rw [hto] at het
    subst het
    refine lv_icmp_ne (tgt := 275) hx hb dX4_isSame_212 (by decide) (fun h => absurd rfl h) (fun hz1 => ?_)
    refine lv_aload_n hx hb dX4_isSame_215 rfl (lv_at hl 5 rfl) ?_
    refine lv_iload_n hx hb dX4_isSame_216 rfl (lv_at hl 2 rfl) ?_
    refine lv_iload hx hb dX4_isSame_217 (lv_at hl 1 rfl) ?_
    refine ccall_i hc hw (crunV (n := 2) (As := [.int (nI y), .int (nI x)]) (rest := []) hc hw (k_milesOf hst _ a z r u _ _ hH (ans := rw k 2) (by rw [l_milesOf hL ez hx4, eml])) gX4_isSame_X3_milesOf rfl (by decide +kernel) ⟨Nat.le_of_ble_eq_true rfl, Nat.le_of_ble_eq_true rfl⟩ 0 rfl rfl rfl rfl hl.1 (Nat.le_of_ble_eq_true rfl) dX4_isSame_219 (by first | exact ⟨Nat.le_of_ble_eq_true rfl, Nat.le_of_ble_eq_true rfl⟩ | (refine ⟨?_, ?_⟩ <;> ((try dsimp only); omega)))) (fun x0 u H locs hp hw => ?_)
    have hx0 : x0 = _ := hp
    subst hx0
    refine lv_aload hx hb dX4_isSame_222 (lv_at hl 0 rfl) ?_
    refine lv_iconst (v := 2) hx hb dX4_isSame_224 (by decide) ?_
    refine pild hc hw hr2 2 rfl (by decide) (by omega) (v := (rw k 2)) rfl dX4_isSame_225 ?_
    refine lv_icmp_ne (tgt := 275) hx hb dX4_isSame_226 (by decide) (fun h => absurd rfl h) (fun hz2 => ?_)
    refine lv_aload_n hx hb dX4_isSame_229 rfl (lv_at hl 5 rfl) ?_
    refine lv_iload_n hx hb dX4_isSame_230 rfl (lv_at hl 2 rfl) ?_
    refine lv_iload hx hb dX4_isSame_231 (lv_at hl 1 rfl) ?_
    refine ccall_i hc hw (crunV (n := 2) (As := [.int (nI y), .int (nI x)]) (rest := []) hc hw (k_isOpen hst _ a z r u _ _ hH (ans := if rw k 3 = 1 then 1 else 0) (by rw [l_isOpen hL ez hx4, eop])) gX4_isSame_X3_isOpen rfl (by decide +kernel) ⟨Nat.le_of_ble_eq_true rfl, Nat.le_of_ble_eq_true rfl⟩ 0 rfl rfl rfl rfl hl.1 (Nat.le_of_ble_eq_true rfl) dX4_isSame_233 (by first | exact ⟨Nat.le_of_ble_eq_true rfl, Nat.le_of_ble_eq_true rfl⟩ | (refine ⟨?_, ?_⟩ <;> ((try dsimp only); omega)))) (fun x0 u H locs hp hw => ?_)
    have hx0 : x0 = _ := hp
    subst hx0
    refine lv_aload hx hb dX4_isSame_236 (lv_at hl 0 rfl) ?_
    refine lv_iconst (v := 3) hx hb dX4_isSame_238 (by decide) ?_
    refine pild hc hw hr2 3 rfl (by decide) (by omega) (v := (rw k 3)) rfl dX4_isSame_239 ?_
    refine lv_iconst (v := 1) hx hb dX4_isSame_240 (by decide) ?_
    refine lv_icmp_ne (tgt := 248) hx hb dX4_isSame_241 (by decide) (fun h3 => ?_) (fun h3 => ?_)
    · refine lv_iconst (v := 0) hx hb dX4_isSame_248 (by decide) ?_
      rw [if_neg h3]
      refine lv_icmp_ne (tgt := 275) hx hb dX4_isSame_249 (by decide) (fun h => absurd rfl h) (fun hz3 => ?_)
      refine lv_aload_n hx hb dX4_isSame_252 rfl (lv_at hl 5 rfl) ?_
      refine lv_iload_n hx hb dX4_isSame_253 rfl (lv_at hl 2 rfl) ?_
      refine lv_iload hx hb dX4_isSame_254 (lv_at hl 1 rfl) ?_
      refine ccall_i hc hw (crunV (n := 2) (As := [.int (nI y), .int (nI x)]) (rest := []) hc hw (k_isTried hst _ a z r u _ _ hH (ans := if rw k 4 = 1 then 1 else 0) (by rw [l_isTried hL ez hx4, etr])) gX4_isSame_X3_isTried rfl (by decide +kernel) ⟨Nat.le_of_ble_eq_true rfl, Nat.le_of_ble_eq_true rfl⟩ 0 rfl rfl rfl rfl hl.1 (Nat.le_of_ble_eq_true rfl) dX4_isSame_256 (by first | exact ⟨Nat.le_of_ble_eq_true rfl, Nat.le_of_ble_eq_true rfl⟩ | (refine ⟨?_, ?_⟩ <;> ((try dsimp only); omega)))) (fun x0 u H locs hp hw => ?_)
      have hx0 : x0 = _ := hp
      subst hx0
      refine lv_aload hx hb dX4_isSame_259 (lv_at hl 0 rfl) ?_
      refine lv_iconst (v := 4) hx hb dX4_isSame_261 (by decide) ?_
      refine pild hc hw hr2 4 rfl (by decide) (by omega) (v := (rw k 4)) rfl dX4_isSame_262 ?_
      refine lv_iconst (v := 1) hx hb dX4_isSame_263 (by decide) ?_
      refine lv_icmp_ne (tgt := 271) hx hb dX4_isSame_264 (by decide) (fun h4 => ?_) (fun h4 => ?_)
      · refine lv_iconst (v := 0) hx hb dX4_isSame_271 (by decide) ?_
        rw [if_neg h4]
        refine lv_icmp_eq (tgt := 277) hx hb dX4_isSame_272 (by decide) (fun hz4 => ?_) (fun h => absurd rfl h)
        refine lv_iinc (v := nI (x + 1)) (lv' := [(4, .int (nI (x + 1))), (5, .ref ra), (3, .int (nI y)), (2, .int (nI n)), (0, .ref aS), (1, .ref (a 0))]) hx hb dX4_isSame_277 hl (k := 1) rfl (nI_1 _) (by decide) rfl (fun ls hl => ?_)
        refine lv_goto (tgt := 170) hx hb dX4_isSame_280 (by decide) ?_
        refine W.widen (k := C + 4 * (x + 1)) (n := S + 24 * (x + 1)) (by (try dsimp only); omega) (by (try dsimp only); omega) ?_
        exact ih (x + 1) (by omega) u L f H locs ls hS (lv_sub hl [0, 2, 3, 4, 5] rfl) hw
      · refine lv_iconst (v := 1) hx hb dX4_isSame_267 (by decide) ?_
        refine lv_goto (tgt := 272) hx hb dX4_isSame_268 (by decide) ?_
        rw [if_pos h4]
        refine lv_icmp_eq (tgt := 277) hx hb dX4_isSame_272 (by decide) (fun hz4 => ?_) (fun h => absurd rfl h)
        refine lv_iinc (v := nI (x + 1)) (lv' := [(4, .int (nI (x + 1))), (5, .ref ra), (3, .int (nI y)), (2, .int (nI n)), (0, .ref aS), (1, .ref (a 0))]) hx hb dX4_isSame_277 hl (k := 1) rfl (nI_1 _) (by decide) rfl (fun ls hl => ?_)
        refine lv_goto (tgt := 170) hx hb dX4_isSame_280 (by decide) ?_
        refine W.widen (k := C + 4 * (x + 1)) (n := S + 24 * (x + 1)) (by (try dsimp only); omega) (by (try dsimp only); omega) ?_
        exact ih (x + 1) (by omega) u L f H locs ls hS (lv_sub hl [0, 2, 3, 4, 5] rfl) hw
    · refine lv_iconst (v := 1) hx hb dX4_isSame_244 (by decide) ?_
      refine lv_goto (tgt := 249) hx hb dX4_isSame_245 (by decide) ?_
      rw [if_pos h3]
      refine lv_icmp_ne (tgt := 275) hx hb dX4_isSame_249 (by decide) (fun h => absurd rfl h) (fun hz3 => ?_)
      refine lv_aload_n hx hb dX4_isSame_252 rfl (lv_at hl 5 rfl) ?_
      refine lv_iload_n hx hb dX4_isSame_253 rfl (lv_at hl 2 rfl) ?_
      refine lv_iload hx hb dX4_isSame_254 (lv_at hl 1 rfl) ?_
      refine ccall_i hc hw (crunV (n := 2) (As := [.int (nI y), .int (nI x)]) (rest := []) hc hw (k_isTried hst _ a z r u _ _ hH (ans := if rw k 4 = 1 then 1 else 0) (by rw [l_isTried hL ez hx4, etr])) gX4_isSame_X3_isTried rfl (by decide +kernel) ⟨Nat.le_of_ble_eq_true rfl, Nat.le_of_ble_eq_true rfl⟩ 0 rfl rfl rfl rfl hl.1 (Nat.le_of_ble_eq_true rfl) dX4_isSame_256 (by first | exact ⟨Nat.le_of_ble_eq_true rfl, Nat.le_of_ble_eq_true rfl⟩ | (refine ⟨?_, ?_⟩ <;> ((try dsimp only); omega)))) (fun x0 u H locs hp hw => ?_)
      have hx0 : x0 = _ := hp
      subst hx0
      refine lv_aload hx hb dX4_isSame_259 (lv_at hl 0 rfl) ?_
      refine lv_iconst (v := 4) hx hb dX4_isSame_261 (by decide) ?_
      refine pild hc hw hr2 4 rfl (by decide) (by omega) (v := (rw k 4)) rfl dX4_isSame_262 ?_
      refine lv_iconst (v := 1) hx hb dX4_isSame_263 (by decide) ?_
      refine lv_icmp_ne (tgt := 271) hx hb dX4_isSame_264 (by decide) (fun h4 => ?_) (fun h4 => ?_)
      · refine lv_iconst (v := 0) hx hb dX4_isSame_271 (by decide) ?_
        rw [if_neg h4]
        refine lv_icmp_eq (tgt := 277) hx hb dX4_isSame_272 (by decide) (fun hz4 => ?_) (fun h => absurd rfl h)
        refine lv_iinc (v := nI (x + 1)) (lv' := [(4, .int (nI (x + 1))), (5, .ref ra), (3, .int (nI y)), (2, .int (nI n)), (0, .ref aS), (1, .ref (a 0))]) hx hb dX4_isSame_277 hl (k := 1) rfl (nI_1 _) (by decide) rfl (fun ls hl => ?_)
        refine lv_goto (tgt := 170) hx hb dX4_isSame_280 (by decide) ?_
        refine W.widen (k := C + 4 * (x + 1)) (n := S + 24 * (x + 1)) (by (try dsimp only); omega) (by (try dsimp only); omega) ?_
        exact ih (x + 1) (by omega) u L f H locs ls hS (lv_sub hl [0, 2, 3, 4, 5] rfl) hw
      · refine lv_iconst (v := 1) hx hb dX4_isSame_267 (by decide) ?_
        refine lv_goto (tgt := 272) hx hb dX4_isSame_268 (by decide) ?_
        rw [if_pos h4]
        refine lv_icmp_eq (tgt := 277) hx hb dX4_isSame_272 (by decide) (fun hz4 => ?_) (fun h => absurd rfl h)
        refine lv_iinc (v := nI (x + 1)) (lv' := [(4, .int (nI (x + 1))), (5, .ref ra), (3, .int (nI y)), (2, .int (nI n)), (0, .ref aS), (1, .ref (a 0))]) hx hb dX4_isSame_277 hl (k := 1) rfl (nI_1 _) (by decide) rfl (fun ls hl => ?_)
        refine lv_goto (tgt := 170) hx hb dX4_isSame_280 (by decide) ?_
        refine W.widen (k := C + 4 * (x + 1)) (n := S + 24 * (x + 1)) (by (try dsimp only); omega) (by (try dsimp only); omega) ?_
        exact ih (x + 1) (by omega) u L f H locs ls hS (lv_sub hl [0, 2, 3, 4, 5] rfl) hw
set_option maxHeartbeats 40000000 in
set_option maxRecDepth 100000 in
theorem lpI_others {p : Program} {l : Launch} {e : Env} {s : State} {m : MethodId} {args : Array Value} {below : List Frame} {meth : Method} {c : Code} {Q : State → Prop} {G : xG} {A : Nat → Prop} (hst : l.stackTraces = false) {a : Nat → Nat} {aS : Nat} {ret : Option FieldType} {N : Nat} {B : Int} {z : Nat → Int32} {r : Nat → Nat → Int32} {rs : Int32} {q : Nat → Nat → Int32} {n : Nat} {xn : Nat → Nat} {xr : Nat → Nat → Int32} {nr : Nat} {v : Nat → Int32} {rw : Nat → Nat → Int32} {ak : Nat → Int32} {wl : Nat} {wy : Nat → Nat → Int32} {mp : Nat → Nat → Bool} {mm : Nat → Nat → Nat → Int32} (hc : xC p s m args meth c cX4_isSame 7 RX4 wsX4_isSame ret G A) (hA0 : cA N B z r rs q n xn xr nr v rw ak wl wy mp mm) {C S y : Nat} (hy : y < n) (hCS : C ≤ 900 ∧ S ≤ 6000)
    (kx : ∀ (u : cU) (L : List Nat) (f : Nat → va_E) (H : Heap) (locs : List Loc) (ls : Array Slot), Sh G L f aS v n xn xr nr rw (r 1) ak wl wy mp mm → lv_has ls 7 [(3, .int (nI y)), (2, .int (nI n)), (0, .ref aS), (1, .ref (a 0))] → xW G A s.heap (cW G a z r u ++ va_pl L f) H locs → W p l e ⟨8, 1000, 7000, 130⟩ s m args below meth c H locs (C + 70) (S + 460) Q (F0 m 390 ls [])) :
    ∀ (d x : Nat), x + d = n → ∀ (u : cU) (L : List Nat) (f : Nat → va_E) (H : Heap) (locs : List Loc) (ls : Array Slot), Sh G L f aS v n xn xr nr rw (r 1) ak wl wy mp mm → lv_has ls 7 [(4, .int (nI x)), (3, .int (nI y)), (2, .int (nI n)), (0, .ref aS), (1, .ref (a 0))] → xW G A s.heap (cW G a z r u ++ va_pl L f) H locs → W p l e ⟨8, 1000, 7000, 130⟩ s m args below meth c H locs (C + 7 * x) (S + 46 * x) Q (F0 m 286 ls []) := by
  obtain ⟨hx, hb, -, hown, hts, -⟩ := id hc
  have hH := cA_H hA0
  obtain ⟨hn1, hn2, hn3, hn4, hn5⟩ := cA_n hA0
  have hB : cB N B z r n xn xr nr v rw ak wl wy mp mm := ⟨rs, q, hA0⟩
  have hL := cA_L hA0
  have hX := cB_sX hB
  have hM0 := zI_M hA0.1
  have hrM := hA0.2.2.1.2.2.2.2
  intro d
  induction d with
  | zero =>
    intro x hd u L f H locs ls hS hl hw
    refine lv_iload hx hb dX4_isSame_286 (lv_at hl 0 rfl) ?_
    refine lv_iload_n hx hb dX4_isSame_288 rfl (lv_at hl 2 rfl) ?_
    refine lv_icmp_ge (tgt := 390) hx hb dX4_isSame_289 (by decide) (fun hz => ?_) (fun h => absurd (nI_le (by omega) (by omega)) h)
    exact W.widen (k := C + 70) (n := S + 460) (by (try dsimp only); omega) (by (try dsimp only); omega) (kx u L f H locs ls hS (lv_sub hl [1, 2, 3, 4] rfl) hw)
  | succ d ih =>
    intro x hd u L f H locs ls hS hl hw
    obtain ⟨ad, oo, om, hO, hA⟩ := id hS
    obtain ⟨⟨hR1, hR2, hR3⟩, ⟨hE1, hE2⟩, ⟨hZ1, hZ2, hZ3⟩, ⟨hW1, hW2⟩, ⟨hM1, hM2, hM3⟩, hNe⟩ := id hA
    have hO : objS L f aS 4 [.ref (ad 0), .ref (ad 1), .ref (ad 2), .ref (ad 3), .int (v 4), .int (v 5), .int (v 6), .ref (ad 4), .ref (ad 5), .int (v 9), .int (v 10), .int (v 11), .int (v 12), .int (v 13)] := hO
    obtain ⟨ga, hga1, hga2, hga3⟩ := hM3 y (by omega)
    obtain ⟨d, hd1, hd2, hd3, hd4⟩ := a_far hA0 hy (show x < n by omega)
    refine lv_iload hx hb dX4_isSame_286 (lv_at hl 0 rfl) ?_
    refine lv_iload_n hx hb dX4_isSame_288 rfl (lv_at hl 2 rfl) ?_
    refine lv_icmp_ge (tgt := 390) hx hb dX4_isSame_289 (by decide) (fun h => absurd h (nI_ge (by omega) (by omega))) (fun hz => ?_)
    refine lv_aload_n hx hb dX4_isSame_292 rfl (lv_at hl 3 rfl) ?_
    refine pget (C := RX4) (T := TX4) (N := 14) (ci := 4) hc hw inX4_isSame_X4 hO rfl 8 (by decide) lkX4_isSame_f37 rfl rfl dX4_isSame_293 ?_
    refine lv_iload_n hx hb dX4_isSame_296 rfl (lv_at hl 1 rfl) ?_
    refine pbld hc hw hM1 y rfl (by omega) (by omega) (v := .ref ga) (by rw [hga1]; rfl) dX4_isSame_297 ?_
    refine lv_iload hx hb dX4_isSame_298 (lv_at hl 0 rfl) ?_
    rcases hga3 x (by omega) with ⟨hg1, hg2⟩ | ⟨hg2, b, hg1, hg3⟩
    · have hq6 : q 6 (10 * y + x) = -1 := by
        rcases hrM y x (by omega) (by omega) with ⟨-, h⟩ | ⟨h, -⟩
        · exact h
        · rw [hg2] at h; exact absurd h (by decide)
      refine pald hc hw hga2 x rfl (by omega) (by omega) (v := .null) (by rw [hg1]; rfl) dX4_isSame_300 ?_
      refine lv_astoreN (lv' := [(5, .null), (4, .int (nI x)), (3, .int (nI y)), (2, .int (nI n)), (0, .ref aS), (1, .ref (a 0))]) hx hb dX4_isSame_301 hl (by decide) rfl (fun ls hl => ?_)
      refine lv_aload_n hx hb dX4_isSame_303 rfl (lv_at hl 4 rfl) ?_
      refine lv_iload_n hx hb dX4_isSame_304 rfl (lv_at hl 2 rfl) ?_
      refine lv_iload hx hb dX4_isSame_305 (lv_at hl 1 rfl) ?_
      refine pcall_i hc hw (prunV (n := 2) (As := [.int (nI y), .int (nI x)]) (rest := []) hc hw (metS_far l G _ _ _ aS v n xn xr nr rw _ ak wl wy mp mm hS hX _ _ ⟨x, rfl, by omega⟩) gX4_isSame_X4_far rfl (by decide +kernel) ⟨Nat.le_of_ble_eq_true rfl, Nat.le_of_ble_eq_true rfl⟩ hO rfl rfl rfl hl.1 (Nat.le_of_ble_eq_true rfl) dX4_isSame_307 (by first | exact ⟨Nat.le_of_ble_eq_true rfl, Nat.le_of_ble_eq_true rfl⟩ | (refine ⟨?_, ?_⟩ <;> ((try dsimp only); omega)))) (fun x7 L1 f1 H locs hp hw => ?_)
      obtain ⟨e7, hk7⟩ := hp
      rw [hd3] at e7
      subst e7
      have hS := Sh_new hS hk7
      refine lv_istore (lv' := [(6, .int (nI d)), (5, .null), (4, .int (nI x)), (3, .int (nI y)), (2, .int (nI n)), (0, .ref aS), (1, .ref (a 0))]) hx hb dX4_isSame_310 hl (by decide) rfl (fun ls hl => ?_)
      refine lv_aload_n hx hb dX4_isSame_312 rfl (lv_at hl 6 rfl) ?_
      refine lv_iload_n hx hb dX4_isSame_313 rfl (lv_at hl 3 rfl) ?_
      refine lv_iload hx hb dX4_isSame_314 (lv_at hl 2 rfl) ?_
      refine ccall_i hc hw (crunV (n := 2) (As := [.int (nI y), .int (nI x)]) (rest := []) hc hw (k_remembered hst _ a z r u _ _ (ans := -1) (by rw [l_remembered hL hM0 (by omega) (by omega), hq6])) gX4_isSame_X3_remembered rfl (by decide +kernel) ⟨Nat.le_of_ble_eq_true rfl, Nat.le_of_ble_eq_true rfl⟩ 0 rfl rfl rfl rfl hl.1 (Nat.le_of_ble_eq_true rfl) dX4_isSame_316 (by first | exact ⟨Nat.le_of_ble_eq_true rfl, Nat.le_of_ble_eq_true rfl⟩ | (refine ⟨?_, ?_⟩ <;> ((try dsimp only); omega)))) (fun x0 u H locs hp hw => ?_)
      have hx0 : x0 = _ := hp
      subst hx0
      refine lv_aloadN hx hb dX4_isSame_319 (lv_at hl 1 rfl) ?_
      refine lv_ifnonnullN hx hb dX4_isSame_321 ?_
      refine lv_iconst (v := (-1)) hx hb dX4_isSame_324 (by decide) ?_
      refine lv_goto (tgt := 332) hx hb dX4_isSame_325 (by decide) ?_
      refine lv_icmp_ne (tgt := 382) hx hb dX4_isSame_332 (by decide) (fun h => absurd rfl h) (fun hz1 => ?_)
      refine lv_aload_n hx hb dX4_isSame_335 rfl (lv_at hl 6 rfl) ?_
      refine lv_iload_n hx hb dX4_isSame_336 rfl (lv_at hl 3 rfl) ?_
      refine lv_iload hx hb dX4_isSame_337 (lv_at hl 2 rfl) ?_
      refine ccall_i hc hw (crunV (n := 2) (As := [.int (nI y), .int (nI x)]) (rest := []) hc hw (k_strength hst _ a z r u _ _ (ans := 0) (by rw [l_strength hL hM0 (by omega) (by omega), if_pos hq6])) gX4_isSame_X3_strength rfl (by decide +kernel) ⟨Nat.le_of_ble_eq_true rfl, Nat.le_of_ble_eq_true rfl⟩ 0 rfl rfl rfl rfl hl.1 (Nat.le_of_ble_eq_true rfl) dX4_isSame_339 (by first | exact ⟨Nat.le_of_ble_eq_true rfl, Nat.le_of_ble_eq_true rfl⟩ | (refine ⟨?_, ?_⟩ <;> ((try dsimp only); omega)))) (fun x0 u H locs hp hw => ?_)
      have hx0 : x0 = _ := hp
      subst hx0
      refine lv_aloadN hx hb dX4_isSame_342 (lv_at hl 1 rfl) ?_
      refine lv_ifnonnullN hx hb dX4_isSame_344 ?_
      refine lv_iconst (v := 0) hx hb dX4_isSame_347 (by decide) ?_
      refine lv_goto (tgt := 355) hx hb dX4_isSame_348 (by decide) ?_
      refine lv_icmp_ne (tgt := 382) hx hb dX4_isSame_355 (by decide) (fun h => absurd rfl h) (fun hz2 => ?_)
      refine lv_aload_n hx hb dX4_isSame_358 rfl (lv_at hl 6 rfl) ?_
      refine lv_iload_n hx hb dX4_isSame_359 rfl (lv_at hl 3 rfl) ?_
      refine lv_iload hx hb dX4_isSame_360 (lv_at hl 2 rfl) ?_
      refine ccall_i hc hw (crunV (n := 2) (As := [.int (nI y), .int (nI x)]) (rest := []) hc hw (k_distance hst _ a z r u _ _ hH (hd4 u.1).1 (hd4 u.1).2) gX4_isSame_X3_distance rfl (by decide +kernel) ⟨Nat.le_of_ble_eq_true rfl, Nat.le_of_ble_eq_true rfl⟩ 0 rfl rfl rfl rfl hl.1 (Nat.le_of_ble_eq_true rfl) dX4_isSame_362 (by first | exact ⟨Nat.le_of_ble_eq_true rfl, Nat.le_of_ble_eq_true rfl⟩ | (refine ⟨?_, ?_⟩ <;> ((try dsimp only); omega)))) (fun x0 u H locs hp hw => ?_)
      have hx0 : x0 = _ := hp
      subst hx0
      refine lv_iload hx hb dX4_isSame_365 (lv_at hl 0 rfl) ?_
      refine lv_sipush (v := 9999) hx hb dX4_isSame_367 (by decide) ?_
      refine lv_icmp_ne (tgt := 377) hx hb dX4_isSame_370 (by decide) (fun hz5 => ?_) (fun hz5 => ?_)
      · have e9 : tD d = nI d := by
          unfold tD
          rw [if_neg (fun h9 => hz5 (by rw [h9]; rfl))]
        refine lv_iload hx hb dX4_isSame_377 (lv_at hl 0 rfl) ?_
        rw [e9]
        refine lv_icmp_eq (tgt := 384) hx hb dX4_isSame_379 (by decide) (fun hz6 => ?_) (fun h => absurd rfl h)
        refine lv_iinc (v := nI (x + 1)) (lv' := [(4, .int (nI (x + 1))), (6, .int (nI d)), (5, .null), (3, .int (nI y)), (2, .int (nI n)), (0, .ref aS), (1, .ref (a 0))]) hx hb dX4_isSame_384 hl (k := 2) rfl (nI_1 _) (by decide) rfl (fun ls hl => ?_)
        refine lv_goto (tgt := 286) hx hb dX4_isSame_387 (by decide) ?_
        refine W.widen (k := C + 7 * (x + 1)) (n := S + 46 * (x + 1)) (by (try dsimp only); omega) (by (try dsimp only); omega) ?_
        exact ih (x + 1) (by omega) u L1 f1 H locs ls hS (lv_sub hl [0, 3, 4, 5, 6] rfl) hw
      · have e9 : tD d = -1 := by
          unfold tD
          rw [if_pos (nI_inj (by omega) (by omega) (hz5.trans (show (9999 : Int32) = nI 9999 from rfl)))]
        refine lv_iconst (v := (-1)) hx hb dX4_isSame_373 (by decide) ?_
        refine lv_goto (tgt := 379) hx hb dX4_isSame_374 (by decide) ?_
        rw [e9]
        refine lv_icmp_eq (tgt := 384) hx hb dX4_isSame_379 (by decide) (fun hz6 => ?_) (fun h => absurd rfl h)
        refine lv_iinc (v := nI (x + 1)) (lv' := [(4, .int (nI (x + 1))), (6, .int (nI d)), (5, .null), (3, .int (nI y)), (2, .int (nI n)), (0, .ref aS), (1, .ref (a 0))]) hx hb dX4_isSame_384 hl (k := 2) rfl (nI_1 _) (by decide) rfl (fun ls hl => ?_)
        refine lv_goto (tgt := 286) hx hb dX4_isSame_387 (by decide) ?_
        refine W.widen (k := C + 7 * (x + 1)) (n := S + 46 * (x + 1)) (by (try dsimp only); omega) (by (try dsimp only); omega) ?_
        exact ih (x + 1) (by omega) u L1 f1 H locs ls hS (lv_sub hl [0, 3, 4, 5, 6] rfl) hw
    · have hq6 : ¬ q 6 (10 * y + x) = -1 ∧ mm y x 0 = q 6 (10 * y + x) ∧ mm y x 1 = q 7 (10 * y + x) := by
        rcases hrM y x (by omega) (by omega) with ⟨h, -⟩ | ⟨-, h⟩
        · rw [hg2] at h; exact absurd h (by decide)
        · exact h
      refine pald hc hw hga2 x rfl (by omega) (by omega) (v := .ref b) (by rw [hg1]; rfl) dX4_isSame_300 ?_
      refine lv_astore (lv' := [(5, .ref b), (4, .int (nI x)), (3, .int (nI y)), (2, .int (nI n)), (0, .ref aS), (1, .ref (a 0))]) hx hb dX4_isSame_301 hl (by decide) rfl (fun ls hl => ?_)
      refine lv_aload_n hx hb dX4_isSame_303 rfl (lv_at hl 4 rfl) ?_
      refine lv_iload_n hx hb dX4_isSame_304 rfl (lv_at hl 2 rfl) ?_
      refine lv_iload hx hb dX4_isSame_305 (lv_at hl 1 rfl) ?_
      refine pcall_i hc hw (prunV (n := 2) (As := [.int (nI y), .int (nI x)]) (rest := []) hc hw (metS_far l G _ _ _ aS v n xn xr nr rw _ ak wl wy mp mm hS hX _ _ ⟨x, rfl, by omega⟩) gX4_isSame_X4_far rfl (by decide +kernel) ⟨Nat.le_of_ble_eq_true rfl, Nat.le_of_ble_eq_true rfl⟩ hO rfl rfl rfl hl.1 (Nat.le_of_ble_eq_true rfl) dX4_isSame_307 (by first | exact ⟨Nat.le_of_ble_eq_true rfl, Nat.le_of_ble_eq_true rfl⟩ | (refine ⟨?_, ?_⟩ <;> ((try dsimp only); omega)))) (fun x7 L1 f1 H locs hp hw => ?_)
      obtain ⟨e7, hk7⟩ := hp
      rw [hd3] at e7
      subst e7
      have hS := Sh_new hS hk7
      have hg3 := hg3.kp hk7 (fun z => z)
      refine lv_istore (lv' := [(6, .int (nI d)), (5, .ref b), (4, .int (nI x)), (3, .int (nI y)), (2, .int (nI n)), (0, .ref aS), (1, .ref (a 0))]) hx hb dX4_isSame_310 hl (by decide) rfl (fun ls hl => ?_)
      refine lv_aload_n hx hb dX4_isSame_312 rfl (lv_at hl 6 rfl) ?_
      refine lv_iload_n hx hb dX4_isSame_313 rfl (lv_at hl 3 rfl) ?_
      refine lv_iload hx hb dX4_isSame_314 (lv_at hl 2 rfl) ?_
      refine ccall_i hc hw (crunV (n := 2) (As := [.int (nI y), .int (nI x)]) (rest := []) hc hw (k_remembered hst _ a z r u _ _ (ans := mm y x 0) (by rw [l_remembered hL hM0 (by omega) (by omega), hq6.2.1])) gX4_isSame_X3_remembered rfl (by decide +kernel) ⟨Nat.le_of_ble_eq_true rfl, Nat.le_of_ble_eq_true rfl⟩ 0 rfl rfl rfl rfl hl.1 (Nat.le_of_ble_eq_true rfl) dX4_isSame_316 (by first | exact ⟨Nat.le_of_ble_eq_true rfl, Nat.le_of_ble_eq_true rfl⟩ | (refine ⟨?_, ?_⟩ <;> ((try dsimp only); omega)))) (fun x0 u H locs hp hw => ?_)
      have hx0 : x0 = _ := hp
      subst hx0
      refine lv_aload hx hb dX4_isSame_319 (lv_at hl 1 rfl) ?_
      refine lv_ifnonnull (tgt := 328) hx hb dX4_isSame_321 (by decide) ?_
      refine lv_aload hx hb dX4_isSame_328 (lv_at hl 1 rfl) ?_
      refine lv_iconst (v := 0) hx hb dX4_isSame_330 (by decide) ?_
      refine pild hc hw hg3 0 rfl (by decide) (by omega) (v := (mm y x 0)) rfl dX4_isSame_331 ?_
      refine lv_icmp_ne (tgt := 382) hx hb dX4_isSame_332 (by decide) (fun h => absurd rfl h) (fun hz1 => ?_)
      refine lv_aload_n hx hb dX4_isSame_335 rfl (lv_at hl 6 rfl) ?_
      refine lv_iload_n hx hb dX4_isSame_336 rfl (lv_at hl 3 rfl) ?_
      refine lv_iload hx hb dX4_isSame_337 (lv_at hl 2 rfl) ?_
      refine ccall_i hc hw (crunV (n := 2) (As := [.int (nI y), .int (nI x)]) (rest := []) hc hw (k_strength hst _ a z r u _ _ (ans := mm y x 1) (by rw [l_strength hL hM0 (by omega) (by omega), if_neg hq6.1, hq6.2.2])) gX4_isSame_X3_strength rfl (by decide +kernel) ⟨Nat.le_of_ble_eq_true rfl, Nat.le_of_ble_eq_true rfl⟩ 0 rfl rfl rfl rfl hl.1 (Nat.le_of_ble_eq_true rfl) dX4_isSame_339 (by first | exact ⟨Nat.le_of_ble_eq_true rfl, Nat.le_of_ble_eq_true rfl⟩ | (refine ⟨?_, ?_⟩ <;> ((try dsimp only); omega)))) (fun x0 u H locs hp hw => ?_)
      have hx0 : x0 = _ := hp
      subst hx0
      refine lv_aload hx hb dX4_isSame_342 (lv_at hl 1 rfl) ?_
      refine lv_ifnonnull (tgt := 351) hx hb dX4_isSame_344 (by decide) ?_
      refine lv_aload hx hb dX4_isSame_351 (lv_at hl 1 rfl) ?_
      refine lv_iconst (v := 1) hx hb dX4_isSame_353 (by decide) ?_
      refine pild hc hw hg3 1 rfl (by decide) (by omega) (v := (mm y x 1)) rfl dX4_isSame_354 ?_
      refine lv_icmp_ne (tgt := 382) hx hb dX4_isSame_355 (by decide) (fun h => absurd rfl h) (fun hz2 => ?_)
      refine lv_aload_n hx hb dX4_isSame_358 rfl (lv_at hl 6 rfl) ?_
      refine lv_iload_n hx hb dX4_isSame_359 rfl (lv_at hl 3 rfl) ?_
      refine lv_iload hx hb dX4_isSame_360 (lv_at hl 2 rfl) ?_
      refine ccall_i hc hw (crunV (n := 2) (As := [.int (nI y), .int (nI x)]) (rest := []) hc hw (k_distance hst _ a z r u _ _ hH (hd4 u.1).1 (hd4 u.1).2) gX4_isSame_X3_distance rfl (by decide +kernel) ⟨Nat.le_of_ble_eq_true rfl, Nat.le_of_ble_eq_true rfl⟩ 0 rfl rfl rfl rfl hl.1 (Nat.le_of_ble_eq_true rfl) dX4_isSame_362 (by first | exact ⟨Nat.le_of_ble_eq_true rfl, Nat.le_of_ble_eq_true rfl⟩ | (refine ⟨?_, ?_⟩ <;> ((try dsimp only); omega)))) (fun x0 u H locs hp hw => ?_)
      have hx0 : x0 = _ := hp
      subst hx0
      refine lv_iload hx hb dX4_isSame_365 (lv_at hl 0 rfl) ?_
      refine lv_sipush (v := 9999) hx hb dX4_isSame_367 (by decide) ?_
      refine lv_icmp_ne (tgt := 377) hx hb dX4_isSame_370 (by decide) (fun hz5 => ?_) (fun hz5 => ?_)
      · have e9 : tD d = nI d := by
          unfold tD
          rw [if_neg (fun h9 => hz5 (by rw [h9]; rfl))]
        refine lv_iload hx hb dX4_isSame_377 (lv_at hl 0 rfl) ?_
        rw [e9]
        refine lv_icmp_eq (tgt := 384) hx hb dX4_isSame_379 (by decide) (fun hz6 => ?_) (fun h => absurd rfl h)
        refine lv_iinc (v := nI (x + 1)) (lv' := [(4, .int (nI (x + 1))), (6, .int (nI d)), (5, .ref b), (3, .int (nI y)), (2, .int (nI n)), (0, .ref aS), (1, .ref (a 0))]) hx hb dX4_isSame_384 hl (k := 2) rfl (nI_1 _) (by decide) rfl (fun ls hl => ?_)
        refine lv_goto (tgt := 286) hx hb dX4_isSame_387 (by decide) ?_
        refine W.widen (k := C + 7 * (x + 1)) (n := S + 46 * (x + 1)) (by (try dsimp only); omega) (by (try dsimp only); omega) ?_
        exact ih (x + 1) (by omega) u L1 f1 H locs ls hS (lv_sub hl [0, 3, 4, 5, 6] rfl) hw
      · have e9 : tD d = -1 := by
          unfold tD
          rw [if_pos (nI_inj (by omega) (by omega) (hz5.trans (show (9999 : Int32) = nI 9999 from rfl)))]
        refine lv_iconst (v := (-1)) hx hb dX4_isSame_373 (by decide) ?_
        refine lv_goto (tgt := 379) hx hb dX4_isSame_374 (by decide) ?_
        rw [e9]
        refine lv_icmp_eq (tgt := 384) hx hb dX4_isSame_379 (by decide) (fun hz6 => ?_) (fun h => absurd rfl h)
        refine lv_iinc (v := nI (x + 1)) (lv' := [(4, .int (nI (x + 1))), (6, .int (nI d)), (5, .ref b), (3, .int (nI y)), (2, .int (nI n)), (0, .ref aS), (1, .ref (a 0))]) hx hb dX4_isSame_384 hl (k := 2) rfl (nI_1 _) (by decide) rfl (fun ls hl => ?_)
        refine lv_goto (tgt := 286) hx hb dX4_isSame_387 (by decide) ?_
        refine W.widen (k := C + 7 * (x + 1)) (n := S + 46 * (x + 1)) (by (try dsimp only); omega) (by (try dsimp only); omega) ?_
        exact ih (x + 1) (by omega) u L1 f1 H locs ls hS (lv_sub hl [0, 3, 4, 5, 6] rfl) hw
set_option maxHeartbeats 40000000 in
set_option maxRecDepth 100000 in
theorem lpI_places {p : Program} {l : Launch} {e : Env} {s : State} {m : MethodId} {args : Array Value} {below : List Frame} {meth : Method} {c : Code} {Q : State → Prop} {G : xG} {A : Nat → Prop} (hst : l.stackTraces = false) {a : Nat → Nat} {aS : Nat} {ret : Option FieldType} {N : Nat} {B : Int} {z : Nat → Int32} {r : Nat → Nat → Int32} {rs : Int32} {q : Nat → Nat → Int32} {n : Nat} {xn : Nat → Nat} {xr : Nat → Nat → Int32} {nr : Nat} {v : Nat → Int32} {rw : Nat → Nat → Int32} {ak : Nat → Int32} {wl : Nat} {wy : Nat → Nat → Int32} {mp : Nat → Nat → Bool} {mm : Nat → Nat → Nat → Int32} (hc : xC p s m args meth c cX4_isSame 7 RX4 wsX4_isSame ret G A) (hA0 : cA N B z r rs q n xn xr nr v rw ak wl wy mp mm)
    (kx : ∀ (u : cU) (L : List Nat) (f : Nat → va_E) (H : Heap) (locs : List Loc) (ls : Array Slot), Sh G L f aS v n xn xr nr rw (r 1) ak wl wy mp mm → lv_has ls 7 [(2, .int (nI n)), (0, .ref aS), (1, .ref (a 0))] → xW G A s.heap (cW G a z r u ++ va_pl L f) H locs → W p l e ⟨8, 1000, 7000, 130⟩ s m args below meth c H locs 900 6000 Q (F0 m 396 ls [])) :
    ∀ (d y : Nat), y + d = n → ∀ (u : cU) (L : List Nat) (f : Nat → va_E) (H : Heap) (locs : List Loc) (ls : Array Slot), Sh G L f aS v n xn xr nr rw (r 1) ak wl wy mp mm → lv_has ls 7 [(3, .int (nI y)), (2, .int (nI n)), (0, .ref aS), (1, .ref (a 0))] → xW G A s.heap (cW G a z r u ++ va_pl L f) H locs → W p l e ⟨8, 1000, 7000, 130⟩ s m args below meth c H locs (90 * y) (600 * y) Q (F0 m 118 ls []) := by
  obtain ⟨hx, hb, -, hown, hts, -⟩ := id hc
  have hH := cA_H hA0
  obtain ⟨hn1, hn2, hn3, hn4, hn5⟩ := cA_n hA0
  have hB : cB N B z r n xn xr nr v rw ak wl wy mp mm := ⟨rs, q, hA0⟩
  have hL := cA_L hA0
  have hX := cB_sX hB
  have hM0 := zI_M hA0.1
  have hrM := hA0.2.2.1.2.2.2.2
  obtain ⟨y4, hy4, hy5⟩ := cB_at hB
  intro d
  induction d with
  | zero =>
    intro y hd u L f H locs ls hS hl hw
    refine lv_iload_n hx hb dX4_isSame_118 rfl (lv_at hl 0 rfl) ?_
    refine lv_iload_n hx hb dX4_isSame_119 rfl (lv_at hl 1 rfl) ?_
    refine lv_icmp_ge (tgt := 396) hx hb dX4_isSame_120 (by decide) (fun hz => ?_) (fun h => absurd (nI_le (by omega) (by omega)) h)
    exact W.widen (k := 900) (n := 6000) (by (try dsimp only); omega) (by (try dsimp only); omega) (kx u L f H locs ls hS (lv_sub hl [1, 2, 3] rfl) hw)
  | succ d ih =>
    intro y hd u L f H locs ls hS hl hw
    obtain ⟨ad, oo, om, hO, hA⟩ := id hS
    obtain ⟨⟨hR1, hR2, hR3⟩, ⟨hE1, hE2⟩, ⟨hZ1, hZ2, hZ3⟩, ⟨hW1, hW2⟩, ⟨hM1, hM2, hM3⟩, hNe⟩ := id hA
    have hO : objS L f aS 4 [.ref (ad 0), .ref (ad 1), .ref (ad 2), .ref (ad 3), .int (v 4), .int (v 5), .int (v 6), .ref (ad 4), .ref (ad 5), .int (v 9), .int (v 10), .int (v 11), .int (v 12), .int (v 13)] := hO
    have hy : y < n := by omega
    obtain ⟨hy4', ea, he1, he2⟩ := hE2 y hy
    have er0 : r 0 y = nI (xn y) := by
      rw [xeqI, nI_toInt (by omega)]
      exact (hA0.2.1.2.1 y hy).symm
    have hkw : FX3_knowsWay (z 1) (r 9) (r 10) (z 0) (r 0) (r 2) (r 5) (nI y) = (0, sKn rw xr mp mm y 10 y4) := by
      rw [← (cB_v hB).1.1, hy4, l_knowsWay hL hM0 (by omega) (by omega)]
      exact congrArg (fun x => ((0 : Nat), x)) (dKn hL hA0.2.1 hrM (cB_V hB).1 hy 10 y4 (Nat.le_refl _) hy5).1
    refine lv_iload_n hx hb dX4_isSame_118 rfl (lv_at hl 0 rfl) ?_
    refine lv_iload_n hx hb dX4_isSame_119 rfl (lv_at hl 1 rfl) ?_
    refine lv_icmp_ge (tgt := 396) hx hb dX4_isSame_120 (by decide) (fun h => absurd h (nI_ge (by omega) (by omega))) (fun hz => ?_)
    refine lv_aload_n hx hb dX4_isSame_123 rfl (lv_at hl 3 rfl) ?_
    refine lv_iload_n hx hb dX4_isSame_124 rfl (lv_at hl 0 rfl) ?_
    refine ccall_i hc hw (crunV (n := 1) (As := [.int (nI y)]) (rest := []) hc hw (k_exitsOf hst _ a z r u _ (ans := nI (xn y)) hH (by rw [l_exitsOf hL (by omega), er0])) gX4_isSame_X3_exitsOf rfl (by decide +kernel) ⟨Nat.le_of_ble_eq_true rfl, Nat.le_of_ble_eq_true rfl⟩ 0 rfl rfl rfl rfl hl.1 (Nat.le_of_ble_eq_true rfl) dX4_isSame_125 (by first | exact ⟨Nat.le_of_ble_eq_true rfl, Nat.le_of_ble_eq_true rfl⟩ | (refine ⟨?_, ?_⟩ <;> ((try dsimp only); omega)))) (fun x0 u H locs hp hw => ?_)
    have hx0 : x0 = _ := hp
    subst hx0
    refine lv_aload_n hx hb dX4_isSame_128 rfl (lv_at hl 2 rfl) ?_
    refine pget (C := RX4) (T := TX4) (N := 14) (ci := 4) hc hw inX4_isSame_X4 hO rfl 1 (by decide) lkX4_isSame_f15 rfl rfl dX4_isSame_129 ?_
    refine lv_iload_n hx hb dX4_isSame_132 rfl (lv_at hl 0 rfl) ?_
    refine pald hc hw hE1 y rfl hy (by omega) (v := .ref ea) (by rw [he1]; rfl) dX4_isSame_133 ?_
    refine plenI hc hw he2 dX4_isSame_134 ?_
    refine lv_icmp_ne (tgt := 165) hx hb dX4_isSame_135 (by decide) (fun h => absurd rfl h) (fun hz1 => ?_)
    refine lv_aload_n hx hb dX4_isSame_138 rfl (lv_at hl 3 rfl) ?_
    refine lv_iload_n hx hb dX4_isSame_139 rfl (lv_at hl 0 rfl) ?_
    refine ccall_i hc hw (crunV (n := 1) (As := [.int (nI y)]) (rest := []) hc hw (k_hasShepherd hst _ a z r u _ hH (l_hasShepherd hL (by omega))) gX4_isSame_X3_hasShepherd rfl (by decide +kernel) ⟨Nat.le_of_ble_eq_true rfl, Nat.le_of_ble_eq_true rfl⟩ 0 rfl rfl rfl rfl hl.1 (Nat.le_of_ble_eq_true rfl) dX4_isSame_140 (by first | exact ⟨Nat.le_of_ble_eq_true rfl, Nat.le_of_ble_eq_true rfl⟩ | (refine ⟨?_, ?_⟩ <;> ((try dsimp only); omega)))) (fun x0 u H locs hp hw => ?_)
    have hx0 : x0 = _ := hp
    subst hx0
    refine lv_aload_n hx hb dX4_isSame_143 rfl (lv_at hl 2 rfl) ?_
    refine pget (C := RX4) (T := TX4) (N := 14) (ci := 4) hc hw inX4_isSame_X4 hO rfl 2 (by decide) lkX4_isSame_f18 rfl rfl dX4_isSame_144 ?_
    refine lv_iload_n hx hb dX4_isSame_147 rfl (lv_at hl 0 rfl) ?_
    refine pzld hc hw hZ1 y rfl (by omega) (by omega) (v := (r 1 y)) rfl dX4_isSame_148 ?_
    refine lv_icmp_ne (tgt := 165) hx hb dX4_isSame_149 (by decide) (fun h => absurd rfl h) (fun hz2 => ?_)
    refine lv_aload_n hx hb dX4_isSame_152 rfl (lv_at hl 3 rfl) ?_
    refine lv_iload_n hx hb dX4_isSame_153 rfl (lv_at hl 0 rfl) ?_
    refine ccall_i hc hw (crunV (n := 1) (As := [.int (nI y)]) (rest := []) hc hw (k_knowsWay hst _ a z r u _ hH hkw) gX4_isSame_X3_knowsWay rfl (by decide +kernel) ⟨Nat.le_of_ble_eq_true rfl, Nat.le_of_ble_eq_true rfl⟩ 0 rfl rfl rfl rfl hl.1 (Nat.le_of_ble_eq_true rfl) dX4_isSame_154 (by first | exact ⟨Nat.le_of_ble_eq_true rfl, Nat.le_of_ble_eq_true rfl⟩ | (refine ⟨?_, ?_⟩ <;> ((try dsimp only); omega)))) (fun x0 u H locs hp hw => ?_)
    have hx0 : x0 = _ := hp
    subst hx0
    refine lv_aload_n hx hb dX4_isSame_157 rfl (lv_at hl 2 rfl) ?_
    refine lv_iload_n hx hb dX4_isSame_158 rfl (lv_at hl 0 rfl) ?_
    refine pcall_i hc hw (prunV (n := 1) (As := [.int (nI y)]) (rest := [.int (sKn rw xr mp mm y 10 y4)]) hc hw (metS_knows l G _ _ _ aS v n xn xr nr rw _ ak wl wy mp mm y4 y hS hX hy4 hy5 hy (fun q hq => (cB_V hB).1 y q (by omega) hq)) gX4_isSame_X4_knows rfl (by decide +kernel) ⟨Nat.le_of_ble_eq_true rfl, Nat.le_of_ble_eq_true rfl⟩ hO rfl rfl rfl hl.1 (Nat.le_of_ble_eq_true rfl) dX4_isSame_159 (by first | exact ⟨Nat.le_of_ble_eq_true rfl, Nat.le_of_ble_eq_true rfl⟩ | (refine ⟨?_, ?_⟩ <;> ((try dsimp only); omega)))) (fun t9 L9 f9 H locs hp hw => ?_)
    obtain ⟨het, -, eu⟩ := hp
    obtain ⟨eL, ef⟩ := Prod.mk.inj eu
    rw [eL, ef] at hw
    subst het
    refine lv_icmp_eq (tgt := 167) hx hb dX4_isSame_162 (by decide) (fun hz3 => ?_) (fun h => absurd rfl h)
    refine lv_iconst (v := 0) hx hb dX4_isSame_167 (by decide) ?_
    refine lv_istore (lv' := [(4, .int 0), (3, .int (nI y)), (2, .int (nI n)), (0, .ref aS), (1, .ref (a 0))]) hx hb dX4_isSame_168 hl (by decide) rfl (fun ls hl => ?_)
    refine W.widen (k := 90 * y + 3 + 4 * 0) (n := 600 * y + 18 + 24 * 0) (by (try dsimp only); omega) (by (try dsimp only); omega) ?_
    refine lpI_exits hst hc hA0 (C := 90 * y + 3) (S := 600 * y + 18) hy (by omega) (fun u L f H locs ls hS hl hw => ?_) (xn y) 0 (by omega) u L f H locs ls hS (lv_sub hl [0, 1, 2, 3, 4] rfl) hw
    refine lv_iconst (v := 0) hx hb dX4_isSame_283 (by decide) ?_
    refine lv_istore (lv' := [(4, .int 0), (3, .int (nI y)), (2, .int (nI n)), (0, .ref aS), (1, .ref (a 0))]) hx hb dX4_isSame_284 hl (by decide) rfl (fun ls hl => ?_)
    refine lpI_others hst hc hA0 (C := 90 * y + 19) (S := 600 * y + 114) hy (by omega) (fun u L f H locs ls hS hl hw => ?_) n 0 (by omega) u L f H locs ls hS (lv_sub hl [0, 1, 2, 3, 4] rfl) hw
    refine lv_iinc (v := nI (y + 1)) (lv' := [(3, .int (nI (y + 1))), (2, .int (nI n)), (0, .ref aS), (1, .ref (a 0))]) hx hb dX4_isSame_390 hl (k := 0) rfl (nI_1 _) (by decide) rfl (fun ls hl => ?_)
    refine lv_goto (tgt := 118) hx hb dX4_isSame_393 (by decide) ?_
    refine W.widen (k := 90 * (y + 1)) (n := 600 * (y + 1)) (by (try dsimp only); omega) (by (try dsimp only); omega) ?_
    exact ih (y + 1) (by omega) u L f H locs ls hS (lv_sub hl [0, 1, 2, 3] rfl) hw
set_option maxHeartbeats 40000000 in
set_option maxRecDepth 100000 in
theorem metS_isSame (l : Launch) (G : xG) (hst : l.stackTraces = false) (sz : Nat) (a : Nat → Nat) (aS : Nat) (u : cU) (L : List Nat) (f : Nat → va_E) {N : Nat} {B : Int} {z : Nat → Int32} {r : Nat → Nat → Int32} {rs : Int32} {q : Nat → Nat → Int32} {n : Nat} {xn : Nat → Nat} {xr : Nat → Nat → Int32} {nr : Nat} {v : Nat → Int32} {rw : Nat → Nat → Int32} {ak : Nat → Int32} {wl : Nat} {wy : Nat → Nat → Int32} {mp : Nat → Nat → Bool} {mm : Nat → Nat → Nat → Int32} (hA0 : cA N B z r rs q n xn xr nr v rw ak wl wy mp mm) (hS : Sh G L f aS v n xn xr nr rw (r 1) ak wl wy mp mm) : MetD lw_cs l yX4_isSame wsX4_isSame ⟨8, 1000, 7000, 130⟩ (va_Pc [.ref aS, .ref (a 0)] (xPc G (cW G a z r u ++ va_pl L f) sz)) (xQi G (cW G a z r u ++ va_pl L f) sz (fun (x0 : Int32) (_ : lS) => x0 = 1) (lWN G a)) 1000 7000 (va_A (cW G a z r u ++ va_pl L f) sz) := by
  refine xofD (rm := ⟨8, 1000, 7000, 130⟩) (own := RX4) (cc := cX4_isSame) (maxL := 7) (ret := some .boolean) rfl (by decide) rfl (Nat.le_of_ble_eq_true rfl) ?_
  intro pg en s mi below meth cd d0 hd0 hc hw ls hl
  obtain ⟨hx, hb, -, hown, hts, -⟩ := id hc
  have hH := cA_H hA0
  obtain ⟨hn1, hn2, hn3, hn4, hn5⟩ := cA_n hA0
  have hB : cB N B z r n xn xr nr v rw ak wl wy mp mm := ⟨rs, q, hA0⟩
  have hL := cA_L hA0
  have hX := cB_sX hB
  have hv := cB_v hB
  have hl : lv_has ls 7 [(0, .ref aS), (1, .ref (a 0))] := hl
  have hw : xW G _ (s.setDrawn d0).heap (cW G a z r u ++ va_pl L f) _ _ := hw
  obtain ⟨ad, oo, om, hO, hA⟩ := id hS
  obtain ⟨⟨hR1, hR2, hR3⟩, ⟨hE1, hE2⟩, ⟨hZ1, hZ2, hZ3⟩, ⟨hW1, hW2⟩, ⟨hM1, hM2, hM3⟩, hNe⟩ := id hA
  have hO : objS L f aS 4 [.ref (ad 0), .ref (ad 1), .ref (ad 2), .ref (ad 3), .int (v 4), .int (v 5), .int (v 6), .ref (ad 4), .ref (ad 5), .int (v 9), .int (v 10), .int (v 11), .int (v 12), .int (v 13)] := hO
  have hz0 : ¬ z 0 = 0 := fun h => by
    rw [h, show (0 : Int32).toInt = 0 from rfl] at hn1
    omega
  refine lv_aload_n hx hb dX4_isSame_0 rfl (lv_at hl 0 rfl) ?_
  refine pget (C := RX4) (T := TX4) (N := 14) (ci := 4) hc hw inX4_isSame_X4 hO rfl 1 (by decide) lkX4_isSame_f15 rfl rfl dX4_isSame_1 ?_
  refine plenA hc hw hE1 dX4_isSame_4 ?_
  refine lv_istore_n (lv' := [(2, .int (nI n)), (0, .ref aS), (1, .ref (a 0))]) hx hb dX4_isSame_5 rfl hl (by decide) rfl (fun ls hl => ?_)
  refine lv_aload_n hx hb dX4_isSame_6 rfl (lv_at hl 2 rfl) ?_
  refine ccall_i hc hw (crunV (n := 0) (As := []) (rest := []) hc hw (k_places _ a z r u (ans := nI n) (show FX3_places (z 0) = nI n from hn2)) gX4_isSame_X3_places rfl (by decide +kernel) ⟨Nat.le_of_ble_eq_true rfl, Nat.le_of_ble_eq_true rfl⟩ 0 rfl rfl rfl rfl hl.1 (Nat.le_of_ble_eq_true rfl) dX4_isSame_7 (by first | exact ⟨Nat.le_of_ble_eq_true rfl, Nat.le_of_ble_eq_true rfl⟩ | (refine ⟨?_, ?_⟩ <;> ((try dsimp only); omega)))) (fun x0 u H locs hp hw => ?_)
  have hx0 : x0 = _ := hp
  subst hx0
  refine lv_iload_n hx hb dX4_isSame_10 rfl (lv_at hl 0 rfl) ?_
  refine lv_icmp_ne (tgt := 114) hx hb dX4_isSame_11 (by decide) (fun h => absurd rfl h) (fun hz => ?_)
  refine lv_aload_n hx hb dX4_isSame_14 rfl (lv_at hl 2 rfl) ?_
  refine ccall_i hc hw (crunV (n := 0) (As := []) (rest := []) hc hw (k_whereIs _ a z r u (ans := v 4) (show FX3_whereIs (z 1) (z 0) = v 4 by rw [hv.1.1]; unfold FX3_whereIs; rw [if_neg hz0])) gX4_isSame_X3_whereIs rfl (by decide +kernel) ⟨Nat.le_of_ble_eq_true rfl, Nat.le_of_ble_eq_true rfl⟩ 0 rfl rfl rfl rfl hl.1 (Nat.le_of_ble_eq_true rfl) dX4_isSame_15 (by first | exact ⟨Nat.le_of_ble_eq_true rfl, Nat.le_of_ble_eq_true rfl⟩ | (refine ⟨?_, ?_⟩ <;> ((try dsimp only); omega)))) (fun x0 u H locs hp hw => ?_)
  have hx0 : x0 = _ := hp
  subst hx0
  refine lv_aload_n hx hb dX4_isSame_18 rfl (lv_at hl 1 rfl) ?_
  refine pget (C := RX4) (T := TX4) (N := 14) (ci := 4) hc hw inX4_isSame_X4 hO rfl 4 (by decide) lkX4_isSame_f25 rfl rfl dX4_isSame_19 ?_
  refine lv_icmp_ne (tgt := 114) hx hb dX4_isSame_22 (by decide) (fun h => absurd rfl h) (fun hz => ?_)
  refine lv_aload_n hx hb dX4_isSame_25 rfl (lv_at hl 2 rfl) ?_
  refine ccall_i hc hw (crunV (n := 0) (As := []) (rest := []) hc hw (k_coins _ a z r u (ans := v 5) (hv.1.2.1.symm)) gX4_isSame_X3_coins rfl (by decide +kernel) ⟨Nat.le_of_ble_eq_true rfl, Nat.le_of_ble_eq_true rfl⟩ 0 rfl rfl rfl rfl hl.1 (Nat.le_of_ble_eq_true rfl) dX4_isSame_26 (by first | exact ⟨Nat.le_of_ble_eq_true rfl, Nat.le_of_ble_eq_true rfl⟩ | (refine ⟨?_, ?_⟩ <;> ((try dsimp only); omega)))) (fun x0 u H locs hp hw => ?_)
  have hx0 : x0 = _ := hp
  subst hx0
  refine lv_aload_n hx hb dX4_isSame_29 rfl (lv_at hl 1 rfl) ?_
  refine pget (C := RX4) (T := TX4) (N := 14) (ci := 4) hc hw inX4_isSame_X4 hO rfl 5 (by decide) lkX4_isSame_f50 rfl rfl dX4_isSame_30 ?_
  refine lv_icmp_ne (tgt := 114) hx hb dX4_isSame_33 (by decide) (fun h => absurd rfl h) (fun hz => ?_)
  refine lv_aload_n hx hb dX4_isSame_36 rfl (lv_at hl 2 rfl) ?_
  refine ccall_i hc hw (crunV (n := 0) (As := []) (rest := []) hc hw (k_goal _ a z r u (ans := v 6) (hv.1.2.2.1.symm)) gX4_isSame_X3_goal rfl (by decide +kernel) ⟨Nat.le_of_ble_eq_true rfl, Nat.le_of_ble_eq_true rfl⟩ 0 rfl rfl rfl rfl hl.1 (Nat.le_of_ble_eq_true rfl) dX4_isSame_37 (by first | exact ⟨Nat.le_of_ble_eq_true rfl, Nat.le_of_ble_eq_true rfl⟩ | (refine ⟨?_, ?_⟩ <;> ((try dsimp only); omega)))) (fun x0 u H locs hp hw => ?_)
  have hx0 : x0 = _ := hp
  subst hx0
  refine lv_aload_n hx hb dX4_isSame_40 rfl (lv_at hl 1 rfl) ?_
  refine pget (C := RX4) (T := TX4) (N := 14) (ci := 4) hc hw inX4_isSame_X4 hO rfl 6 (by decide) lkX4_isSame_f29 rfl rfl dX4_isSame_41 ?_
  refine lv_icmp_ne (tgt := 114) hx hb dX4_isSame_44 (by decide) (fun h => absurd rfl h) (fun hz => ?_)
  refine lv_aload_n hx hb dX4_isSame_47 rfl (lv_at hl 2 rfl) ?_
  refine ccall_i hc hw (crunV (n := 0) (As := []) (rest := []) hc hw (k_wayLength _ a z r u (ans := nI wl) (hv.2)) gX4_isSame_X3_wayLength rfl (by decide +kernel) ⟨Nat.le_of_ble_eq_true rfl, Nat.le_of_ble_eq_true rfl⟩ 0 rfl rfl rfl rfl hl.1 (Nat.le_of_ble_eq_true rfl) dX4_isSame_48 (by first | exact ⟨Nat.le_of_ble_eq_true rfl, Nat.le_of_ble_eq_true rfl⟩ | (refine ⟨?_, ?_⟩ <;> ((try dsimp only); omega)))) (fun x0 u H locs hp hw => ?_)
  have hx0 : x0 = _ := hp
  subst hx0
  refine lv_aload_n hx hb dX4_isSame_51 rfl (lv_at hl 1 rfl) ?_
  refine pget (C := RX4) (T := TX4) (N := 14) (ci := 4) hc hw inX4_isSame_X4 hO rfl 7 (by decide) lkX4_isSame_f32 rfl rfl dX4_isSame_52 ?_
  refine plenA hc hw hW1 dX4_isSame_55 ?_
  refine lv_icmp_ne (tgt := 114) hx hb dX4_isSame_56 (by decide) (fun h => absurd rfl h) (fun hz => ?_)
  refine lv_aload_n hx hb dX4_isSame_59 rfl (lv_at hl 2 rfl) ?_
  refine ccall_i hc hw (crunV (n := 0) (As := []) (rest := []) hc hw (k_milesWalked _ a z r u (ans := v 9) (hv.1.2.2.2.1.symm)) gX4_isSame_X3_milesWalked rfl (by decide +kernel) ⟨Nat.le_of_ble_eq_true rfl, Nat.le_of_ble_eq_true rfl⟩ 0 rfl rfl rfl rfl hl.1 (Nat.le_of_ble_eq_true rfl) dX4_isSame_60 (by first | exact ⟨Nat.le_of_ble_eq_true rfl, Nat.le_of_ble_eq_true rfl⟩ | (refine ⟨?_, ?_⟩ <;> ((try dsimp only); omega)))) (fun x0 u H locs hp hw => ?_)
  have hx0 : x0 = _ := hp
  subst hx0
  refine lv_aload_n hx hb dX4_isSame_63 rfl (lv_at hl 1 rfl) ?_
  refine pget (C := RX4) (T := TX4) (N := 14) (ci := 4) hc hw inX4_isSame_X4 hO rfl 9 (by decide) lkX4_isSame_f53 rfl rfl dX4_isSame_64 ?_
  refine lv_icmp_ne (tgt := 114) hx hb dX4_isSame_67 (by decide) (fun h => absurd rfl h) (fun hz => ?_)
  refine lv_aload_n hx hb dX4_isSame_70 rfl (lv_at hl 2 rfl) ?_
  refine ccall_i hc hw (crunV (n := 0) (As := []) (rest := []) hc hw (k_milesDoubled _ a z r u (ans := v 10) (hv.1.2.2.2.2.1.symm)) gX4_isSame_X3_milesDoubled rfl (by decide +kernel) ⟨Nat.le_of_ble_eq_true rfl, Nat.le_of_ble_eq_true rfl⟩ 0 rfl rfl rfl rfl hl.1 (Nat.le_of_ble_eq_true rfl) dX4_isSame_71 (by first | exact ⟨Nat.le_of_ble_eq_true rfl, Nat.le_of_ble_eq_true rfl⟩ | (refine ⟨?_, ?_⟩ <;> ((try dsimp only); omega)))) (fun x0 u H locs hp hw => ?_)
  have hx0 : x0 = _ := hp
  subst hx0
  refine lv_aload_n hx hb dX4_isSame_74 rfl (lv_at hl 1 rfl) ?_
  refine pget (C := RX4) (T := TX4) (N := 14) (ci := 4) hc hw inX4_isSame_X4 hO rfl 10 (by decide) lkX4_isSame_f56 rfl rfl dX4_isSame_75 ?_
  refine lv_icmp_ne (tgt := 114) hx hb dX4_isSame_78 (by decide) (fun h => absurd rfl h) (fun hz => ?_)
  refine lv_aload_n hx hb dX4_isSame_81 rfl (lv_at hl 2 rfl) ?_
  refine ccall_i hc hw (crunV (n := 0) (As := []) (rest := []) hc hw (k_errandsDone _ a z r u (ans := v 11) (hv.1.2.2.2.2.2.1.symm)) gX4_isSame_X3_errandsDone rfl (by decide +kernel) ⟨Nat.le_of_ble_eq_true rfl, Nat.le_of_ble_eq_true rfl⟩ 0 rfl rfl rfl rfl hl.1 (Nat.le_of_ble_eq_true rfl) dX4_isSame_82 (by first | exact ⟨Nat.le_of_ble_eq_true rfl, Nat.le_of_ble_eq_true rfl⟩ | (refine ⟨?_, ?_⟩ <;> ((try dsimp only); omega)))) (fun x0 u H locs hp hw => ?_)
  have hx0 : x0 = _ := hp
  subst hx0
  refine lv_aload_n hx hb dX4_isSame_85 rfl (lv_at hl 1 rfl) ?_
  refine pget (C := RX4) (T := TX4) (N := 14) (ci := 4) hc hw inX4_isSame_X4 hO rfl 11 (by decide) lkX4_isSame_f59 rfl rfl dX4_isSame_86 ?_
  refine lv_icmp_ne (tgt := 114) hx hb dX4_isSame_89 (by decide) (fun h => absurd rfl h) (fun hz => ?_)
  refine lv_aload_n hx hb dX4_isSame_92 rfl (lv_at hl 2 rfl) ?_
  refine ccall_i hc hw (crunV (n := 0) (As := []) (rest := []) hc hw (k_errandsInVain _ a z r u (ans := v 12) (hv.1.2.2.2.2.2.2.1.symm)) gX4_isSame_X3_errandsInVain rfl (by decide +kernel) ⟨Nat.le_of_ble_eq_true rfl, Nat.le_of_ble_eq_true rfl⟩ 0 rfl rfl rfl rfl hl.1 (Nat.le_of_ble_eq_true rfl) dX4_isSame_93 (by first | exact ⟨Nat.le_of_ble_eq_true rfl, Nat.le_of_ble_eq_true rfl⟩ | (refine ⟨?_, ?_⟩ <;> ((try dsimp only); omega)))) (fun x0 u H locs hp hw => ?_)
  have hx0 : x0 = _ := hp
  subst hx0
  refine lv_aload_n hx hb dX4_isSame_96 rfl (lv_at hl 1 rfl) ?_
  refine pget (C := RX4) (T := TX4) (N := 14) (ci := 4) hc hw inX4_isSame_X4 hO rfl 12 (by decide) lkX4_isSame_f62 rfl rfl dX4_isSame_97 ?_
  refine lv_icmp_ne (tgt := 114) hx hb dX4_isSame_100 (by decide) (fun h => absurd rfl h) (fun hz => ?_)
  refine lv_aload_n hx hb dX4_isSame_103 rfl (lv_at hl 2 rfl) ?_
  refine ccall_i hc hw (crunV (n := 0) (As := []) (rest := []) hc hw (k_asked _ a z r u (ans := v 13) (hv.1.2.2.2.2.2.2.2.symm)) gX4_isSame_X3_asked rfl (by decide +kernel) ⟨Nat.le_of_ble_eq_true rfl, Nat.le_of_ble_eq_true rfl⟩ 0 rfl rfl rfl rfl hl.1 (Nat.le_of_ble_eq_true rfl) dX4_isSame_104 (by first | exact ⟨Nat.le_of_ble_eq_true rfl, Nat.le_of_ble_eq_true rfl⟩ | (refine ⟨?_, ?_⟩ <;> ((try dsimp only); omega)))) (fun x0 u H locs hp hw => ?_)
  have hx0 : x0 = _ := hp
  subst hx0
  refine lv_aload_n hx hb dX4_isSame_107 rfl (lv_at hl 1 rfl) ?_
  refine pget (C := RX4) (T := TX4) (N := 14) (ci := 4) hc hw inX4_isSame_X4 hO rfl 13 (by decide) lkX4_isSame_f65 rfl rfl dX4_isSame_108 ?_
  refine lv_icmp_eq (tgt := 116) hx hb dX4_isSame_111 (by decide) (fun hz => ?_) (fun h => absurd rfl h)
  refine lv_iconst (v := 0) hx hb dX4_isSame_116 (by decide) ?_
  refine lv_istore_n (lv' := [(3, .int 0), (2, .int (nI n)), (0, .ref aS), (1, .ref (a 0))]) hx hb dX4_isSame_117 rfl hl (by decide) rfl (fun ls hl => ?_)
  refine W.widen (k := 90 * 0) (n := 600 * 0) (Nat.le_of_ble_eq_true rfl) (Nat.le_of_ble_eq_true rfl) ?_
  refine lpI_places hst hc hA0 (fun u L f H locs ls hS hl hw => ?_) n 0 (by omega) u L f _ _ ls hS (lv_sub hl [0, 1, 2, 3] rfl) hw
  clear hO hA
  obtain ⟨ad, oo, om, hO, hA⟩ := id hS
  obtain - := id hA
  have hO : objS L f aS 4 [.ref (ad 0), .ref (ad 1), .ref (ad 2), .ref (ad 3), .int (v 4), .int (v 5), .int (v 6), .ref (ad 4), .ref (ad 5), .int (v 9), .int (v 10), .int (v 11), .int (v 12), .int (v 13)] := hO
  refine lv_aload_n hx hb dX4_isSame_396 rfl (lv_at hl 2 rfl) ?_
  have hc0 := xCu hc
  refine ccall_dD hd0 hc0 (xWd (d := d0) hw) (crunVD (rm := ⟨0, 0, 0, 0⟩) (n := 0) (As := []) (rest := []) hc hw (k_meanMiles _ a z r u) gX4_isSame_X3_meanMiles rfl (by decide +kernel) ⟨Nat.le_of_ble_eq_true rfl, Nat.le_of_ble_eq_true rfl⟩ 0 rfl rfl rfl rfl hl.1 (Nat.le_of_ble_eq_true rfl) dX4_isSame_397 (by first | exact ⟨Nat.le_of_ble_eq_true rfl, Nat.le_of_ble_eq_true rfl⟩ | (refine ⟨?_, ?_⟩ <;> ((try dsimp only); omega)))) (fun r1 _ H locs d1 hd1 hr1 hw => ?_)
  have hc := xCd hc0 d1
  have hw : xW G _ (s.setDrawn d1).heap (cW G a z r u ++ va_pl L f) _ _ := hw
  rw [← hv.1.2.2.2.1, ← hv.1.2.2.2.2.2.1, ← hv.1.2.2.2.2.2.2.1] at hr1
  refine lv_aload_n hx hb dX4_isSame_400 rfl (lv_at hl 1 rfl) ?_
  refine pget (C := RX4) (T := TX4) (N := 14) (ci := 4) hc hw inX4_isSame_X4 hO rfl 11 (by decide) lkX4_isSame_f59 rfl rfl dX4_isSame_401 ?_
  refine lv_aload_n hx hb dX4_isSame_404 rfl (lv_at hl 1 rfl) ?_
  refine pget (C := RX4) (T := TX4) (N := 14) (ci := 4) hc hw inX4_isSame_X4 hO rfl 12 (by decide) lkX4_isSame_f62 rfl rfl dX4_isSame_405 ?_
  refine lv_iadd hx hb dX4_isSame_408 ?_
  refine lv_if_ne (tgt := 416) hx hb dX4_isSame_409 (by decide) (fun hz8 => ?_) (fun hz8 => ?_)
  · refine lv_aload_n hx hb dX4_isSame_416 rfl (lv_at hl 1 rfl) ?_
    refine pget (C := RX4) (T := TX4) (N := 14) (ci := 4) hc hw inX4_isSame_X4 hO rfl 9 (by decide) lkX4_isSame_f53 rfl rfl dX4_isSame_417 ?_
    refine lv_i2d hx hb dX4_isSame_420 ?_
    refine lv_aload_n hx hb dX4_isSame_421 rfl (lv_at hl 1 rfl) ?_
    refine pget (C := RX4) (T := TX4) (N := 14) (ci := 4) hc hw inX4_isSame_X4 hO rfl 11 (by decide) lkX4_isSame_f59 rfl rfl dX4_isSame_422 ?_
    refine lv_aload_n hx hb dX4_isSame_425 rfl (lv_at hl 1 rfl) ?_
    refine pget (C := RX4) (T := TX4) (N := 14) (ci := 4) hc hw inX4_isSame_X4 hO rfl 12 (by decide) lkX4_isSame_f62 rfl rfl dX4_isSame_426 ?_
    refine lv_iadd hx hb dX4_isSame_429 ?_
    refine lv_i2d hx hb dX4_isSame_430 ?_
    refine lv_ddiv_any hd1 lw_bits hx hb dX4_isSame_431 (fun r2 d2 hal hd2 => ?_)
    have hc := xCd hc0 d2
    have hw : xW G _ (s.setDrawn d2).heap (cW G a z r u ++ va_pl L f) _ _ := hw
    have hr1 : alike64 r1 (FP.ddiv (FP.i2d (v 9)) (FP.i2d (v 11 + v 12))) = true := by
      rcases hr1 with ⟨h, -⟩ | ⟨-, h⟩
      · exact absurd h hz8
      · exact h
    have hcmp := zmm_eq hz8 hr1 hal
    refine lv_dcmp hx hb dX4_isSame_432 ?_
    refine lv_if_ne (tgt := 440) hx hb dX4_isSame_433 (by decide) (fun h => absurd hcmp h) (fun hz9 => ?_)
    refine lv_iconst (v := 1) hx hb dX4_isSame_436 (by decide) ?_
    refine lv_goto (tgt := 441) hx hb dX4_isSame_437 (by decide) ?_
    refine W.endD hd2 ?_
    exact xret_z (wn := lWN G a) ((z, r, u), (L, f)) hc hw rfl rfl ⟨Nat.le_of_ble_eq_true rfl, Nat.le_of_ble_eq_true rfl⟩ dX4_isSame_441
  · have hr1 : r1 = FP.dconst0 := by
      rcases hr1 with ⟨-, h⟩ | ⟨h, -⟩
      · exact h
      · exact absurd hz8 h
    have hcmp : Op.cmpValue (FP.dcmp r1 FP.dconst0) CmpOp.l = 0 := by rw [hr1]; decide +kernel
    refine lv_dconst0 hx hb dX4_isSame_412 ?_
    refine lv_goto (tgt := 432) hx hb dX4_isSame_413 (by decide) ?_
    refine lv_dcmp hx hb dX4_isSame_432 ?_
    refine lv_if_ne (tgt := 440) hx hb dX4_isSame_433 (by decide) (fun h => absurd hcmp h) (fun hz9 => ?_)
    refine lv_iconst (v := 1) hx hb dX4_isSame_436 (by decide) ?_
    refine lv_goto (tgt := 441) hx hb dX4_isSame_437 (by decide) ?_
    refine W.endD hd1 ?_
    exact xret_z (wn := lWN G a) ((z, r, u), (L, f)) hc hw rfl rfl ⟨Nat.le_of_ble_eq_true rfl, Nat.le_of_ble_eq_true rfl⟩ dX4_isSame_441
