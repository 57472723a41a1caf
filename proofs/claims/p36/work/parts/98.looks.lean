
/-! the law's looks, on the machine -/
theorem lrem2 (b y : Int32) (ha : 0 ≤ b.toInt) (hy : 0 < y.toInt) : (b - b / y * y).toInt = b.toInt % y.toInt := by
  have hb := Int32.toInt_lt b
  have hyl := Int32.toInt_lt y
  have hd : (b / y).toInt = b.toInt / y.toInt := by
    rw [Int32.toInt_div, Int.tdiv_eq_ediv_of_nonneg ha]
    have h1 := Int.ediv_nonneg ha (Int.le_of_lt hy)
    have h2 := Int.ediv_le_self y.toInt ha
    exact Int.bmod_eq_of_le (by omega) (by omega)
  have hm : (b / y * y).toInt = b.toInt / y.toInt * y.toInt := by
    rw [Int32.toInt_mul, hd]
    have h1 := Int.ediv_nonneg ha (Int.le_of_lt hy)
    have h2 := Int.ediv_mul_le b.toInt (Int.ne_of_gt hy)
    have h3 := Int.mul_nonneg h1 (Int.le_of_lt hy)
    exact Int.bmod_eq_of_le (by omega) (by omega)
  have he : b.toInt - b.toInt / y.toInt * y.toInt = b.toInt % y.toInt := by
    have := Int.emod_add_mul_ediv b.toInt y.toInt
    rw [Int.mul_comm] at this
    omega
  have h4 := Int.emod_nonneg b.toInt (Int.ne_of_gt hy)
  have h5 := Int.emod_lt_of_pos b.toInt hy
  rw [Int32.toInt_sub, hm, he]
  exact Int.bmod_eq_of_le (by omega) (by omega)
theorem lmod {x n : Nat} (hx : x < 100000) (hn : 1 ≤ n ∧ n ≤ 10) : (nI x : Int32) - nI x / nI n * nI n = nI (x % n) := by
  have h1 : (nI x : Int32).toInt = x := nI_toInt (by omega)
  have h2 : (nI n : Int32).toInt = n := nI_toInt (by omega)
  have h3 := Nat.mod_lt x (show 0 < n by omega)
  rw [xeqI, lrem2 _ _ (by omega) (by omega), h1, h2, nI_toInt (by omega)]
  rfl
theorem lor0 {x : Int32} (h : x = 0 ∨ x = 1) : x ||| 0 = x := by rcases h with rfl | rfl <;> rfl
theorem lor1 {x : Int32} (h : x = 0 ∨ x = 1) : x ||| 1 = 1 := by rcases h with rfl | rfl <;> rfl
set_option maxHeartbeats 40000000 in
set_option maxRecDepth 100000 in
theorem lpw_has {p : Program} {l : Launch} {e : Env} {s : State} {m : MethodId} {args : Array Value} {below : List Frame} {meth : Method} {c : Code} {Q : State → Prop} {G : xG} {A : Nat → Prop} (hst : l.stackTraces = false) {a : Nat → Nat} {aS bs : Nat} {fr x4 : Int32} {D : Int64} {tm : Nat} {ret : Option FieldType} {N : Nat} {B : Int} {z : Nat → Int32} {r : Nat → Nat → Int32} {rs : Int32} {q : Nat → Nat → Int32} {n : Nat} {xn : Nat → Nat} {xr : Nat → Nat → Int32} {nr : Nat} {v : Nat → Int32} {rw : Nat → Nat → Int32} {ak : Nat → Int32} {wl : Nat} {wy : Nat → Nat → Int32} {mp : Nat → Nat → Bool} {mm : Nat → Nat → Nat → Int32} (hc : xC p s m args meth c cL_law 20 RL wsL_law ret G A) (hA0 : cA N B z r rs q n xn xr nr v rw ak wl wy mp mm) {L : List Nat} {f : Nat → va_E} {C S : Nat} (hCS : C ≤ 510000 ∧ S ≤ 5100000) {y x t yy : Nat} (hy : y < n) (hxy : x < xn y) (ht : t < n) (hyy : yy < xn t) (e2 : r 2 (4 * t + yy) = nI y) (e4 : r 4 (4 * t + yy) = r 4 (4 * y + x)) (e5 : (if r 5 (4 * t + yy) = 0 then (0 : Int32) else 1) = (if r 5 (4 * y + x) = 0 then 0 else 1)) (e7 : (if z 3 = -1 then (0 : Int32) else if r 7 (4 * t + yy) = 0 then 0 else 1) = (if z 3 = -1 then 0 else if r 7 (4 * y + x) = 0 then 0 else 1))
    (kx : ∀ (u : cU) (H : Heap) (locs : List Loc) (ls : Array Slot), lv_has ls 20 [(12, .int 1), (11, .int (nI t)), (10, .int (nI x)), (9, .int (nI y)), (8, .int fr), (7, .int (nI n)), (5, .long D), (4, .int x4), (3, .int (nI tm)), (2, .ref aS), (1, .ref (a 0)), (0, .ref bs)] → xW G A s.heap (cW G a z r u ++ va_pl L f) H locs → W p l e ⟨12, 777134, 6770066, 438⟩ s m args below meth c H locs (C + 40) (S + 240) Q (F0 m 302 ls [])) :
    ∀ (d k : Nat), k + d = xn t → ∀ (hv : Int32) (u : cU) (H : Heap) (locs : List Loc) (ls : Array Slot), (hv = 0 ∨ hv = 1) → (yy < k → hv = 1) → lv_has ls 20 [(13, .int (nI k)), (12, .int hv), (11, .int (nI t)), (10, .int (nI x)), (9, .int (nI y)), (8, .int fr), (7, .int (nI n)), (5, .long D), (4, .int x4), (3, .int (nI tm)), (2, .ref aS), (1, .ref (a 0)), (0, .ref bs)] → xW G A s.heap (cW G a z r u ++ va_pl L f) H locs → W p l e ⟨12, 777134, 6770066, 438⟩ s m args below meth c H locs (C + 9 * k) (S + 54 * k) Q (F0 m 205 ls []) := by
  obtain ⟨hx, hb, -, hown, hts, -⟩ := id hc
  have hH := cA_H hA0
  obtain ⟨hn1, hn2, hn3, hn4, hn5⟩ := cA_n hA0
  have hL := cA_L hA0
  have hM := zI_M hA0.1
  obtain ⟨ex1, ex2, -⟩ := c_end hA0 hy hxy
  have ht4 := c_x4 hA0 ht
  intro d
  induction d with
  | zero =>
    intro k hd hv u H locs ls hv01 hv1 hl hw
    refine lv_iload hx hb dL_law_205 (lv_at hl 0 rfl) ?_
    refine lv_aload_n hx hb dL_law_207 rfl (lv_at hl 11 rfl) ?_
    refine lv_iload hx hb dL_law_208 (lv_at hl 2 rfl) ?_
    refine ccall_i hc hw (crunV (n := 1) (As := [.int (nI t)]) (rest := [.int (nI k)]) hc hw (k_exitsOf hst _ a z r u _ hH (ans := nI (xn t)) (by rw [l_exitsOf hL (by omega), c_ex hA0 ht])) gL_law_X3_exitsOf rfl (by decide +kernel) ⟨Nat.le_of_ble_eq_true rfl, Nat.le_of_ble_eq_true rfl⟩ 0 rfl rfl rfl rfl hl.1 (Nat.le_of_ble_eq_true rfl) dL_law_210 (by first | exact ⟨Nat.le_of_ble_eq_true rfl, Nat.le_of_ble_eq_true rfl⟩ | (refine ⟨?_, ?_⟩ <;> ((try dsimp only); omega)))) (fun x0 u H locs hp hw => ?_)
    have hx0 : x0 = _ := hp
    subst hx0
    refine lv_icmp_ge (tgt := 302) hx hb dL_law_213 (by decide) (fun hz => ?_) (fun h => absurd (nI_le (by omega) (by omega)) h)
    have e1 : hv = 1 := hv1 (by omega)
    rw [e1] at hl
    exact W.widen (k := C + 40) (n := S + 240) (by (try dsimp only); omega) (by (try dsimp only); omega) (kx u H locs ls (lv_sub hl [1, 2, 3, 4, 5, 6, 7, 8, 9, 10, 11, 12] rfl) hw)
  | succ d ih =>
    intro k hd hv u H locs ls hv01 hv1 hl hw
    obtain ⟨ek1, ek2, -⟩ := c_end hA0 ht (show k < xn t by omega)
    refine lv_iload hx hb dL_law_205 (lv_at hl 0 rfl) ?_
    refine lv_aload_n hx hb dL_law_207 rfl (lv_at hl 11 rfl) ?_
    refine lv_iload hx hb dL_law_208 (lv_at hl 2 rfl) ?_
    refine ccall_i hc hw (crunV (n := 1) (As := [.int (nI t)]) (rest := [.int (nI k)]) hc hw (k_exitsOf hst _ a z r u _ hH (ans := nI (xn t)) (by rw [l_exitsOf hL (by omega), c_ex hA0 ht])) gL_law_X3_exitsOf rfl (by decide +kernel) ⟨Nat.le_of_ble_eq_true rfl, Nat.le_of_ble_eq_true rfl⟩ 0 rfl rfl rfl rfl hl.1 (Nat.le_of_ble_eq_true rfl) dL_law_210 (by first | exact ⟨Nat.le_of_ble_eq_true rfl, Nat.le_of_ble_eq_true rfl⟩ | (refine ⟨?_, ?_⟩ <;> ((try dsimp only); omega)))) (fun x0 u H locs hp hw => ?_)
    have hx0 : x0 = _ := hp
    subst hx0
    refine lv_icmp_ge (tgt := 302) hx hb dL_law_213 (by decide) (fun h => absurd h (nI_ge (by omega) (by omega))) (fun hz => ?_)
    refine lv_iload hx hb dL_law_216 (lv_at hl 1 rfl) ?_
    refine lv_aload_n hx hb dL_law_218 rfl (lv_at hl 11 rfl) ?_
    refine lv_iload hx hb dL_law_219 (lv_at hl 2 rfl) ?_
    refine lv_iload hx hb dL_law_221 (lv_at hl 0 rfl) ?_
    refine ccall_i hc hw (crunV (n := 2) (As := [.int (nI t), .int (nI k)]) (rest := [.int hv]) hc hw (k_leadsTo hst _ a z r u _ _ hH (ans := r 2 (4 * t + k)) (l_leadsTo hL ek1 ek2)) gL_law_X3_leadsTo rfl (by decide +kernel) ⟨Nat.le_of_ble_eq_true rfl, Nat.le_of_ble_eq_true rfl⟩ 0 rfl rfl rfl rfl hl.1 (Nat.le_of_ble_eq_true rfl) dL_law_223 (by first | exact ⟨Nat.le_of_ble_eq_true rfl, Nat.le_of_ble_eq_true rfl⟩ | (refine ⟨?_, ?_⟩ <;> ((try dsimp only); omega)))) (fun x0 u H locs hp hw => ?_)
    have hx0 : x0 = _ := hp
    subst hx0
    refine lv_iload hx hb dL_law_226 (lv_at hl 4 rfl) ?_
    refine lv_icmp_ne (tgt := 292) hx hb dL_law_228 (by decide) (fun h1 => ?_) (fun h1 => ?_)
    · refine lv_iconst (v := 0) hx hb dL_law_292 (by decide) ?_
      refine lv_ior hx hb dL_law_293 ?_
      rw [lor0 hv01]
      refine lv_istore (lv' := [(12, .int hv), (13, .int (nI k)), (11, .int (nI t)), (10, .int (nI x)), (9, .int (nI y)), (8, .int fr), (7, .int (nI n)), (5, .long D), (4, .int x4), (3, .int (nI tm)), (2, .ref aS), (1, .ref (a 0)), (0, .ref bs)]) hx hb dL_law_294 hl (by decide) rfl (fun ls hl => ?_)
      refine lv_iinc (v := nI (k + 1)) (lv' := [(13, .int (nI (k + 1))), (12, .int hv), (11, .int (nI t)), (10, .int (nI x)), (9, .int (nI y)), (8, .int fr), (7, .int (nI n)), (5, .long D), (4, .int x4), (3, .int (nI tm)), (2, .ref aS), (1, .ref (a 0)), (0, .ref bs)]) hx hb dL_law_296 hl (k := 1) rfl (nI_1 _) (by decide) rfl (fun ls hl => ?_)
      refine lv_goto (tgt := 205) hx hb dL_law_299 (by decide) ?_
      refine W.widen (k := C + 9 * (k + 1)) (n := S + 54 * (k + 1)) (by (try dsimp only); omega) (by (try dsimp only); omega) ?_
      refine ih (k + 1) (by omega) hv u H locs ls hv01 (fun hk => ?_) (lv_sub hl [0, 1, 2, 3, 4, 5, 6, 7, 8, 9, 10, 11, 12] rfl) hw
      rcases Nat.lt_or_ge yy k with h | h
      · exact hv1 h
      · exfalso
        obtain rfl : yy = k := by omega
        exact h1 e2
    · refine lv_aload_n hx hb dL_law_231 rfl (lv_at hl 11 rfl) ?_
      refine lv_iload hx hb dL_law_232 (lv_at hl 2 rfl) ?_
      refine lv_iload hx hb dL_law_234 (lv_at hl 0 rfl) ?_
      refine ccall_i hc hw (crunV (n := 2) (As := [.int (nI t), .int (nI k)]) (rest := [.int hv]) hc hw (k_milesOf hst _ a z r u _ _ hH (ans := r 4 (4 * t + k)) (l_milesOf hL ek1 ek2)) gL_law_X3_milesOf rfl (by decide +kernel) ⟨Nat.le_of_ble_eq_true rfl, Nat.le_of_ble_eq_true rfl⟩ 0 rfl rfl rfl rfl hl.1 (Nat.le_of_ble_eq_true rfl) dL_law_236 (by first | exact ⟨Nat.le_of_ble_eq_true rfl, Nat.le_of_ble_eq_true rfl⟩ | (refine ⟨?_, ?_⟩ <;> ((try dsimp only); omega)))) (fun x0 u H locs hp hw => ?_)
      have hx0 : x0 = _ := hp
      subst hx0
      refine lv_aload_n hx hb dL_law_239 rfl (lv_at hl 11 rfl) ?_
      refine lv_iload hx hb dL_law_240 (lv_at hl 4 rfl) ?_
      refine lv_iload hx hb dL_law_242 (lv_at hl 3 rfl) ?_
      refine ccall_i hc hw (crunV (n := 2) (As := [.int (nI y), .int (nI x)]) (rest := [.int (r 4 (4 * t + k)), .int hv]) hc hw (k_milesOf hst _ a z r u _ _ hH (ans := r 4 (4 * y + x)) (l_milesOf hL ex1 ex2)) gL_law_X3_milesOf rfl (by decide +kernel) ⟨Nat.le_of_ble_eq_true rfl, Nat.le_of_ble_eq_true rfl⟩ 0 rfl rfl rfl rfl hl.1 (Nat.le_of_ble_eq_true rfl) dL_law_244 (by first | exact ⟨Nat.le_of_ble_eq_true rfl, Nat.le_of_ble_eq_true rfl⟩ | (refine ⟨?_, ?_⟩ <;> ((try dsimp only); omega)))) (fun x0 u H locs hp hw => ?_)
      have hx0 : x0 = _ := hp
      subst hx0
      refine lv_icmp_ne (tgt := 292) hx hb dL_law_247 (by decide) (fun h2 => ?_) (fun h2 => ?_)
      · refine lv_iconst (v := 0) hx hb dL_law_292 (by decide) ?_
        refine lv_ior hx hb dL_law_293 ?_
        rw [lor0 hv01]
        refine lv_istore (lv' := [(12, .int hv), (13, .int (nI k)), (11, .int (nI t)), (10, .int (nI x)), (9, .int (nI y)), (8, .int fr), (7, .int (nI n)), (5, .long D), (4, .int x4), (3, .int (nI tm)), (2, .ref aS), (1, .ref (a 0)), (0, .ref bs)]) hx hb dL_law_294 hl (by decide) rfl (fun ls hl => ?_)
        refine lv_iinc (v := nI (k + 1)) (lv' := [(13, .int (nI (k + 1))), (12, .int hv), (11, .int (nI t)), (10, .int (nI x)), (9, .int (nI y)), (8, .int fr), (7, .int (nI n)), (5, .long D), (4, .int x4), (3, .int (nI tm)), (2, .ref aS), (1, .ref (a 0)), (0, .ref bs)]) hx hb dL_law_296 hl (k := 1) rfl (nI_1 _) (by decide) rfl (fun ls hl => ?_)
        refine lv_goto (tgt := 205) hx hb dL_law_299 (by decide) ?_
        refine W.widen (k := C + 9 * (k + 1)) (n := S + 54 * (k + 1)) (by (try dsimp only); omega) (by (try dsimp only); omega) ?_
        refine ih (k + 1) (by omega) hv u H locs ls hv01 (fun hk => ?_) (lv_sub hl [0, 1, 2, 3, 4, 5, 6, 7, 8, 9, 10, 11, 12] rfl) hw
        rcases Nat.lt_or_ge yy k with h | h
        · exact hv1 h
        · exfalso
          obtain rfl : yy = k := by omega
          exact h2 e4
      · refine lv_aload_n hx hb dL_law_250 rfl (lv_at hl 11 rfl) ?_
        refine lv_iload hx hb dL_law_251 (lv_at hl 2 rfl) ?_
        refine lv_iload hx hb dL_law_253 (lv_at hl 0 rfl) ?_
        refine ccall_i hc hw (crunV (n := 2) (As := [.int (nI t), .int (nI k)]) (rest := [.int hv]) hc hw (k_isOpen hst _ a z r u _ _ hH (ans := if r 5 (4 * t + k) = 0 then 0 else 1) (l_isOpen hL ek1 ek2)) gL_law_X3_isOpen rfl (by decide +kernel) ⟨Nat.le_of_ble_eq_true rfl, Nat.le_of_ble_eq_true rfl⟩ 0 rfl rfl rfl rfl hl.1 (Nat.le_of_ble_eq_true rfl) dL_law_255 (by first | exact ⟨Nat.le_of_ble_eq_true rfl, Nat.le_of_ble_eq_true rfl⟩ | (refine ⟨?_, ?_⟩ <;> ((try dsimp only); omega)))) (fun x0 u H locs hp hw => ?_)
        have hx0 : x0 = _ := hp
        subst hx0
        refine lv_aload_n hx hb dL_law_258 rfl (lv_at hl 11 rfl) ?_
        refine lv_iload hx hb dL_law_259 (lv_at hl 4 rfl) ?_
        refine lv_iload hx hb dL_law_261 (lv_at hl 3 rfl) ?_
        refine ccall_i hc hw (crunV (n := 2) (As := [.int (nI y), .int (nI x)]) (rest := [.int (if r 5 (4 * t + k) = 0 then 0 else 1), .int hv]) hc hw (k_isOpen hst _ a z r u _ _ hH (ans := if r 5 (4 * y + x) = 0 then 0 else 1) (l_isOpen hL ex1 ex2)) gL_law_X3_isOpen rfl (by decide +kernel) ⟨Nat.le_of_ble_eq_true rfl, Nat.le_of_ble_eq_true rfl⟩ 0 rfl rfl rfl rfl hl.1 (Nat.le_of_ble_eq_true rfl) dL_law_263 (by first | exact ⟨Nat.le_of_ble_eq_true rfl, Nat.le_of_ble_eq_true rfl⟩ | (refine ⟨?_, ?_⟩ <;> ((try dsimp only); omega)))) (fun x0 u H locs hp hw => ?_)
        have hx0 : x0 = _ := hp
        subst hx0
        refine lv_icmp_ne (tgt := 292) hx hb dL_law_266 (by decide) (fun h3 => ?_) (fun h3 => ?_)
        · refine lv_iconst (v := 0) hx hb dL_law_292 (by decide) ?_
          refine lv_ior hx hb dL_law_293 ?_
          rw [lor0 hv01]
          refine lv_istore (lv' := [(12, .int hv), (13, .int (nI k)), (11, .int (nI t)), (10, .int (nI x)), (9, .int (nI y)), (8, .int fr), (7, .int (nI n)), (5, .long D), (4, .int x4), (3, .int (nI tm)), (2, .ref aS), (1, .ref (a 0)), (0, .ref bs)]) hx hb dL_law_294 hl (by decide) rfl (fun ls hl => ?_)
          refine lv_iinc (v := nI (k + 1)) (lv' := [(13, .int (nI (k + 1))), (12, .int hv), (11, .int (nI t)), (10, .int (nI x)), (9, .int (nI y)), (8, .int fr), (7, .int (nI n)), (5, .long D), (4, .int x4), (3, .int (nI tm)), (2, .ref aS), (1, .ref (a 0)), (0, .ref bs)]) hx hb dL_law_296 hl (k := 1) rfl (nI_1 _) (by decide) rfl (fun ls hl => ?_)
          refine lv_goto (tgt := 205) hx hb dL_law_299 (by decide) ?_
          refine W.widen (k := C + 9 * (k + 1)) (n := S + 54 * (k + 1)) (by (try dsimp only); omega) (by (try dsimp only); omega) ?_
          refine ih (k + 1) (by omega) hv u H locs ls hv01 (fun hk => ?_) (lv_sub hl [0, 1, 2, 3, 4, 5, 6, 7, 8, 9, 10, 11, 12] rfl) hw
          rcases Nat.lt_or_ge yy k with h | h
          · exact hv1 h
          · exfalso
            obtain rfl : yy = k := by omega
            exact h3 e5
        · refine lv_aload_n hx hb dL_law_269 rfl (lv_at hl 11 rfl) ?_
          refine lv_iload hx hb dL_law_270 (lv_at hl 2 rfl) ?_
          refine lv_iload hx hb dL_law_272 (lv_at hl 0 rfl) ?_
          refine ccall_i hc hw (crunV (n := 2) (As := [.int (nI t), .int (nI k)]) (rest := [.int hv]) hc hw (k_isTried hst _ a z r u _ _ hH (ans := if z 3 = -1 then 0 else if r 7 (4 * t + k) = 0 then 0 else 1) (l_isTried hL ek1 ek2)) gL_law_X3_isTried rfl (by decide +kernel) ⟨Nat.le_of_ble_eq_true rfl, Nat.le_of_ble_eq_true rfl⟩ 0 rfl rfl rfl rfl hl.1 (Nat.le_of_ble_eq_true rfl) dL_law_274 (by first | exact ⟨Nat.le_of_ble_eq_true rfl, Nat.le_of_ble_eq_true rfl⟩ | (refine ⟨?_, ?_⟩ <;> ((try dsimp only); omega)))) (fun x0 u H locs hp hw => ?_)
          have hx0 : x0 = _ := hp
          subst hx0
          refine lv_aload_n hx hb dL_law_277 rfl (lv_at hl 11 rfl) ?_
          refine lv_iload hx hb dL_law_278 (lv_at hl 4 rfl) ?_
          refine lv_iload hx hb dL_law_280 (lv_at hl 3 rfl) ?_
          refine ccall_i hc hw (crunV (n := 2) (As := [.int (nI y), .int (nI x)]) (rest := [.int (if z 3 = -1 then 0 else if r 7 (4 * t + k) = 0 then 0 else 1), .int hv]) hc hw (k_isTried hst _ a z r u _ _ hH (ans := if z 3 = -1 then 0 else if r 7 (4 * y + x) = 0 then 0 else 1) (l_isTried hL ex1 ex2)) gL_law_X3_isTried rfl (by decide +kernel) ⟨Nat.le_of_ble_eq_true rfl, Nat.le_of_ble_eq_true rfl⟩ 0 rfl rfl rfl rfl hl.1 (Nat.le_of_ble_eq_true rfl) dL_law_282 (by first | exact ⟨Nat.le_of_ble_eq_true rfl, Nat.le_of_ble_eq_true rfl⟩ | (refine ⟨?_, ?_⟩ <;> ((try dsimp only); omega)))) (fun x0 u H locs hp hw => ?_)
          have hx0 : x0 = _ := hp
          subst hx0
          refine lv_icmp_ne (tgt := 292) hx hb dL_law_285 (by decide) (fun h4 => ?_) (fun h4 => ?_)
          · refine lv_iconst (v := 0) hx hb dL_law_292 (by decide) ?_
            refine lv_ior hx hb dL_law_293 ?_
            rw [lor0 hv01]
            refine lv_istore (lv' := [(12, .int hv), (13, .int (nI k)), (11, .int (nI t)), (10, .int (nI x)), (9, .int (nI y)), (8, .int fr), (7, .int (nI n)), (5, .long D), (4, .int x4), (3, .int (nI tm)), (2, .ref aS), (1, .ref (a 0)), (0, .ref bs)]) hx hb dL_law_294 hl (by decide) rfl (fun ls hl => ?_)
            refine lv_iinc (v := nI (k + 1)) (lv' := [(13, .int (nI (k + 1))), (12, .int hv), (11, .int (nI t)), (10, .int (nI x)), (9, .int (nI y)), (8, .int fr), (7, .int (nI n)), (5, .long D), (4, .int x4), (3, .int (nI tm)), (2, .ref aS), (1, .ref (a 0)), (0, .ref bs)]) hx hb dL_law_296 hl (k := 1) rfl (nI_1 _) (by decide) rfl (fun ls hl => ?_)
            refine lv_goto (tgt := 205) hx hb dL_law_299 (by decide) ?_
            refine W.widen (k := C + 9 * (k + 1)) (n := S + 54 * (k + 1)) (by (try dsimp only); omega) (by (try dsimp only); omega) ?_
            refine ih (k + 1) (by omega) hv u H locs ls hv01 (fun hk => ?_) (lv_sub hl [0, 1, 2, 3, 4, 5, 6, 7, 8, 9, 10, 11, 12] rfl) hw
            rcases Nat.lt_or_ge yy k with h | h
            · exact hv1 h
            · exfalso
              obtain rfl : yy = k := by omega
              exact h4 e7
          · refine lv_iconst (v := 1) hx hb dL_law_288 (by decide) ?_
            refine lv_goto (tgt := 293) hx hb dL_law_289 (by decide) ?_
            refine lv_ior hx hb dL_law_293 ?_
            rw [lor1 hv01]
            refine lv_istore (lv' := [(12, .int 1), (13, .int (nI k)), (11, .int (nI t)), (10, .int (nI x)), (9, .int (nI y)), (8, .int fr), (7, .int (nI n)), (5, .long D), (4, .int x4), (3, .int (nI tm)), (2, .ref aS), (1, .ref (a 0)), (0, .ref bs)]) hx hb dL_law_294 hl (by decide) rfl (fun ls hl => ?_)
            refine lv_iinc (v := nI (k + 1)) (lv' := [(13, .int (nI (k + 1))), (12, .int 1), (11, .int (nI t)), (10, .int (nI x)), (9, .int (nI y)), (8, .int fr), (7, .int (nI n)), (5, .long D), (4, .int x4), (3, .int (nI tm)), (2, .ref aS), (1, .ref (a 0)), (0, .ref bs)]) hx hb dL_law_296 hl (k := 1) rfl (nI_1 _) (by decide) rfl (fun ls hl => ?_)
            refine lv_goto (tgt := 205) hx hb dL_law_299 (by decide) ?_
            refine W.widen (k := C + 9 * (k + 1)) (n := S + 54 * (k + 1)) (by (try dsimp only); omega) (by (try dsimp only); omega) ?_
            exact ih (k + 1) (by omega) 1 u H locs ls (Or.inr rfl) (fun _ => rfl) (lv_sub hl [0, 1, 2, 3, 4, 5, 6, 7, 8, 9, 10, 11, 12] rfl) hw
set_option maxHeartbeats 40000000 in
set_option maxRecDepth 100000 in
theorem lpw_exits {p : Program} {l : Launch} {e : Env} {s : State} {m : MethodId} {args : Array Value} {below : List Frame} {meth : Method} {c : Code} {Q : State → Prop} {G : xG} {A : Nat → Prop} (hst : l.stackTraces = false) {a : Nat → Nat} {aS bs : Nat} {fr x4 : Int32} {D : Int64} {tm : Nat} {ret : Option FieldType} {N : Nat} {B : Int} {z : Nat → Int32} {r : Nat → Nat → Int32} {rs : Int32} {q : Nat → Nat → Int32} {n : Nat} {xn : Nat → Nat} {xr : Nat → Nat → Int32} {nr : Nat} {v : Nat → Int32} {rw : Nat → Nat → Int32} {ak : Nat → Int32} {wl : Nat} {wy : Nat → Nat → Int32} {mp : Nat → Nat → Bool} {mm : Nat → Nat → Nat → Int32} (hc : xC p s m args meth c cL_law 20 RL wsL_law ret G A) (hA0 : cA N B z r rs q n xn xr nr v rw ak wl wy mp mm) {L : List Nat} {f : Nat → va_E} {C S : Nat} (hCS : C ≤ 506000 ∧ S ≤ 5060000) {y : Nat} (hy : y < n) (hfr : (fr = 1 ∧ z 3 = -1) ∨ (fr = 0 ∧ ¬ z 3 = -1))
    (kx : ∀ (u : cU) (H : Heap) (locs : List Loc) (ls : Array Slot), lv_has ls 20 [(9, .int (nI y)), (8, .int fr), (7, .int (nI n)), (5, .long D), (4, .int x4), (3, .int (nI tm)), (2, .ref aS), (1, .ref (a 0)), (0, .ref bs)] → xW G A s.heap (cW G a z r u ++ va_pl L f) H locs → W p l e ⟨12, 777134, 6770066, 438⟩ s m args below meth c H locs (C + 210) (S + 1300) Q (F0 m 379 ls [])) :
    ∀ (d x : Nat), x + d = xn y → ∀ (u : cU) (H : Heap) (locs : List Loc) (ls : Array Slot), lv_has ls 20 [(10, .int (nI x)), (9, .int (nI y)), (8, .int fr), (7, .int (nI n)), (5, .long D), (4, .int x4), (3, .int (nI tm)), (2, .ref aS), (1, .ref (a 0)), (0, .ref bs)] → xW G A s.heap (cW G a z r u ++ va_pl L f) H locs → W p l e ⟨12, 777134, 6770066, 438⟩ s m args below meth c H locs (C + 50 * x) (S + 300 * x) Q (F0 m 178 ls []) := by
  obtain ⟨hx, hb, -, hown, hts, -⟩ := id hc
  have hH := cA_H hA0
  obtain ⟨hn1, hn2, hn3, hn4, hn5⟩ := cA_n hA0
  have hL := cA_L hA0
  have hM := zI_M hA0.1
  have hy4 := c_x4 hA0 hy
  intro d
  induction d with
  | zero =>
    intro x hd u H locs ls hl hw
    refine lv_iload hx hb dL_law_178 (lv_at hl 0 rfl) ?_
    refine lv_aload_n hx hb dL_law_180 rfl (lv_at hl 8 rfl) ?_
    refine lv_iload hx hb dL_law_181 (lv_at hl 1 rfl) ?_
    refine ccall_i hc hw (crunV (n := 1) (As := [.int (nI y)]) (rest := [.int (nI x)]) hc hw (k_exitsOf hst _ a z r u _ hH (ans := nI (xn y)) (by rw [l_exitsOf hL (by omega), c_ex hA0 hy])) gL_law_X3_exitsOf rfl (by decide +kernel) ⟨Nat.le_of_ble_eq_true rfl, Nat.le_of_ble_eq_true rfl⟩ 0 rfl rfl rfl rfl hl.1 (Nat.le_of_ble_eq_true rfl) dL_law_183 (by first | exact ⟨Nat.le_of_ble_eq_true rfl, Nat.le_of_ble_eq_true rfl⟩ | (refine ⟨?_, ?_⟩ <;> ((try dsimp only); omega)))) (fun x0 u H locs hp hw => ?_)
    have hx0 : x0 = _ := hp
    subst hx0
    refine lv_icmp_ge (tgt := 379) hx hb dL_law_186 (by decide) (fun hz => ?_) (fun h => absurd (nI_le (by omega) (by omega)) h)
    exact W.widen (k := C + 210) (n := S + 1300) (by (try dsimp only); omega) (by (try dsimp only); omega) (kx u H locs ls (lv_sub hl [1, 2, 3, 4, 5, 6, 7, 8, 9] rfl) hw)
  | succ d ih =>
    intro x hd u H locs ls hl hw
    have hxy : x < xn y := by omega
    obtain ⟨t, yy, et, ht, htp, hyy, e2, e4, e5, e7⟩ := c_twin hA0 hy hxy
    obtain ⟨ex1, ex2, -⟩ := c_end hA0 hy hxy
    obtain ⟨d9, hd1, hd2, -, hd4⟩ := a_far hA0 hy ht
    refine lv_iload hx hb dL_law_178 (lv_at hl 0 rfl) ?_
    refine lv_aload_n hx hb dL_law_180 rfl (lv_at hl 8 rfl) ?_
    refine lv_iload hx hb dL_law_181 (lv_at hl 1 rfl) ?_
    refine ccall_i hc hw (crunV (n := 1) (As := [.int (nI y)]) (rest := [.int (nI x)]) hc hw (k_exitsOf hst _ a z r u _ hH (ans := nI (xn y)) (by rw [l_exitsOf hL (by omega), c_ex hA0 hy])) gL_law_X3_exitsOf rfl (by decide +kernel) ⟨Nat.le_of_ble_eq_true rfl, Nat.le_of_ble_eq_true rfl⟩ 0 rfl rfl rfl rfl hl.1 (Nat.le_of_ble_eq_true rfl) dL_law_183 (by first | exact ⟨Nat.le_of_ble_eq_true rfl, Nat.le_of_ble_eq_true rfl⟩ | (refine ⟨?_, ?_⟩ <;> ((try dsimp only); omega)))) (fun x0 u H locs hp hw => ?_)
    have hx0 : x0 = _ := hp
    subst hx0
    refine lv_icmp_ge (tgt := 379) hx hb dL_law_186 (by decide) (fun h => absurd h (nI_ge (by omega) (by omega))) (fun hz => ?_)
    refine lv_aload_n hx hb dL_law_189 rfl (lv_at hl 8 rfl) ?_
    refine lv_iload hx hb dL_law_190 (lv_at hl 1 rfl) ?_
    refine lv_iload hx hb dL_law_192 (lv_at hl 0 rfl) ?_
    refine ccall_i hc hw (crunV (n := 2) (As := [.int (nI y), .int (nI x)]) (rest := []) hc hw (k_leadsTo hst _ a z r u _ _ hH (ans := nI t) (by rw [l_leadsTo hL ex1 ex2, et])) gL_law_X3_leadsTo rfl (by decide +kernel) ⟨Nat.le_of_ble_eq_true rfl, Nat.le_of_ble_eq_true rfl⟩ 0 rfl rfl rfl rfl hl.1 (Nat.le_of_ble_eq_true rfl) dL_law_194 (by first | exact ⟨Nat.le_of_ble_eq_true rfl, Nat.le_of_ble_eq_true rfl⟩ | (refine ⟨?_, ?_⟩ <;> ((try dsimp only); omega)))) (fun x0 u H locs hp hw => ?_)
    have hx0 : x0 = _ := hp
    subst hx0
    refine lv_istore (lv' := [(11, .int (nI t)), (10, .int (nI x)), (9, .int (nI y)), (8, .int fr), (7, .int (nI n)), (5, .long D), (4, .int x4), (3, .int (nI tm)), (2, .ref aS), (1, .ref (a 0)), (0, .ref bs)]) hx hb dL_law_197 hl (by decide) rfl (fun ls hl => ?_)
    refine lv_iconst (v := 0) hx hb dL_law_199 (by decide) ?_
    refine lv_istore (lv' := [(12, .int 0), (11, .int (nI t)), (10, .int (nI x)), (9, .int (nI y)), (8, .int fr), (7, .int (nI n)), (5, .long D), (4, .int x4), (3, .int (nI tm)), (2, .ref aS), (1, .ref (a 0)), (0, .ref bs)]) hx hb dL_law_200 hl (by decide) rfl (fun ls hl => ?_)
    refine lv_iconst (v := 0) hx hb dL_law_202 (by decide) ?_
    refine lv_istore (lv' := [(13, .int 0), (12, .int 0), (11, .int (nI t)), (10, .int (nI x)), (9, .int (nI y)), (8, .int fr), (7, .int (nI n)), (5, .long D), (4, .int x4), (3, .int (nI tm)), (2, .ref aS), (1, .ref (a 0)), (0, .ref bs)]) hx hb dL_law_203 hl (by decide) rfl (fun ls hl => ?_)
    refine W.widen (k := C + 50 * x + 2 + 9 * 0) (n := S + 300 * x + 12 + 54 * 0) (by (try dsimp only); omega) (by (try dsimp only); omega) ?_
    refine lpw_has hst hc hA0 (C := C + 50 * x + 2) (S := S + 300 * x + 12) (by omega) hy hxy ht hyy e2 e4 e5 e7 (fun u H locs ls hl hw => ?_) (xn t) 0 (by omega) 0 u H locs ls (Or.inl rfl) (fun h => absurd h (Nat.not_lt_zero _)) (lv_sub hl [0, 1, 2, 3, 4, 5, 6, 7, 8, 9, 10, 11, 12] rfl) hw
    refine lv_iload hx hb dL_law_302 (lv_at hl 0 rfl) ?_
    refine lv_if_eq (tgt := 371) hx hb dL_law_304 (by decide) (fun h => absurd h (by decide)) (fun hz1 => ?_)
    refine lv_iload hx hb dL_law_307 (lv_at hl 1 rfl) ?_
    refine lv_iload hx hb dL_law_309 (lv_at hl 3 rfl) ?_
    refine lv_icmp_eq (tgt := 371) hx hb dL_law_311 (by decide) (fun h => absurd (nI_inj (by omega) (by omega) h) htp) (fun hz2 => ?_)
    refine lv_iload hx hb dL_law_314 (lv_at hl 4 rfl) ?_
    refine lv_if_eq (tgt := 330) hx hb dL_law_316 (by decide) (fun hz3 => ?_) (fun hz3 => ?_)
    · refine lv_aload_n hx hb dL_law_330 rfl (lv_at hl 10 rfl) ?_
      refine lv_iload hx hb dL_law_331 (lv_at hl 3 rfl) ?_
      refine lv_iload hx hb dL_law_333 (lv_at hl 2 rfl) ?_
      refine ccall_i hc hw (crunV (n := 2) (As := [.int (nI y), .int (nI x)]) (rest := []) hc hw (k_isOpen hst _ a z r u _ _ hH (ans := if r 5 (4 * y + x) = 0 then 0 else 1) (l_isOpen hL ex1 ex2)) gL_law_X3_isOpen rfl (by decide +kernel) ⟨Nat.le_of_ble_eq_true rfl, Nat.le_of_ble_eq_true rfl⟩ 0 rfl rfl rfl rfl hl.1 (Nat.le_of_ble_eq_true rfl) dL_law_335 (by first | exact ⟨Nat.le_of_ble_eq_true rfl, Nat.le_of_ble_eq_true rfl⟩ | (refine ⟨?_, ?_⟩ <;> ((try dsimp only); omega)))) (fun x0 u H locs hp hw => ?_)
      have hx0 : x0 = _ := hp
      subst hx0
      refine lv_if_eq (tgt := 373) hx hb dL_law_338 (by decide) (fun hz4 => ?_) (fun hz4 => ?_)
      · refine lv_iinc (v := nI (x + 1)) (lv' := [(10, .int (nI (x + 1))), (12, .int 1), (11, .int (nI t)), (9, .int (nI y)), (8, .int fr), (7, .int (nI n)), (5, .long D), (4, .int x4), (3, .int (nI tm)), (2, .ref aS), (1, .ref (a 0)), (0, .ref bs)]) hx hb dL_law_373 hl (k := 2) rfl (nI_1 _) (by decide) rfl (fun ls hl => ?_)
        refine lv_goto (tgt := 178) hx hb dL_law_376 (by decide) ?_
        refine W.widen (k := C + 50 * (x + 1)) (n := S + 300 * (x + 1)) (by (try dsimp only); omega) (by (try dsimp only); omega) ?_
        exact ih (x + 1) (by omega) u H locs ls (lv_sub hl [0, 3, 4, 5, 6, 7, 8, 9, 10, 11] rfl) hw
      · have ho : ¬ r 5 (4 * y + x) = 0 := fun c0 => hz4 (if_pos c0)
        obtain ⟨g1, g2, w9, g3, g4, g5⟩ := c_open hA0 hy hxy ho et ht hd1
        refine lv_aload_n hx hb dL_law_341 rfl (lv_at hl 10 rfl) ?_
        refine lv_iload hx hb dL_law_342 (lv_at hl 3 rfl) ?_
        refine lv_iload hx hb dL_law_344 (lv_at hl 1 rfl) ?_
        refine ccall_i hc hw (crunV (n := 2) (As := [.int (nI y), .int (nI t)]) (rest := []) hc hw (k_distance hst _ a z r u _ _ hH (hd4 u.1).1 (hd4 u.1).2) gL_law_X3_distance rfl (by decide +kernel) ⟨Nat.le_of_ble_eq_true rfl, Nat.le_of_ble_eq_true rfl⟩ 0 rfl rfl rfl rfl hl.1 (Nat.le_of_ble_eq_true rfl) dL_law_346 (by first | exact ⟨Nat.le_of_ble_eq_true rfl, Nat.le_of_ble_eq_true rfl⟩ | (refine ⟨?_, ?_⟩ <;> ((try dsimp only); omega)))) (fun x0 u H locs hp hw => ?_)
        have hx0 : x0 = _ := hp
        subst hx0
        refine lv_if_lt (tgt := 371) hx hb dL_law_349 (by decide) (fun h => absurd h (by rw [g2, xltI, nI_toInt (by omega), show (0 : Int32).toInt = 0 from rfl]; omega)) (fun hz5 => ?_)
        refine lv_aload_n hx hb dL_law_352 rfl (lv_at hl 10 rfl) ?_
        refine lv_iload hx hb dL_law_353 (lv_at hl 3 rfl) ?_
        refine lv_iload hx hb dL_law_355 (lv_at hl 1 rfl) ?_
        refine ccall_i hc hw (crunV (n := 2) (As := [.int (nI y), .int (nI t)]) (rest := []) hc hw (k_distance hst _ a z r u _ _ hH (hd4 u.1).1 (hd4 u.1).2) gL_law_X3_distance rfl (by decide +kernel) ⟨Nat.le_of_ble_eq_true rfl, Nat.le_of_ble_eq_true rfl⟩ 0 rfl rfl rfl rfl hl.1 (Nat.le_of_ble_eq_true rfl) dL_law_357 (by first | exact ⟨Nat.le_of_ble_eq_true rfl, Nat.le_of_ble_eq_true rfl⟩ | (refine ⟨?_, ?_⟩ <;> ((try dsimp only); omega)))) (fun x0 u H locs hp hw => ?_)
        have hx0 : x0 = _ := hp
        subst hx0
        refine lv_aload_n hx hb dL_law_360 rfl (lv_at hl 10 rfl) ?_
        refine lv_iload hx hb dL_law_361 (lv_at hl 3 rfl) ?_
        refine lv_iload hx hb dL_law_363 (lv_at hl 2 rfl) ?_
        refine ccall_i hc hw (crunV (n := 2) (As := [.int (nI y), .int (nI x)]) (rest := [.int (tD d9)]) hc hw (k_milesOf hst _ a z r u _ _ hH (ans := nI w9) (by rw [l_milesOf hL ex1 ex2, g3])) gL_law_X3_milesOf rfl (by decide +kernel) ⟨Nat.le_of_ble_eq_true rfl, Nat.le_of_ble_eq_true rfl⟩ 0 rfl rfl rfl rfl hl.1 (Nat.le_of_ble_eq_true rfl) dL_law_365 (by first | exact ⟨Nat.le_of_ble_eq_true rfl, Nat.le_of_ble_eq_true rfl⟩ | (refine ⟨?_, ?_⟩ <;> ((try dsimp only); omega)))) (fun x0 u H locs hp hw => ?_)
        have hx0 : x0 = _ := hp
        subst hx0
        refine lv_icmp_le (tgt := 373) hx hb dL_law_368 (by decide) (fun hz6 => ?_) (fun h => absurd (show tD d9 ≤ nI w9 by rw [g2]; exact nI_le g4 (by omega)) h)
        refine lv_iinc (v := nI (x + 1)) (lv' := [(10, .int (nI (x + 1))), (12, .int 1), (11, .int (nI t)), (9, .int (nI y)), (8, .int fr), (7, .int (nI n)), (5, .long D), (4, .int x4), (3, .int (nI tm)), (2, .ref aS), (1, .ref (a 0)), (0, .ref bs)]) hx hb dL_law_373 hl (k := 2) rfl (nI_1 _) (by decide) rfl (fun ls hl => ?_)
        refine lv_goto (tgt := 178) hx hb dL_law_376 (by decide) ?_
        refine W.widen (k := C + 50 * (x + 1)) (n := S + 300 * (x + 1)) (by (try dsimp only); omega) (by (try dsimp only); omega) ?_
        exact ih (x + 1) (by omega) u H locs ls (lv_sub hl [0, 3, 4, 5, 6, 7, 8, 9, 10, 11] rfl) hw
    · have h3 : z 3 = -1 := by
        rcases hfr with ⟨-, h⟩ | ⟨h, -⟩
        · exact h
        · exact absurd h hz3
      refine lv_aload_n hx hb dL_law_319 rfl (lv_at hl 10 rfl) ?_
      refine lv_iload hx hb dL_law_320 (lv_at hl 3 rfl) ?_
      refine lv_iload hx hb dL_law_322 (lv_at hl 2 rfl) ?_
      refine ccall_i hc hw (crunV (n := 2) (As := [.int (nI y), .int (nI x)]) (rest := []) hc hw (k_isTried hst _ a z r u _ _ hH (ans := 0) (by rw [l_isTried hL ex1 ex2, if_pos h3])) gL_law_X3_isTried rfl (by decide +kernel) ⟨Nat.le_of_ble_eq_true rfl, Nat.le_of_ble_eq_true rfl⟩ 0 rfl rfl rfl rfl hl.1 (Nat.le_of_ble_eq_true rfl) dL_law_324 (by first | exact ⟨Nat.le_of_ble_eq_true rfl, Nat.le_of_ble_eq_true rfl⟩ | (refine ⟨?_, ?_⟩ <;> ((try dsimp only); omega)))) (fun x0 u H locs hp hw => ?_)
      have hx0 : x0 = _ := hp
      subst hx0
      refine lv_if_ne (tgt := 371) hx hb dL_law_327 (by decide) (fun h => absurd rfl h) (fun hz7 => ?_)
      refine lv_aload_n hx hb dL_law_330 rfl (lv_at hl 10 rfl) ?_
      refine lv_iload hx hb dL_law_331 (lv_at hl 3 rfl) ?_
      refine lv_iload hx hb dL_law_333 (lv_at hl 2 rfl) ?_
      refine ccall_i hc hw (crunV (n := 2) (As := [.int (nI y), .int (nI x)]) (rest := []) hc hw (k_isOpen hst _ a z r u _ _ hH (ans := if r 5 (4 * y + x) = 0 then 0 else 1) (l_isOpen hL ex1 ex2)) gL_law_X3_isOpen rfl (by decide +kernel) ⟨Nat.le_of_ble_eq_true rfl, Nat.le_of_ble_eq_true rfl⟩ 0 rfl rfl rfl rfl hl.1 (Nat.le_of_ble_eq_true rfl) dL_law_335 (by first | exact ⟨Nat.le_of_ble_eq_true rfl, Nat.le_of_ble_eq_true rfl⟩ | (refine ⟨?_, ?_⟩ <;> ((try dsimp only); omega)))) (fun x0 u H locs hp hw => ?_)
      have hx0 : x0 = _ := hp
      subst hx0
      refine lv_if_eq (tgt := 373) hx hb dL_law_338 (by decide) (fun hz4 => ?_) (fun hz4 => ?_)
      · refine lv_iinc (v := nI (x + 1)) (lv' := [(10, .int (nI (x + 1))), (12, .int 1), (11, .int (nI t)), (9, .int (nI y)), (8, .int fr), (7, .int (nI n)), (5, .long D), (4, .int x4), (3, .int (nI tm)), (2, .ref aS), (1, .ref (a 0)), (0, .ref bs)]) hx hb dL_law_373 hl (k := 2) rfl (nI_1 _) (by decide) rfl (fun ls hl => ?_)
        refine lv_goto (tgt := 178) hx hb dL_law_376 (by decide) ?_
        refine W.widen (k := C + 50 * (x + 1)) (n := S + 300 * (x + 1)) (by (try dsimp only); omega) (by (try dsimp only); omega) ?_
        exact ih (x + 1) (by omega) u H locs ls (lv_sub hl [0, 3, 4, 5, 6, 7, 8, 9, 10, 11] rfl) hw
      · have ho : ¬ r 5 (4 * y + x) = 0 := fun c0 => hz4 (if_pos c0)
        obtain ⟨g1, g2, w9, g3, g4, g5⟩ := c_open hA0 hy hxy ho et ht hd1
        refine lv_aload_n hx hb dL_law_341 rfl (lv_at hl 10 rfl) ?_
        refine lv_iload hx hb dL_law_342 (lv_at hl 3 rfl) ?_
        refine lv_iload hx hb dL_law_344 (lv_at hl 1 rfl) ?_
        refine ccall_i hc hw (crunV (n := 2) (As := [.int (nI y), .int (nI t)]) (rest := []) hc hw (k_distance hst _ a z r u _ _ hH (hd4 u.1).1 (hd4 u.1).2) gL_law_X3_distance rfl (by decide +kernel) ⟨Nat.le_of_ble_eq_true rfl, Nat.le_of_ble_eq_true rfl⟩ 0 rfl rfl rfl rfl hl.1 (Nat.le_of_ble_eq_true rfl) dL_law_346 (by first | exact ⟨Nat.le_of_ble_eq_true rfl, Nat.le_of_ble_eq_true rfl⟩ | (refine ⟨?_, ?_⟩ <;> ((try dsimp only); omega)))) (fun x0 u H locs hp hw => ?_)
        have hx0 : x0 = _ := hp
        subst hx0
        refine lv_if_lt (tgt := 371) hx hb dL_law_349 (by decide) (fun h => absurd h (by rw [g2, xltI, nI_toInt (by omega), show (0 : Int32).toInt = 0 from rfl]; omega)) (fun hz5 => ?_)
        refine lv_aload_n hx hb dL_law_352 rfl (lv_at hl 10 rfl) ?_
        refine lv_iload hx hb dL_law_353 (lv_at hl 3 rfl) ?_
        refine lv_iload hx hb dL_law_355 (lv_at hl 1 rfl) ?_
        refine ccall_i hc hw (crunV (n := 2) (As := [.int (nI y), .int (nI t)]) (rest := []) hc hw (k_distance hst _ a z r u _ _ hH (hd4 u.1).1 (hd4 u.1).2) gL_law_X3_distance rfl (by decide +kernel) ⟨Nat.le_of_ble_eq_true rfl, Nat.le_of_ble_eq_true rfl⟩ 0 rfl rfl rfl rfl hl.1 (Nat.le_of_ble_eq_true rfl) dL_law_357 (by first | exact ⟨Nat.le_of_ble_eq_true rfl, Nat.le_of_ble_eq_true rfl⟩ | (refine ⟨?_, ?_⟩ <;> ((try dsimp only); omega)))) (fun x0 u H locs hp hw => ?_)
        have hx0 : x0 = _ := hp
        subst hx0
        refine lv_aload_n hx hb dL_law_360 rfl (lv_at hl 10 rfl) ?_
        refine lv_iload hx hb dL_law_361 (lv_at hl 3 rfl) ?_
        refine lv_iload hx hb dL_law_363 (lv_at hl 2 rfl) ?_
        refine ccall_i hc hw (crunV (n := 2) (As := [.int (nI y), .int (nI x)]) (rest := [.int (tD d9)]) hc hw (k_milesOf hst _ a z r u _ _ hH (ans := nI w9) (by rw [l_milesOf hL ex1 ex2, g3])) gL_law_X3_milesOf rfl (by decide +kernel) ⟨Nat.le_of_ble_eq_true rfl, Nat.le_of_ble_eq_true rfl⟩ 0 rfl rfl rfl rfl hl.1 (Nat.le_of_ble_eq_true rfl) dL_law_365 (by first | exact ⟨Nat.le_of_ble_eq_true rfl, Nat.le_of_ble_eq_true rfl⟩ | (refine ⟨?_, ?_⟩ <;> ((try dsimp only); omega)))) (fun x0 u H locs hp hw => ?_)
        have hx0 : x0 = _ := hp
        subst hx0
        refine lv_icmp_le (tgt := 373) hx hb dL_law_368 (by decide) (fun hz6 => ?_) (fun h => absurd (show tD d9 ≤ nI w9 by rw [g2]; exact nI_le g4 (by omega)) h)
        refine lv_iinc (v := nI (x + 1)) (lv' := [(10, .int (nI (x + 1))), (12, .int 1), (11, .int (nI t)), (9, .int (nI y)), (8, .int fr), (7, .int (nI n)), (5, .long D), (4, .int x4), (3, .int (nI tm)), (2, .ref aS), (1, .ref (a 0)), (0, .ref bs)]) hx hb dL_law_373 hl (k := 2) rfl (nI_1 _) (by decide) rfl (fun ls hl => ?_)
        refine lv_goto (tgt := 178) hx hb dL_law_376 (by decide) ?_
        refine W.widen (k := C + 50 * (x + 1)) (n := S + 300 * (x + 1)) (by (try dsimp only); omega) (by (try dsimp only); omega) ?_
        exact ih (x + 1) (by omega) u H locs ls (lv_sub hl [0, 3, 4, 5, 6, 7, 8, 9, 10, 11] rfl) hw
set_option maxHeartbeats 40000000 in
set_option maxRecDepth 100000 in
theorem lpw_others {p : Program} {l : Launch} {e : Env} {s : State} {m : MethodId} {args : Array Value} {below : List Frame} {meth : Method} {c : Code} {Q : State → Prop} {G : xG} {A : Nat → Prop} (hst : l.stackTraces = false) {a : Nat → Nat} {aS bs : Nat} {fr x4 : Int32} {D : Int64} {tm : Nat} {ret : Option FieldType} {N : Nat} {B : Int} {z : Nat → Int32} {r : Nat → Nat → Int32} {rs : Int32} {q : Nat → Nat → Int32} {n : Nat} {xn : Nat → Nat} {xr : Nat → Nat → Int32} {nr : Nat} {v : Nat → Int32} {rw : Nat → Nat → Int32} {ak : Nat → Int32} {wl : Nat} {wy : Nat → Nat → Int32} {mp : Nat → Nat → Bool} {mm : Nat → Nat → Nat → Int32} (hc : xC p s m args meth c cL_law 20 RL wsL_law ret G A) (hA0 : cA N B z r rs q n xn xr nr v rw ak wl wy mp mm) {L : List Nat} {f : Nat → va_E} {C S : Nat} (hCS : C ≤ 506000 ∧ S ≤ 5060000) {y : Nat} (hy : y < n) (htm : tm ≤ 12)
    (kx : ∀ (u : cU) (H : Heap) (locs : List Loc) (ls : Array Slot), lv_has ls 20 [(9, .int (nI y)), (8, .int fr), (7, .int (nI n)), (5, .long D), (4, .int x4), (3, .int (nI tm)), (2, .ref aS), (1, .ref (a 0)), (0, .ref bs)] → xW G A s.heap (cW G a z r u ++ va_pl L f) H locs → W p l e ⟨12, 777134, 6770066, 438⟩ s m args below meth c H locs (C + 130) (S + 800) Q (F0 m 576 ls [])) :
    ∀ (d x : Nat), x + d = n → ∀ (u : cU) (H : Heap) (locs : List Loc) (ls : Array Slot), lv_has ls 20 [(10, .int (nI x)), (9, .int (nI y)), (8, .int fr), (7, .int (nI n)), (5, .long D), (4, .int x4), (3, .int (nI tm)), (2, .ref aS), (1, .ref (a 0)), (0, .ref bs)] → xW G A s.heap (cW G a z r u ++ va_pl L f) H locs → W p l e ⟨12, 777134, 6770066, 438⟩ s m args below meth c H locs (C + 13 * x) (S + 80 * x) Q (F0 m 382 ls []) := by
  obtain ⟨hx, hb, -, hown, hts, -⟩ := id hc
  have hH := cA_H hA0
  obtain ⟨hn1, hn2, hn3, hn4, hn5⟩ := cA_n hA0
  have hL := cA_L hA0
  have hM := zI_M hA0.1
  intro d
  induction d with
  | zero =>
    intro x hd u H locs ls hl hw
    refine lv_iload hx hb dL_law_382 (lv_at hl 0 rfl) ?_
    refine lv_iload hx hb dL_law_384 (lv_at hl 3 rfl) ?_
    refine lv_icmp_ge (tgt := 576) hx hb dL_law_386 (by decide) (fun hz => ?_) (fun h => absurd (nI_le (by omega) (by omega)) h)
    exact W.widen (k := C + 130) (n := S + 800) (by (try dsimp only); omega) (by (try dsimp only); omega) (kx u H locs ls (lv_sub hl [1, 2, 3, 4, 5, 6, 7, 8, 9] rfl) hw)
  | succ d ih =>
    intro x hd u H locs ls hl hw
    have hx9 : x < n := by omega
    obtain ⟨d1, ha1, ha2, -, ha4⟩ := a_far hA0 hy hx9
    obtain ⟨d2, hb1, hb2, -, hb4⟩ := a_far hA0 hx9 hy
    have e12 : d1 = d2 := dI_u hL (by omega) (by omega) ha1 hb1
    subst e12
    have e00 : d1 = 0 ↔ y = x := dI_0 hL ha1
    have ex4 := c_x4 hA0 hx9
    have hk : (y + x + tm) % n < n := Nat.mod_lt _ (by omega)
    have emod : (nI y : Int32) + nI x + nI tm - (nI y + nI x + nI tm) / nI n * nI n = nI ((y + x + tm) % n) := by
      rw [nI_add, nI_add]
      exact lmod (by omega) ⟨hn3, hn4⟩
    generalize (y + x + tm) % n = k9 at hk emod
    have hnz : ¬ (nI n : Int32) = 0 := fun h => by
      have h2 := congrArg Int32.toInt h
      rw [nI_toInt (by omega), show (0 : Int32).toInt = 0 from rfl] at h2
      omega
    obtain ⟨d3, hc1, hc2, -, hc4⟩ := a_far hA0 hy hk
    obtain ⟨d4, he1, he2, -, he4⟩ := a_far hA0 hk hx9
    refine lv_iload hx hb dL_law_382 (lv_at hl 0 rfl) ?_
    refine lv_iload hx hb dL_law_384 (lv_at hl 3 rfl) ?_
    refine lv_icmp_ge (tgt := 576) hx hb dL_law_386 (by decide) (fun h => absurd h (nI_ge (by omega) (by omega))) (fun hz => ?_)
    refine lv_aload_n hx hb dL_law_389 rfl (lv_at hl 8 rfl) ?_
    refine lv_iload hx hb dL_law_390 (lv_at hl 1 rfl) ?_
    refine lv_iload hx hb dL_law_392 (lv_at hl 0 rfl) ?_
    refine ccall_i hc hw (crunV (n := 2) (As := [.int (nI y), .int (nI x)]) (rest := []) hc hw (k_distance hst _ a z r u _ _ hH (ha4 u.1).1 (ha4 u.1).2) gL_law_X3_distance rfl (by decide +kernel) ⟨Nat.le_of_ble_eq_true rfl, Nat.le_of_ble_eq_true rfl⟩ 0 rfl rfl rfl rfl hl.1 (Nat.le_of_ble_eq_true rfl) dL_law_394 (by first | exact ⟨Nat.le_of_ble_eq_true rfl, Nat.le_of_ble_eq_true rfl⟩ | (refine ⟨?_, ?_⟩ <;> ((try dsimp only); omega)))) (fun x0 u H locs hp hw => ?_)
    have hx0 : x0 = _ := hp
    subst hx0
    refine lv_istore (lv' := [(11, .int (tD d1)), (10, .int (nI x)), (9, .int (nI y)), (8, .int fr), (7, .int (nI n)), (5, .long D), (4, .int x4), (3, .int (nI tm)), (2, .ref aS), (1, .ref (a 0)), (0, .ref bs)]) hx hb dL_law_397 hl (by decide) rfl (fun ls hl => ?_)
    rcases c_mem hA0 hy hx9 with ⟨m1, m2⟩ | ⟨x9, s9, hx8, m1, hs1, hs2, m2⟩
    · refine lv_aload_n hx hb dL_law_399 rfl (lv_at hl 9 rfl) ?_
      refine lv_iload hx hb dL_law_400 (lv_at hl 2 rfl) ?_
      refine lv_iload hx hb dL_law_402 (lv_at hl 1 rfl) ?_
      refine ccall_i hc hw (crunV (n := 2) (As := [.int (nI y), .int (nI x)]) (rest := []) hc hw (k_remembered hst _ a z r u _ _ (ans := -1) (by rw [l_remembered hL hM (by omega) (by omega), m1])) gL_law_X3_remembered rfl (by decide +kernel) ⟨Nat.le_of_ble_eq_true rfl, Nat.le_of_ble_eq_true rfl⟩ 0 rfl rfl rfl rfl hl.1 (Nat.le_of_ble_eq_true rfl) dL_law_404 (by first | exact ⟨Nat.le_of_ble_eq_true rfl, Nat.le_of_ble_eq_true rfl⟩ | (refine ⟨?_, ?_⟩ <;> ((try dsimp only); omega)))) (fun x0 u H locs hp hw => ?_)
      have hx0 : x0 = _ := hp
      subst hx0
      refine lv_istore (lv' := [(12, .int (-1)), (11, .int (tD d1)), (10, .int (nI x)), (9, .int (nI y)), (8, .int fr), (7, .int (nI n)), (5, .long D), (4, .int x4), (3, .int (nI tm)), (2, .ref aS), (1, .ref (a 0)), (0, .ref bs)]) hx hb dL_law_407 hl (by decide) rfl (fun ls hl => ?_)
      refine lv_aload_n hx hb dL_law_409 rfl (lv_at hl 10 rfl) ?_
      refine lv_iload hx hb dL_law_410 (lv_at hl 3 rfl) ?_
      refine lv_iload hx hb dL_law_412 (lv_at hl 2 rfl) ?_
      refine ccall_i hc hw (crunV (n := 2) (As := [.int (nI y), .int (nI x)]) (rest := []) hc hw (k_strength hst _ a z r u _ _ (ans := 0) (by rw [l_strength hL hM (by omega) (by omega), m2])) gL_law_X3_strength rfl (by decide +kernel) ⟨Nat.le_of_ble_eq_true rfl, Nat.le_of_ble_eq_true rfl⟩ 0 rfl rfl rfl rfl hl.1 (Nat.le_of_ble_eq_true rfl) dL_law_414 (by first | exact ⟨Nat.le_of_ble_eq_true rfl, Nat.le_of_ble_eq_true rfl⟩ | (refine ⟨?_, ?_⟩ <;> ((try dsimp only); omega)))) (fun x0 u H locs hp hw => ?_)
      have hx0 : x0 = _ := hp
      subst hx0
      refine lv_istore (lv' := [(13, .int 0), (12, .int (-1)), (11, .int (tD d1)), (10, .int (nI x)), (9, .int (nI y)), (8, .int fr), (7, .int (nI n)), (5, .long D), (4, .int x4), (3, .int (nI tm)), (2, .ref aS), (1, .ref (a 0)), (0, .ref bs)]) hx hb dL_law_417 hl (by decide) rfl (fun ls hl => ?_)
      refine lv_iload hx hb dL_law_419 (lv_at hl 2 rfl) ?_
      refine lv_aload_n hx hb dL_law_421 rfl (lv_at hl 11 rfl) ?_
      refine lv_iload hx hb dL_law_422 (lv_at hl 3 rfl) ?_
      refine lv_iload hx hb dL_law_424 (lv_at hl 4 rfl) ?_
      refine ccall_i hc hw (crunV (n := 2) (As := [.int (nI x), .int (nI y)]) (rest := [.int (tD d1)]) hc hw (k_distance hst _ a z r u _ _ hH (hb4 u.1).1 (hb4 u.1).2) gL_law_X3_distance rfl (by decide +kernel) ⟨Nat.le_of_ble_eq_true rfl, Nat.le_of_ble_eq_true rfl⟩ 0 rfl rfl rfl rfl hl.1 (Nat.le_of_ble_eq_true rfl) dL_law_426 (by first | exact ⟨Nat.le_of_ble_eq_true rfl, Nat.le_of_ble_eq_true rfl⟩ | (refine ⟨?_, ?_⟩ <;> ((try dsimp only); omega)))) (fun x0 u H locs hp hw => ?_)
      have hx0 : x0 = _ := hp
      subst hx0
      refine lv_icmp_ne (tgt := 509) hx hb dL_law_429 (by decide) (fun h => absurd rfl h) (fun hz1 => ?_)
      refine lv_iload hx hb dL_law_432 (lv_at hl 2 rfl) ?_
      refine lv_if_ne (tgt := 441) hx hb dL_law_434 (by decide) (fun hz2 => ?_) (fun hz2 => ?_)
      · refine lv_iconst (v := 0) hx hb dL_law_441 (by decide) ?_
        refine lv_iload hx hb dL_law_442 (lv_at hl 4 rfl) ?_
        refine lv_iload hx hb dL_law_444 (lv_at hl 3 rfl) ?_
        refine lv_icmp_ne (tgt := 453) hx hb dL_law_446 (by decide) (fun hzp => ?_) (fun h => absurd ((tD_0 ha2).mpr (e00.mpr (nI_inj (by omega) (by omega) h))) hz2)
        refine lv_iconst (v := 0) hx hb dL_law_453 (by decide) ?_
        refine lv_icmp_ne (tgt := 509) hx hb dL_law_454 (by decide) (fun h => absurd rfl h) (fun hz3 => ?_)
        refine lv_iload hx hb dL_law_457 (lv_at hl 1 rfl) ?_
        refine lv_iconst (v := (-1)) hx hb dL_law_459 (by decide) ?_
        refine lv_icmp_lt (tgt := 509) hx hb dL_law_460 (by decide) (fun h => absurd h (by decide)) (fun hz4 => ?_)
        refine lv_iload hx hb dL_law_463 (lv_at hl 1 rfl) ?_
        refine lv_aload_n hx hb dL_law_465 rfl (lv_at hl 11 rfl) ?_
        refine lv_iload hx hb dL_law_466 (lv_at hl 3 rfl) ?_
        refine ccall_i hc hw (crunV (n := 1) (As := [.int (nI x)]) (rest := [.int (-1)]) hc hw (k_exitsOf hst _ a z r u _ hH (ans := nI (xn x)) (by rw [l_exitsOf hL (by omega), c_ex hA0 hx9])) gL_law_X3_exitsOf rfl (by decide +kernel) ⟨Nat.le_of_ble_eq_true rfl, Nat.le_of_ble_eq_true rfl⟩ 0 rfl rfl rfl rfl hl.1 (Nat.le_of_ble_eq_true rfl) dL_law_468 (by first | exact ⟨Nat.le_of_ble_eq_true rfl, Nat.le_of_ble_eq_true rfl⟩ | (refine ⟨?_, ?_⟩ <;> ((try dsimp only); omega)))) (fun x0 u H locs hp hw => ?_)
        have hx0 : x0 = _ := hp
        subst hx0
        refine lv_icmp_ge (tgt := 509) hx hb dL_law_471 (by decide) (fun h => absurd (show ((nI (xn x) : Int32)).toInt ≤ (-1 : Int32).toInt from (xle _ _).mp h) (by rw [nI_toInt (by omega), show (-1 : Int32).toInt = -1 from rfl]; omega)) (fun hz5 => ?_)
        refine lv_iload hx hb dL_law_474 (lv_at hl 0 rfl) ?_
        refine lv_if_lt (tgt := 509) hx hb dL_law_476 (by decide) (fun h => absurd h (by decide)) (fun hz6 => ?_)
        refine lv_iload hx hb dL_law_479 (lv_at hl 0 rfl) ?_
        refine lv_bipush (v := 9) hx hb dL_law_481 (by decide) ?_
        refine lv_icmp_gt (tgt := 509) hx hb dL_law_483 (by decide) (fun h => absurd h (by decide)) (fun hz7 => ?_)
        refine lv_iload hx hb dL_law_486 (lv_at hl 1 rfl) ?_
        refine lv_if_ge (tgt := 495) hx hb dL_law_488 (by decide) (fun h => absurd h (by decide)) (fun hz8 => ?_)
        refine lv_iconst (v := 1) hx hb dL_law_491 (by decide) ?_
        refine lv_goto (tgt := 496) hx hb dL_law_492 (by decide) ?_
        refine lv_iload hx hb dL_law_496 (lv_at hl 0 rfl) ?_
        refine lv_if_ne (tgt := 505) hx hb dL_law_498 (by decide) (fun h => absurd rfl h) (fun hz9 => ?_)
        refine lv_iconst (v := 1) hx hb dL_law_501 (by decide) ?_
        refine lv_goto (tgt := 506) hx hb dL_law_502 (by decide) ?_
        refine lv_icmp_eq (tgt := 511) hx hb dL_law_506 (by decide) (fun hzA => ?_) (fun h => absurd rfl h)
        refine lv_iload hx hb dL_law_511 (lv_at hl 4 rfl) ?_
        refine lv_iload hx hb dL_law_513 (lv_at hl 3 rfl) ?_
        refine lv_iadd hx hb dL_law_515 ?_
        refine lv_iload_n hx hb dL_law_516 rfl (lv_at hl 9 rfl) ?_
        refine lv_iadd hx hb dL_law_517 ?_
        refine lv_iload hx hb dL_law_518 (lv_at hl 6 rfl) ?_
        refine lv_irem hx hb dL_law_520 (hnz) ?_
        rw [emod]
        refine lv_istore (lv' := [(14, .int (nI k9)), (13, .int 0), (12, .int (-1)), (11, .int (tD d1)), (10, .int (nI x)), (9, .int (nI y)), (8, .int fr), (7, .int (nI n)), (5, .long D), (4, .int x4), (3, .int (nI tm)), (2, .ref aS), (1, .ref (a 0)), (0, .ref bs)]) hx hb dL_law_521 hl (by decide) rfl (fun ls hl => ?_)
        refine lv_aload_n hx hb dL_law_523 rfl (lv_at hl 12 rfl) ?_
        refine lv_iload hx hb dL_law_524 (lv_at hl 5 rfl) ?_
        refine lv_iload hx hb dL_law_526 (lv_at hl 0 rfl) ?_
        refine ccall_i hc hw (crunV (n := 2) (As := [.int (nI y), .int (nI k9)]) (rest := []) hc hw (k_distance hst _ a z r u _ _ hH (hc4 u.1).1 (hc4 u.1).2) gL_law_X3_distance rfl (by decide +kernel) ⟨Nat.le_of_ble_eq_true rfl, Nat.le_of_ble_eq_true rfl⟩ 0 rfl rfl rfl rfl hl.1 (Nat.le_of_ble_eq_true rfl) dL_law_528 (by first | exact ⟨Nat.le_of_ble_eq_true rfl, Nat.le_of_ble_eq_true rfl⟩ | (refine ⟨?_, ?_⟩ <;> ((try dsimp only); omega)))) (fun x0 u H locs hp hw => ?_)
        have hx0 : x0 = _ := hp
        subst hx0
        refine lv_istore (lv' := [(15, .int (tD d3)), (14, .int (nI k9)), (13, .int 0), (12, .int (-1)), (11, .int (tD d1)), (10, .int (nI x)), (9, .int (nI y)), (8, .int fr), (7, .int (nI n)), (5, .long D), (4, .int x4), (3, .int (nI tm)), (2, .ref aS), (1, .ref (a 0)), (0, .ref bs)]) hx hb dL_law_531 hl (by decide) rfl (fun ls hl => ?_)
        refine lv_aload_n hx hb dL_law_533 rfl (lv_at hl 13 rfl) ?_
        refine lv_iload hx hb dL_law_534 (lv_at hl 1 rfl) ?_
        refine lv_iload hx hb dL_law_536 (lv_at hl 5 rfl) ?_
        refine ccall_i hc hw (crunV (n := 2) (As := [.int (nI k9), .int (nI x)]) (rest := []) hc hw (k_distance hst _ a z r u _ _ hH (he4 u.1).1 (he4 u.1).2) gL_law_X3_distance rfl (by decide +kernel) ⟨Nat.le_of_ble_eq_true rfl, Nat.le_of_ble_eq_true rfl⟩ 0 rfl rfl rfl rfl hl.1 (Nat.le_of_ble_eq_true rfl) dL_law_538 (by first | exact ⟨Nat.le_of_ble_eq_true rfl, Nat.le_of_ble_eq_true rfl⟩ | (refine ⟨?_, ?_⟩ <;> ((try dsimp only); omega)))) (fun x0 u H locs hp hw => ?_)
        have hx0 : x0 = _ := hp
        subst hx0
        refine lv_istore (lv' := [(16, .int (tD d4)), (15, .int (tD d3)), (14, .int (nI k9)), (13, .int 0), (12, .int (-1)), (11, .int (tD d1)), (10, .int (nI x)), (9, .int (nI y)), (8, .int fr), (7, .int (nI n)), (5, .long D), (4, .int x4), (3, .int (nI tm)), (2, .ref aS), (1, .ref (a 0)), (0, .ref bs)]) hx hb dL_law_541 hl (by decide) rfl (fun ls hl => ?_)
        refine lv_iload hx hb dL_law_543 (lv_at hl 1 rfl) ?_
        refine lv_if_lt (tgt := 570) hx hb dL_law_545 (by decide) (fun hzB => ?_) (fun hzB => ?_)
        · refine lv_iinc (v := nI (x + 1)) (lv' := [(10, .int (nI (x + 1))), (16, .int (tD d4)), (15, .int (tD d3)), (14, .int (nI k9)), (13, .int 0), (12, .int (-1)), (11, .int (tD d1)), (9, .int (nI y)), (8, .int fr), (7, .int (nI n)), (5, .long D), (4, .int x4), (3, .int (nI tm)), (2, .ref aS), (1, .ref (a 0)), (0, .ref bs)]) hx hb dL_law_570 hl (k := 6) rfl (nI_1 _) (by decide) rfl (fun ls hl => ?_)
          refine lv_goto (tgt := 382) hx hb dL_law_573 (by decide) ?_
          refine W.widen (k := C + 13 * (x + 1)) (n := S + 80 * (x + 1)) (by (try dsimp only); omega) (by (try dsimp only); omega) ?_
          exact ih (x + 1) (by omega) u H locs ls (lv_sub hl [0, 7, 8, 9, 10, 11, 12, 13, 14, 15] rfl) hw
        · refine lv_iload hx hb dL_law_548 (lv_at hl 0 rfl) ?_
          refine lv_if_lt (tgt := 570) hx hb dL_law_550 (by decide) (fun hzC => ?_) (fun hzC => ?_)
          · refine lv_iinc (v := nI (x + 1)) (lv' := [(10, .int (nI (x + 1))), (16, .int (tD d4)), (15, .int (tD d3)), (14, .int (nI k9)), (13, .int 0), (12, .int (-1)), (11, .int (tD d1)), (9, .int (nI y)), (8, .int fr), (7, .int (nI n)), (5, .long D), (4, .int x4), (3, .int (nI tm)), (2, .ref aS), (1, .ref (a 0)), (0, .ref bs)]) hx hb dL_law_570 hl (k := 6) rfl (nI_1 _) (by decide) rfl (fun ls hl => ?_)
            refine lv_goto (tgt := 382) hx hb dL_law_573 (by decide) ?_
            refine W.widen (k := C + 13 * (x + 1)) (n := S + 80 * (x + 1)) (by (try dsimp only); omega) (by (try dsimp only); omega) ?_
            exact ih (x + 1) (by omega) u H locs ls (lv_sub hl [0, 7, 8, 9, 10, 11, 12, 13, 14, 15] rfl) hw
          · have g3 : d3 ≤ 9990 ∧ tD d3 = nI d3 := by
              rcases tD_lt hc2 with ⟨-, h⟩ | ⟨h1, h2, -⟩
              · rw [h] at hzB; exact absurd (by decide) hzB
              · exact ⟨h1, h2⟩
            have g4 : d4 ≤ 9990 ∧ tD d4 = nI d4 := by
              rcases tD_lt he2 with ⟨-, h⟩ | ⟨h1, h2, -⟩
              · rw [h] at hzC; exact absurd (by decide) hzC
              · exact ⟨h1, h2⟩
            have g1 := c_tri hA0 hc1 he1 ha1 g3.1 g4.1 ha2
            have g2 : tD d1 = nI d1 := by unfold tD; rw [if_neg (by omega)]
            refine lv_iload hx hb dL_law_553 (lv_at hl 5 rfl) ?_
            refine lv_if_lt (tgt := 568) hx hb dL_law_555 (by decide) (fun h => absurd ((xltI _ _).mp h) (by rw [g2, nI_toInt (by omega), show (0 : Int32).toInt = 0 from rfl]; omega)) (fun hzD => ?_)
            refine lv_iload hx hb dL_law_558 (lv_at hl 5 rfl) ?_
            refine lv_iload hx hb dL_law_560 (lv_at hl 1 rfl) ?_
            refine lv_iload hx hb dL_law_562 (lv_at hl 0 rfl) ?_
            refine lv_iadd hx hb dL_law_564 ?_
            refine lv_icmp_le (tgt := 570) hx hb dL_law_565 (by decide) (fun hzE => ?_) (fun h => absurd (show tD d1 ≤ tD d3 + tD d4 by rw [g2, g3.2, g4.2, nI_add]; exact nI_le g1.2 (by omega)) h)
            refine lv_iinc (v := nI (x + 1)) (lv' := [(10, .int (nI (x + 1))), (16, .int (tD d4)), (15, .int (tD d3)), (14, .int (nI k9)), (13, .int 0), (12, .int (-1)), (11, .int (tD d1)), (9, .int (nI y)), (8, .int fr), (7, .int (nI n)), (5, .long D), (4, .int x4), (3, .int (nI tm)), (2, .ref aS), (1, .ref (a 0)), (0, .ref bs)]) hx hb dL_law_570 hl (k := 6) rfl (nI_1 _) (by decide) rfl (fun ls hl => ?_)
            refine lv_goto (tgt := 382) hx hb dL_law_573 (by decide) ?_
            refine W.widen (k := C + 13 * (x + 1)) (n := S + 80 * (x + 1)) (by (try dsimp only); omega) (by (try dsimp only); omega) ?_
            exact ih (x + 1) (by omega) u H locs ls (lv_sub hl [0, 7, 8, 9, 10, 11, 12, 13, 14, 15] rfl) hw
      · refine lv_iconst (v := 1) hx hb dL_law_437 (by decide) ?_
        refine lv_goto (tgt := 442) hx hb dL_law_438 (by decide) ?_
        refine lv_iload hx hb dL_law_442 (lv_at hl 4 rfl) ?_
        refine lv_iload hx hb dL_law_444 (lv_at hl 3 rfl) ?_
        refine lv_icmp_ne (tgt := 453) hx hb dL_law_446 (by decide) (fun h => absurd (congrArg nI (e00.mp ((tD_0 ha2).mp hz2))) h) (fun hzp => ?_)
        refine lv_iconst (v := 1) hx hb dL_law_449 (by decide) ?_
        refine lv_goto (tgt := 454) hx hb dL_law_450 (by decide) ?_
        refine lv_icmp_ne (tgt := 509) hx hb dL_law_454 (by decide) (fun h => absurd rfl h) (fun hz3 => ?_)
        refine lv_iload hx hb dL_law_457 (lv_at hl 1 rfl) ?_
        refine lv_iconst (v := (-1)) hx hb dL_law_459 (by decide) ?_
        refine lv_icmp_lt (tgt := 509) hx hb dL_law_460 (by decide) (fun h => absurd h (by decide)) (fun hz4 => ?_)
        refine lv_iload hx hb dL_law_463 (lv_at hl 1 rfl) ?_
        refine lv_aload_n hx hb dL_law_465 rfl (lv_at hl 11 rfl) ?_
        refine lv_iload hx hb dL_law_466 (lv_at hl 3 rfl) ?_
        refine ccall_i hc hw (crunV (n := 1) (As := [.int (nI x)]) (rest := [.int (-1)]) hc hw (k_exitsOf hst _ a z r u _ hH (ans := nI (xn x)) (by rw [l_exitsOf hL (by omega), c_ex hA0 hx9])) gL_law_X3_exitsOf rfl (by decide +kernel) ⟨Nat.le_of_ble_eq_true rfl, Nat.le_of_ble_eq_true rfl⟩ 0 rfl rfl rfl rfl hl.1 (Nat.le_of_ble_eq_true rfl) dL_law_468 (by first | exact ⟨Nat.le_of_ble_eq_true rfl, Nat.le_of_ble_eq_true rfl⟩ | (refine ⟨?_, ?_⟩ <;> ((try dsimp only); omega)))) (fun x0 u H locs hp hw => ?_)
        have hx0 : x0 = _ := hp
        subst hx0
        refine lv_icmp_ge (tgt := 509) hx hb dL_law_471 (by decide) (fun h => absurd (show ((nI (xn x) : Int32)).toInt ≤ (-1 : Int32).toInt from (xle _ _).mp h) (by rw [nI_toInt (by omega), show (-1 : Int32).toInt = -1 from rfl]; omega)) (fun hz5 => ?_)
        refine lv_iload hx hb dL_law_474 (lv_at hl 0 rfl) ?_
        refine lv_if_lt (tgt := 509) hx hb dL_law_476 (by decide) (fun h => absurd h (by decide)) (fun hz6 => ?_)
        refine lv_iload hx hb dL_law_479 (lv_at hl 0 rfl) ?_
        refine lv_bipush (v := 9) hx hb dL_law_481 (by decide) ?_
        refine lv_icmp_gt (tgt := 509) hx hb dL_law_483 (by decide) (fun h => absurd h (by decide)) (fun hz7 => ?_)
        refine lv_iload hx hb dL_law_486 (lv_at hl 1 rfl) ?_
        refine lv_if_ge (tgt := 495) hx hb dL_law_488 (by decide) (fun h => absurd h (by decide)) (fun hz8 => ?_)
        refine lv_iconst (v := 1) hx hb dL_law_491 (by decide) ?_
        refine lv_goto (tgt := 496) hx hb dL_law_492 (by decide) ?_
        refine lv_iload hx hb dL_law_496 (lv_at hl 0 rfl) ?_
        refine lv_if_ne (tgt := 505) hx hb dL_law_498 (by decide) (fun h => absurd rfl h) (fun hz9 => ?_)
        refine lv_iconst (v := 1) hx hb dL_law_501 (by decide) ?_
        refine lv_goto (tgt := 506) hx hb dL_law_502 (by decide) ?_
        refine lv_icmp_eq (tgt := 511) hx hb dL_law_506 (by decide) (fun hzA => ?_) (fun h => absurd rfl h)
        refine lv_iload hx hb dL_law_511 (lv_at hl 4 rfl) ?_
        refine lv_iload hx hb dL_law_513 (lv_at hl 3 rfl) ?_
        refine lv_iadd hx hb dL_law_515 ?_
        refine lv_iload_n hx hb dL_law_516 rfl (lv_at hl 9 rfl) ?_
        refine lv_iadd hx hb dL_law_517 ?_
        refine lv_iload hx hb dL_law_518 (lv_at hl 6 rfl) ?_
        refine lv_irem hx hb dL_law_520 (hnz) ?_
        rw [emod]
        refine lv_istore (lv' := [(14, .int (nI k9)), (13, .int 0), (12, .int (-1)), (11, .int (tD d1)), (10, .int (nI x)), (9, .int (nI y)), (8, .int fr), (7, .int (nI n)), (5, .long D), (4, .int x4), (3, .int (nI tm)), (2, .ref aS), (1, .ref (a 0)), (0, .ref bs)]) hx hb dL_law_521 hl (by decide) rfl (fun ls hl => ?_)
        refine lv_aload_n hx hb dL_law_523 rfl (lv_at hl 12 rfl) ?_
        refine lv_iload hx hb dL_law_524 (lv_at hl 5 rfl) ?_
        refine lv_iload hx hb dL_law_526 (lv_at hl 0 rfl) ?_
        refine ccall_i hc hw (crunV (n := 2) (As := [.int (nI y), .int (nI k9)]) (rest := []) hc hw (k_distance hst _ a z r u _ _ hH (hc4 u.1).1 (hc4 u.1).2) gL_law_X3_distance rfl (by decide +kernel) ⟨Nat.le_of_ble_eq_true rfl, Nat.le_of_ble_eq_true rfl⟩ 0 rfl rfl rfl rfl hl.1 (Nat.le_of_ble_eq_true rfl) dL_law_528 (by first | exact ⟨Nat.le_of_ble_eq_true rfl, Nat.le_of_ble_eq_true rfl⟩ | (refine ⟨?_, ?_⟩ <;> ((try dsimp only); omega)))) (fun x0 u H locs hp hw => ?_)
        have hx0 : x0 = _ := hp
        subst hx0
        refine lv_istore (lv' := [(15, .int (tD d3)), (14, .int (nI k9)), (13, .int 0), (12, .int (-1)), (11, .int (tD d1)), (10, .int (nI x)), (9, .int (nI y)), (8, .int fr), (7, .int (nI n)), (5, .long D), (4, .int x4), (3, .int (nI tm)), (2, .ref aS), (1, .ref (a 0)), (0, .ref bs)]) hx hb dL_law_531 hl (by decide) rfl (fun ls hl => ?_)
        refine lv_aload_n hx hb dL_law_533 rfl (lv_at hl 13 rfl) ?_
        refine lv_iload hx hb dL_law_534 (lv_at hl 1 rfl) ?_
        refine lv_iload hx hb dL_law_536 (lv_at hl 5 rfl) ?_
        refine ccall_i hc hw (crunV (n := 2) (As := [.int (nI k9), .int (nI x)]) (rest := []) hc hw (k_distance hst _ a z r u _ _ hH (he4 u.1).1 (he4 u.1).2) gL_law_X3_distance rfl (by decide +kernel) ⟨Nat.le_of_ble_eq_true rfl, Nat.le_of_ble_eq_true rfl⟩ 0 rfl rfl rfl rfl hl.1 (Nat.le_of_ble_eq_true rfl) dL_law_538 (by first | exact ⟨Nat.le_of_ble_eq_true rfl, Nat.le_of_ble_eq_true rfl⟩ | (refine ⟨?_, ?_⟩ <;> ((try dsimp only); omega)))) (fun x0 u H locs hp hw => ?_)
        have hx0 : x0 = _ := hp
        subst hx0
        refine lv_istore (lv' := [(16, .int (tD d4)), (15, .int (tD d3)), (14, .int (nI k9)), (13, .int 0), (12, .int (-1)), (11, .int (tD d1)), (10, .int (nI x)), (9, .int (nI y)), (8, .int fr), (7, .int (nI n)), (5, .long D), (4, .int x4), (3, .int (nI tm)), (2, .ref aS), (1, .ref (a 0)), (0, .ref bs)]) hx hb dL_law_541 hl (by decide) rfl (fun ls hl => ?_)
        refine lv_iload hx hb dL_law_543 (lv_at hl 1 rfl) ?_
        refine lv_if_lt (tgt := 570) hx hb dL_law_545 (by decide) (fun hzB => ?_) (fun hzB => ?_)
        · refine lv_iinc (v := nI (x + 1)) (lv' := [(10, .int (nI (x + 1))), (16, .int (tD d4)), (15, .int (tD d3)), (14, .int (nI k9)), (13, .int 0), (12, .int (-1)), (11, .int (tD d1)), (9, .int (nI y)), (8, .int fr), (7, .int (nI n)), (5, .long D), (4, .int x4), (3, .int (nI tm)), (2, .ref aS), (1, .ref (a 0)), (0, .ref bs)]) hx hb dL_law_570 hl (k := 6) rfl (nI_1 _) (by decide) rfl (fun ls hl => ?_)
          refine lv_goto (tgt := 382) hx hb dL_law_573 (by decide) ?_
          refine W.widen (k := C + 13 * (x + 1)) (n := S + 80 * (x + 1)) (by (try dsimp only); omega) (by (try dsimp only); omega) ?_
          exact ih (x + 1) (by omega) u H locs ls (lv_sub hl [0, 7, 8, 9, 10, 11, 12, 13, 14, 15] rfl) hw
        · refine lv_iload hx hb dL_law_548 (lv_at hl 0 rfl) ?_
          refine lv_if_lt (tgt := 570) hx hb dL_law_550 (by decide) (fun hzC => ?_) (fun hzC => ?_)
          · refine lv_iinc (v := nI (x + 1)) (lv' := [(10, .int (nI (x + 1))), (16, .int (tD d4)), (15, .int (tD d3)), (14, .int (nI k9)), (13, .int 0), (12, .int (-1)), (11, .int (tD d1)), (9, .int (nI y)), (8, .int fr), (7, .int (nI n)), (5, .long D), (4, .int x4), (3, .int (nI tm)), (2, .ref aS), (1, .ref (a 0)), (0, .ref bs)]) hx hb dL_law_570 hl (k := 6) rfl (nI_1 _) (by decide) rfl (fun ls hl => ?_)
            refine lv_goto (tgt := 382) hx hb dL_law_573 (by decide) ?_
            refine W.widen (k := C + 13 * (x + 1)) (n := S + 80 * (x + 1)) (by (try dsimp only); omega) (by (try dsimp only); omega) ?_
            exact ih (x + 1) (by omega) u H locs ls (lv_sub hl [0, 7, 8, 9, 10, 11, 12, 13, 14, 15] rfl) hw
          · have g3 : d3 ≤ 9990 ∧ tD d3 = nI d3 := by
              rcases tD_lt hc2 with ⟨-, h⟩ | ⟨h1, h2, -⟩
              · rw [h] at hzB; exact absurd (by decide) hzB
              · exact ⟨h1, h2⟩
            have g4 : d4 ≤ 9990 ∧ tD d4 = nI d4 := by
              rcases tD_lt he2 with ⟨-, h⟩ | ⟨h1, h2, -⟩
              · rw [h] at hzC; exact absurd (by decide) hzC
              · exact ⟨h1, h2⟩
            have g1 := c_tri hA0 hc1 he1 ha1 g3.1 g4.1 ha2
            have g2 : tD d1 = nI d1 := by unfold tD; rw [if_neg (by omega)]
            refine lv_iload hx hb dL_law_553 (lv_at hl 5 rfl) ?_
            refine lv_if_lt (tgt := 568) hx hb dL_law_555 (by decide) (fun h => absurd ((xltI _ _).mp h) (by rw [g2, nI_toInt (by omega), show (0 : Int32).toInt = 0 from rfl]; omega)) (fun hzD => ?_)
            refine lv_iload hx hb dL_law_558 (lv_at hl 5 rfl) ?_
            refine lv_iload hx hb dL_law_560 (lv_at hl 1 rfl) ?_
            refine lv_iload hx hb dL_law_562 (lv_at hl 0 rfl) ?_
            refine lv_iadd hx hb dL_law_564 ?_
            refine lv_icmp_le (tgt := 570) hx hb dL_law_565 (by decide) (fun hzE => ?_) (fun h => absurd (show tD d1 ≤ tD d3 + tD d4 by rw [g2, g3.2, g4.2, nI_add]; exact nI_le g1.2 (by omega)) h)
            refine lv_iinc (v := nI (x + 1)) (lv' := [(10, .int (nI (x + 1))), (16, .int (tD d4)), (15, .int (tD d3)), (14, .int (nI k9)), (13, .int 0), (12, .int (-1)), (11, .int (tD d1)), (9, .int (nI y)), (8, .int fr), (7, .int (nI n)), (5, .long D), (4, .int x4), (3, .int (nI tm)), (2, .ref aS), (1, .ref (a 0)), (0, .ref bs)]) hx hb dL_law_570 hl (k := 6) rfl (nI_1 _) (by decide) rfl (fun ls hl => ?_)
            refine lv_goto (tgt := 382) hx hb dL_law_573 (by decide) ?_
            refine W.widen (k := C + 13 * (x + 1)) (n := S + 80 * (x + 1)) (by (try dsimp only); omega) (by (try dsimp only); omega) ?_
            exact ih (x + 1) (by omega) u H locs ls (lv_sub hl [0, 7, 8, 9, 10, 11, 12, 13, 14, 15] rfl) hw
    · refine lv_aload_n hx hb dL_law_399 rfl (lv_at hl 9 rfl) ?_
      refine lv_iload hx hb dL_law_400 (lv_at hl 2 rfl) ?_
      refine lv_iload hx hb dL_law_402 (lv_at hl 1 rfl) ?_
      refine ccall_i hc hw (crunV (n := 2) (As := [.int (nI y), .int (nI x)]) (rest := []) hc hw (k_remembered hst _ a z r u _ _ (ans := nI x9) (by rw [l_remembered hL hM (by omega) (by omega), m1])) gL_law_X3_remembered rfl (by decide +kernel) ⟨Nat.le_of_ble_eq_true rfl, Nat.le_of_ble_eq_true rfl⟩ 0 rfl rfl rfl rfl hl.1 (Nat.le_of_ble_eq_true rfl) dL_law_404 (by first | exact ⟨Nat.le_of_ble_eq_true rfl, Nat.le_of_ble_eq_true rfl⟩ | (refine ⟨?_, ?_⟩ <;> ((try dsimp only); omega)))) (fun x0 u H locs hp hw => ?_)
      have hx0 : x0 = _ := hp
      subst hx0
      refine lv_istore (lv' := [(12, .int (nI x9)), (11, .int (tD d1)), (10, .int (nI x)), (9, .int (nI y)), (8, .int fr), (7, .int (nI n)), (5, .long D), (4, .int x4), (3, .int (nI tm)), (2, .ref aS), (1, .ref (a 0)), (0, .ref bs)]) hx hb dL_law_407 hl (by decide) rfl (fun ls hl => ?_)
      refine lv_aload_n hx hb dL_law_409 rfl (lv_at hl 10 rfl) ?_
      refine lv_iload hx hb dL_law_410 (lv_at hl 3 rfl) ?_
      refine lv_iload hx hb dL_law_412 (lv_at hl 2 rfl) ?_
      refine ccall_i hc hw (crunV (n := 2) (As := [.int (nI y), .int (nI x)]) (rest := []) hc hw (k_strength hst _ a z r u _ _ (ans := nI s9) (by rw [l_strength hL hM (by omega) (by omega), m2])) gL_law_X3_strength rfl (by decide +kernel) ⟨Nat.le_of_ble_eq_true rfl, Nat.le_of_ble_eq_true rfl⟩ 0 rfl rfl rfl rfl hl.1 (Nat.le_of_ble_eq_true rfl) dL_law_414 (by first | exact ⟨Nat.le_of_ble_eq_true rfl, Nat.le_of_ble_eq_true rfl⟩ | (refine ⟨?_, ?_⟩ <;> ((try dsimp only); omega)))) (fun x0 u H locs hp hw => ?_)
      have hx0 : x0 = _ := hp
      subst hx0
      refine lv_istore (lv' := [(13, .int (nI s9)), (12, .int (nI x9)), (11, .int (tD d1)), (10, .int (nI x)), (9, .int (nI y)), (8, .int fr), (7, .int (nI n)), (5, .long D), (4, .int x4), (3, .int (nI tm)), (2, .ref aS), (1, .ref (a 0)), (0, .ref bs)]) hx hb dL_law_417 hl (by decide) rfl (fun ls hl => ?_)
      refine lv_iload hx hb dL_law_419 (lv_at hl 2 rfl) ?_
      refine lv_aload_n hx hb dL_law_421 rfl (lv_at hl 11 rfl) ?_
      refine lv_iload hx hb dL_law_422 (lv_at hl 3 rfl) ?_
      refine lv_iload hx hb dL_law_424 (lv_at hl 4 rfl) ?_
      refine ccall_i hc hw (crunV (n := 2) (As := [.int (nI x), .int (nI y)]) (rest := [.int (tD d1)]) hc hw (k_distance hst _ a z r u _ _ hH (hb4 u.1).1 (hb4 u.1).2) gL_law_X3_distance rfl (by decide +kernel) ⟨Nat.le_of_ble_eq_true rfl, Nat.le_of_ble_eq_true rfl⟩ 0 rfl rfl rfl rfl hl.1 (Nat.le_of_ble_eq_true rfl) dL_law_426 (by first | exact ⟨Nat.le_of_ble_eq_true rfl, Nat.le_of_ble_eq_true rfl⟩ | (refine ⟨?_, ?_⟩ <;> ((try dsimp only); omega)))) (fun x0 u H locs hp hw => ?_)
      have hx0 : x0 = _ := hp
      subst hx0
      refine lv_icmp_ne (tgt := 509) hx hb dL_law_429 (by decide) (fun h => absurd rfl h) (fun hz1 => ?_)
      refine lv_iload hx hb dL_law_432 (lv_at hl 2 rfl) ?_
      refine lv_if_ne (tgt := 441) hx hb dL_law_434 (by decide) (fun hz2 => ?_) (fun hz2 => ?_)
      · refine lv_iconst (v := 0) hx hb dL_law_441 (by decide) ?_
        refine lv_iload hx hb dL_law_442 (lv_at hl 4 rfl) ?_
        refine lv_iload hx hb dL_law_444 (lv_at hl 3 rfl) ?_
        refine lv_icmp_ne (tgt := 453) hx hb dL_law_446 (by decide) (fun hzp => ?_) (fun h => absurd ((tD_0 ha2).mpr (e00.mpr (nI_inj (by omega) (by omega) h))) hz2)
        refine lv_iconst (v := 0) hx hb dL_law_453 (by decide) ?_
        refine lv_icmp_ne (tgt := 509) hx hb dL_law_454 (by decide) (fun h => absurd rfl h) (fun hz3 => ?_)
        refine lv_iload hx hb dL_law_457 (lv_at hl 1 rfl) ?_
        refine lv_iconst (v := (-1)) hx hb dL_law_459 (by decide) ?_
        refine lv_icmp_lt (tgt := 509) hx hb dL_law_460 (by decide) (fun h => absurd ((xltI _ _).mp h) (by rw [nI_toInt (by omega), show (-1 : Int32).toInt = -1 from rfl]; omega)) (fun hz4 => ?_)
        refine lv_iload hx hb dL_law_463 (lv_at hl 1 rfl) ?_
        refine lv_aload_n hx hb dL_law_465 rfl (lv_at hl 11 rfl) ?_
        refine lv_iload hx hb dL_law_466 (lv_at hl 3 rfl) ?_
        refine ccall_i hc hw (crunV (n := 1) (As := [.int (nI x)]) (rest := [.int (nI x9)]) hc hw (k_exitsOf hst _ a z r u _ hH (ans := nI (xn x)) (by rw [l_exitsOf hL (by omega), c_ex hA0 hx9])) gL_law_X3_exitsOf rfl (by decide +kernel) ⟨Nat.le_of_ble_eq_true rfl, Nat.le_of_ble_eq_true rfl⟩ 0 rfl rfl rfl rfl hl.1 (Nat.le_of_ble_eq_true rfl) dL_law_468 (by first | exact ⟨Nat.le_of_ble_eq_true rfl, Nat.le_of_ble_eq_true rfl⟩ | (refine ⟨?_, ?_⟩ <;> ((try dsimp only); omega)))) (fun x0 u H locs hp hw => ?_)
        have hx0 : x0 = _ := hp
        subst hx0
        refine lv_icmp_ge (tgt := 509) hx hb dL_law_471 (by decide) (fun h => absurd ((xle _ _).mp h) (by rw [nI_toInt (by omega), nI_toInt (by omega)]; omega)) (fun hz5 => ?_)
        refine lv_iload hx hb dL_law_474 (lv_at hl 0 rfl) ?_
        refine lv_if_lt (tgt := 509) hx hb dL_law_476 (by decide) (fun h => absurd ((xltI _ _).mp h) (by rw [nI_toInt (by omega), show (0 : Int32).toInt = 0 from rfl]; omega)) (fun hz6 => ?_)
        refine lv_iload hx hb dL_law_479 (lv_at hl 0 rfl) ?_
        refine lv_bipush (v := 9) hx hb dL_law_481 (by decide) ?_
        refine lv_icmp_gt (tgt := 509) hx hb dL_law_483 (by decide) (fun h => absurd ((xltI _ _).mp h) (by rw [nI_toInt (by omega), show (9 : Int32).toInt = 9 from rfl]; omega)) (fun hz7 => ?_)
        refine lv_iload hx hb dL_law_486 (lv_at hl 1 rfl) ?_
        refine lv_if_ge (tgt := 495) hx hb dL_law_488 (by decide) (fun hz8 => ?_) (fun h => absurd (show (0 : Int32) ≤ nI x9 by rw [xle, nI_toInt (by omega), show (0 : Int32).toInt = 0 from rfl]; omega) h)
        refine lv_iconst (v := 0) hx hb dL_law_495 (by decide) ?_
        refine lv_iload hx hb dL_law_496 (lv_at hl 0 rfl) ?_
        refine lv_if_ne (tgt := 505) hx hb dL_law_498 (by decide) (fun hz9 => ?_) (fun h => absurd h (fun h9 => by have h8 := congrArg Int32.toInt h9; rw [nI_toInt (by omega), show (0 : Int32).toInt = 0 from rfl] at h8; omega))
        refine lv_iconst (v := 0) hx hb dL_law_505 (by decide) ?_
        refine lv_icmp_eq (tgt := 511) hx hb dL_law_506 (by decide) (fun hzA => ?_) (fun h => absurd rfl h)
        refine lv_iload hx hb dL_law_511 (lv_at hl 4 rfl) ?_
        refine lv_iload hx hb dL_law_513 (lv_at hl 3 rfl) ?_
        refine lv_iadd hx hb dL_law_515 ?_
        refine lv_iload_n hx hb dL_law_516 rfl (lv_at hl 9 rfl) ?_
        refine lv_iadd hx hb dL_law_517 ?_
        refine lv_iload hx hb dL_law_518 (lv_at hl 6 rfl) ?_
        refine lv_irem hx hb dL_law_520 (hnz) ?_
        rw [emod]
        refine lv_istore (lv' := [(14, .int (nI k9)), (13, .int (nI s9)), (12, .int (nI x9)), (11, .int (tD d1)), (10, .int (nI x)), (9, .int (nI y)), (8, .int fr), (7, .int (nI n)), (5, .long D), (4, .int x4), (3, .int (nI tm)), (2, .ref aS), (1, .ref (a 0)), (0, .ref bs)]) hx hb dL_law_521 hl (by decide) rfl (fun ls hl => ?_)
        refine lv_aload_n hx hb dL_law_523 rfl (lv_at hl 12 rfl) ?_
        refine lv_iload hx hb dL_law_524 (lv_at hl 5 rfl) ?_
        refine lv_iload hx hb dL_law_526 (lv_at hl 0 rfl) ?_
        refine ccall_i hc hw (crunV (n := 2) (As := [.int (nI y), .int (nI k9)]) (rest := []) hc hw (k_distance hst _ a z r u _ _ hH (hc4 u.1).1 (hc4 u.1).2) gL_law_X3_distance rfl (by decide +kernel) ⟨Nat.le_of_ble_eq_true rfl, Nat.le_of_ble_eq_true rfl⟩ 0 rfl rfl rfl rfl hl.1 (Nat.le_of_ble_eq_true rfl) dL_law_528 (by first | exact ⟨Nat.le_of_ble_eq_true rfl, Nat.le_of_ble_eq_true rfl⟩ | (refine ⟨?_, ?_⟩ <;> ((try dsimp only); omega)))) (fun x0 u H locs hp hw => ?_)
        have hx0 : x0 = _ := hp
        subst hx0
        refine lv_istore (lv' := [(15, .int (tD d3)), (14, .int (nI k9)), (13, .int (nI s9)), (12, .int (nI x9)), (11, .int (tD d1)), (10, .int (nI x)), (9, .int (nI y)), (8, .int fr), (7, .int (nI n)), (5, .long D), (4, .int x4), (3, .int (nI tm)), (2, .ref aS), (1, .ref (a 0)), (0, .ref bs)]) hx hb dL_law_531 hl (by decide) rfl (fun ls hl => ?_)
        refine lv_aload_n hx hb dL_law_533 rfl (lv_at hl 13 rfl) ?_
        refine lv_iload hx hb dL_law_534 (lv_at hl 1 rfl) ?_
        refine lv_iload hx hb dL_law_536 (lv_at hl 5 rfl) ?_
        refine ccall_i hc hw (crunV (n := 2) (As := [.int (nI k9), .int (nI x)]) (rest := []) hc hw (k_distance hst _ a z r u _ _ hH (he4 u.1).1 (he4 u.1).2) gL_law_X3_distance rfl (by decide +kernel) ⟨Nat.le_of_ble_eq_true rfl, Nat.le_of_ble_eq_true rfl⟩ 0 rfl rfl rfl rfl hl.1 (Nat.le_of_ble_eq_true rfl) dL_law_538 (by first | exact ⟨Nat.le_of_ble_eq_true rfl, Nat.le_of_ble_eq_true rfl⟩ | (refine ⟨?_, ?_⟩ <;> ((try dsimp only); omega)))) (fun x0 u H locs hp hw => ?_)
        have hx0 : x0 = _ := hp
        subst hx0
        refine lv_istore (lv' := [(16, .int (tD d4)), (15, .int (tD d3)), (14, .int (nI k9)), (13, .int (nI s9)), (12, .int (nI x9)), (11, .int (tD d1)), (10, .int (nI x)), (9, .int (nI y)), (8, .int fr), (7, .int (nI n)), (5, .long D), (4, .int x4), (3, .int (nI tm)), (2, .ref aS), (1, .ref (a 0)), (0, .ref bs)]) hx hb dL_law_541 hl (by decide) rfl (fun ls hl => ?_)
        refine lv_iload hx hb dL_law_543 (lv_at hl 1 rfl) ?_
        refine lv_if_lt (tgt := 570) hx hb dL_law_545 (by decide) (fun hzB => ?_) (fun hzB => ?_)
        · refine lv_iinc (v := nI (x + 1)) (lv' := [(10, .int (nI (x + 1))), (16, .int (tD d4)), (15, .int (tD d3)), (14, .int (nI k9)), (13, .int (nI s9)), (12, .int (nI x9)), (11, .int (tD d1)), (9, .int (nI y)), (8, .int fr), (7, .int (nI n)), (5, .long D), (4, .int x4), (3, .int (nI tm)), (2, .ref aS), (1, .ref (a 0)), (0, .ref bs)]) hx hb dL_law_570 hl (k := 6) rfl (nI_1 _) (by decide) rfl (fun ls hl => ?_)
          refine lv_goto (tgt := 382) hx hb dL_law_573 (by decide) ?_
          refine W.widen (k := C + 13 * (x + 1)) (n := S + 80 * (x + 1)) (by (try dsimp only); omega) (by (try dsimp only); omega) ?_
          exact ih (x + 1) (by omega) u H locs ls (lv_sub hl [0, 7, 8, 9, 10, 11, 12, 13, 14, 15] rfl) hw
        · refine lv_iload hx hb dL_law_548 (lv_at hl 0 rfl) ?_
          refine lv_if_lt (tgt := 570) hx hb dL_law_550 (by decide) (fun hzC => ?_) (fun hzC => ?_)
          · refine lv_iinc (v := nI (x + 1)) (lv' := [(10, .int (nI (x + 1))), (16, .int (tD d4)), (15, .int (tD d3)), (14, .int (nI k9)), (13, .int (nI s9)), (12, .int (nI x9)), (11, .int (tD d1)), (9, .int (nI y)), (8, .int fr), (7, .int (nI n)), (5, .long D), (4, .int x4), (3, .int (nI tm)), (2, .ref aS), (1, .ref (a 0)), (0, .ref bs)]) hx hb dL_law_570 hl (k := 6) rfl (nI_1 _) (by decide) rfl (fun ls hl => ?_)
            refine lv_goto (tgt := 382) hx hb dL_law_573 (by decide) ?_
            refine W.widen (k := C + 13 * (x + 1)) (n := S + 80 * (x + 1)) (by (try dsimp only); omega) (by (try dsimp only); omega) ?_
            exact ih (x + 1) (by omega) u H locs ls (lv_sub hl [0, 7, 8, 9, 10, 11, 12, 13, 14, 15] rfl) hw
          · have g3 : d3 ≤ 9990 ∧ tD d3 = nI d3 := by
              rcases tD_lt hc2 with ⟨-, h⟩ | ⟨h1, h2, -⟩
              · rw [h] at hzB; exact absurd (by decide) hzB
              · exact ⟨h1, h2⟩
            have g4 : d4 ≤ 9990 ∧ tD d4 = nI d4 := by
              rcases tD_lt he2 with ⟨-, h⟩ | ⟨h1, h2, -⟩
              · rw [h] at hzC; exact absurd (by decide) hzC
              · exact ⟨h1, h2⟩
            have g1 := c_tri hA0 hc1 he1 ha1 g3.1 g4.1 ha2
            have g2 : tD d1 = nI d1 := by unfold tD; rw [if_neg (by omega)]
            refine lv_iload hx hb dL_law_553 (lv_at hl 5 rfl) ?_
            refine lv_if_lt (tgt := 568) hx hb dL_law_555 (by decide) (fun h => absurd ((xltI _ _).mp h) (by rw [g2, nI_toInt (by omega), show (0 : Int32).toInt = 0 from rfl]; omega)) (fun hzD => ?_)
            refine lv_iload hx hb dL_law_558 (lv_at hl 5 rfl) ?_
            refine lv_iload hx hb dL_law_560 (lv_at hl 1 rfl) ?_
            refine lv_iload hx hb dL_law_562 (lv_at hl 0 rfl) ?_
            refine lv_iadd hx hb dL_law_564 ?_
            refine lv_icmp_le (tgt := 570) hx hb dL_law_565 (by decide) (fun hzE => ?_) (fun h => absurd (show tD d1 ≤ tD d3 + tD d4 by rw [g2, g3.2, g4.2, nI_add]; exact nI_le g1.2 (by omega)) h)
            refine lv_iinc (v := nI (x + 1)) (lv' := [(10, .int (nI (x + 1))), (16, .int (tD d4)), (15, .int (tD d3)), (14, .int (nI k9)), (13, .int (nI s9)), (12, .int (nI x9)), (11, .int (tD d1)), (9, .int (nI y)), (8, .int fr), (7, .int (nI n)), (5, .long D), (4, .int x4), (3, .int (nI tm)), (2, .ref aS), (1, .ref (a 0)), (0, .ref bs)]) hx hb dL_law_570 hl (k := 6) rfl (nI_1 _) (by decide) rfl (fun ls hl => ?_)
            refine lv_goto (tgt := 382) hx hb dL_law_573 (by decide) ?_
            refine W.widen (k := C + 13 * (x + 1)) (n := S + 80 * (x + 1)) (by (try dsimp only); omega) (by (try dsimp only); omega) ?_
            exact ih (x + 1) (by omega) u H locs ls (lv_sub hl [0, 7, 8, 9, 10, 11, 12, 13, 14, 15] rfl) hw
      · refine lv_iconst (v := 1) hx hb dL_law_437 (by decide) ?_
        refine lv_goto (tgt := 442) hx hb dL_law_438 (by decide) ?_
        refine lv_iload hx hb dL_law_442 (lv_at hl 4 rfl) ?_
        refine lv_iload hx hb dL_law_444 (lv_at hl 3 rfl) ?_
        refine lv_icmp_ne (tgt := 453) hx hb dL_law_446 (by decide) (fun h => absurd (congrArg nI (e00.mp ((tD_0 ha2).mp hz2))) h) (fun hzp => ?_)
        refine lv_iconst (v := 1) hx hb dL_law_449 (by decide) ?_
        refine lv_goto (tgt := 454) hx hb dL_law_450 (by decide) ?_
        refine lv_icmp_ne (tgt := 509) hx hb dL_law_454 (by decide) (fun h => absurd rfl h) (fun hz3 => ?_)
        refine lv_iload hx hb dL_law_457 (lv_at hl 1 rfl) ?_
        refine lv_iconst (v := (-1)) hx hb dL_law_459 (by decide) ?_
        refine lv_icmp_lt (tgt := 509) hx hb dL_law_460 (by decide) (fun h => absurd ((xltI _ _).mp h) (by rw [nI_toInt (by omega), show (-1 : Int32).toInt = -1 from rfl]; omega)) (fun hz4 => ?_)
        refine lv_iload hx hb dL_law_463 (lv_at hl 1 rfl) ?_
        refine lv_aload_n hx hb dL_law_465 rfl (lv_at hl 11 rfl) ?_
        refine lv_iload hx hb dL_law_466 (lv_at hl 3 rfl) ?_
        refine ccall_i hc hw (crunV (n := 1) (As := [.int (nI x)]) (rest := [.int (nI x9)]) hc hw (k_exitsOf hst _ a z r u _ hH (ans := nI (xn x)) (by rw [l_exitsOf hL (by omega), c_ex hA0 hx9])) gL_law_X3_exitsOf rfl (by decide +kernel) ⟨Nat.le_of_ble_eq_true rfl, Nat.le_of_ble_eq_true rfl⟩ 0 rfl rfl rfl rfl hl.1 (Nat.le_of_ble_eq_true rfl) dL_law_468 (by first | exact ⟨Nat.le_of_ble_eq_true rfl, Nat.le_of_ble_eq_true rfl⟩ | (refine ⟨?_, ?_⟩ <;> ((try dsimp only); omega)))) (fun x0 u H locs hp hw => ?_)
        have hx0 : x0 = _ := hp
        subst hx0
        refine lv_icmp_ge (tgt := 509) hx hb dL_law_471 (by decide) (fun h => absurd ((xle _ _).mp h) (by rw [nI_toInt (by omega), nI_toInt (by omega)]; omega)) (fun hz5 => ?_)
        refine lv_iload hx hb dL_law_474 (lv_at hl 0 rfl) ?_
        refine lv_if_lt (tgt := 509) hx hb dL_law_476 (by decide) (fun h => absurd ((xltI _ _).mp h) (by rw [nI_toInt (by omega), show (0 : Int32).toInt = 0 from rfl]; omega)) (fun hz6 => ?_)
        refine lv_iload hx hb dL_law_479 (lv_at hl 0 rfl) ?_
        refine lv_bipush (v := 9) hx hb dL_law_481 (by decide) ?_
        refine lv_icmp_gt (tgt := 509) hx hb dL_law_483 (by decide) (fun h => absurd ((xltI _ _).mp h) (by rw [nI_toInt (by omega), show (9 : Int32).toInt = 9 from rfl]; omega)) (fun hz7 => ?_)
        refine lv_iload hx hb dL_law_486 (lv_at hl 1 rfl) ?_
        refine lv_if_ge (tgt := 495) hx hb dL_law_488 (by decide) (fun hz8 => ?_) (fun h => absurd (show (0 : Int32) ≤ nI x9 by rw [xle, nI_toInt (by omega), show (0 : Int32).toInt = 0 from rfl]; omega) h)
        refine lv_iconst (v := 0) hx hb dL_law_495 (by decide) ?_
        refine lv_iload hx hb dL_law_496 (lv_at hl 0 rfl) ?_
        refine lv_if_ne (tgt := 505) hx hb dL_law_498 (by decide) (fun hz9 => ?_) (fun h => absurd h (fun h9 => by have h8 := congrArg Int32.toInt h9; rw [nI_toInt (by omega), show (0 : Int32).toInt = 0 from rfl] at h8; omega))
        refine lv_iconst (v := 0) hx hb dL_law_505 (by decide) ?_
        refine lv_icmp_eq (tgt := 511) hx hb dL_law_506 (by decide) (fun hzA => ?_) (fun h => absurd rfl h)
        refine lv_iload hx hb dL_law_511 (lv_at hl 4 rfl) ?_
        refine lv_iload hx hb dL_law_513 (lv_at hl 3 rfl) ?_
        refine lv_iadd hx hb dL_law_515 ?_
        refine lv_iload_n hx hb dL_law_516 rfl (lv_at hl 9 rfl) ?_
        refine lv_iadd hx hb dL_law_517 ?_
        refine lv_iload hx hb dL_law_518 (lv_at hl 6 rfl) ?_
        refine lv_irem hx hb dL_law_520 (hnz) ?_
        rw [emod]
        refine lv_istore (lv' := [(14, .int (nI k9)), (13, .int (nI s9)), (12, .int (nI x9)), (11, .int (tD d1)), (10, .int (nI x)), (9, .int (nI y)), (8, .int fr), (7, .int (nI n)), (5, .long D), (4, .int x4), (3, .int (nI tm)), (2, .ref aS), (1, .ref (a 0)), (0, .ref bs)]) hx hb dL_law_521 hl (by decide) rfl (fun ls hl => ?_)
        refine lv_aload_n hx hb dL_law_523 rfl (lv_at hl 12 rfl) ?_
        refine lv_iload hx hb dL_law_524 (lv_at hl 5 rfl) ?_
        refine lv_iload hx hb dL_law_526 (lv_at hl 0 rfl) ?_
        refine ccall_i hc hw (crunV (n := 2) (As := [.int (nI y), .int (nI k9)]) (rest := []) hc hw (k_distance hst _ a z r u _ _ hH (hc4 u.1).1 (hc4 u.1).2) gL_law_X3_distance rfl (by decide +kernel) ⟨Nat.le_of_ble_eq_true rfl, Nat.le_of_ble_eq_true rfl⟩ 0 rfl rfl rfl rfl hl.1 (Nat.le_of_ble_eq_true rfl) dL_law_528 (by first | exact ⟨Nat.le_of_ble_eq_true rfl, Nat.le_of_ble_eq_true rfl⟩ | (refine ⟨?_, ?_⟩ <;> ((try dsimp only); omega)))) (fun x0 u H locs hp hw => ?_)
        have hx0 : x0 = _ := hp
        subst hx0
        refine lv_istore (lv' := [(15, .int (tD d3)), (14, .int (nI k9)), (13, .int (nI s9)), (12, .int (nI x9)), (11, .int (tD d1)), (10, .int (nI x)), (9, .int (nI y)), (8, .int fr), (7, .int (nI n)), (5, .long D), (4, .int x4), (3, .int (nI tm)), (2, .ref aS), (1, .ref (a 0)), (0, .ref bs)]) hx hb dL_law_531 hl (by decide) rfl (fun ls hl => ?_)
        refine lv_aload_n hx hb dL_law_533 rfl (lv_at hl 13 rfl) ?_
        refine lv_iload hx hb dL_law_534 (lv_at hl 1 rfl) ?_
        refine lv_iload hx hb dL_law_536 (lv_at hl 5 rfl) ?_
        refine ccall_i hc hw (crunV (n := 2) (As := [.int (nI k9), .int (nI x)]) (rest := []) hc hw (k_distance hst _ a z r u _ _ hH (he4 u.1).1 (he4 u.1).2) gL_law_X3_distance rfl (by decide +kernel) ⟨Nat.le_of_ble_eq_true rfl, Nat.le_of_ble_eq_true rfl⟩ 0 rfl rfl rfl rfl hl.1 (Nat.le_of_ble_eq_true rfl) dL_law_538 (by first | exact ⟨Nat.le_of_ble_eq_true rfl, Nat.le_of_ble_eq_true rfl⟩ | (refine ⟨?_, ?_⟩ <;> ((try dsimp only); omega)))) (fun x0 u H locs hp hw => ?_)
        have hx0 : x0 = _ := hp
        subst hx0
        refine lv_istore (lv' := [(16, .int (tD d4)), (15, .int (tD d3)), (14, .int (nI k9)), (13, .int (nI s9)), (12, .int (nI x9)), (11, .int (tD d1)), (10, .int (nI x)), (9, .int (nI y)), (8, .int fr), (7, .int (nI n)), (5, .long D), (4, .int x4), (3, .int (nI tm)), (2, .ref aS), (1, .ref (a 0)), (0, .ref bs)]) hx hb dL_law_541 hl (by decide) rfl (fun ls hl => ?_)
        refine lv_iload hx hb dL_law_543 (lv_at hl 1 rfl) ?_
        refine lv_if_lt (tgt := 570) hx hb dL_law_545 (by decide) (fun hzB => ?_) (fun hzB => ?_)
        · refine lv_iinc (v := nI (x + 1)) (lv' := [(10, .int (nI (x + 1))), (16, .int (tD d4)), (15, .int (tD d3)), (14, .int (nI k9)), (13, .int (nI s9)), (12, .int (nI x9)), (11, .int (tD d1)), (9, .int (nI y)), (8, .int fr), (7, .int (nI n)), (5, .long D), (4, .int x4), (3, .int (nI tm)), (2, .ref aS), (1, .ref (a 0)), (0, .ref bs)]) hx hb dL_law_570 hl (k := 6) rfl (nI_1 _) (by decide) rfl (fun ls hl => ?_)
          refine lv_goto (tgt := 382) hx hb dL_law_573 (by decide) ?_
          refine W.widen (k := C + 13 * (x + 1)) (n := S + 80 * (x + 1)) (by (try dsimp only); omega) (by (try dsimp only); omega) ?_
          exact ih (x + 1) (by omega) u H locs ls (lv_sub hl [0, 7, 8, 9, 10, 11, 12, 13, 14, 15] rfl) hw
        · refine lv_iload hx hb dL_law_548 (lv_at hl 0 rfl) ?_
          refine lv_if_lt (tgt := 570) hx hb dL_law_550 (by decide) (fun hzC => ?_) (fun hzC => ?_)
          · refine lv_iinc (v := nI (x + 1)) (lv' := [(10, .int (nI (x + 1))), (16, .int (tD d4)), (15, .int (tD d3)), (14, .int (nI k9)), (13, .int (nI s9)), (12, .int (nI x9)), (11, .int (tD d1)), (9, .int (nI y)), (8, .int fr), (7, .int (nI n)), (5, .long D), (4, .int x4), (3, .int (nI tm)), (2, .ref aS), (1, .ref (a 0)), (0, .ref bs)]) hx hb dL_law_570 hl (k := 6) rfl (nI_1 _) (by decide) rfl (fun ls hl => ?_)
            refine lv_goto (tgt := 382) hx hb dL_law_573 (by decide) ?_
            refine W.widen (k := C + 13 * (x + 1)) (n := S + 80 * (x + 1)) (by (try dsimp only); omega) (by (try dsimp only); omega) ?_
            exact ih (x + 1) (by omega) u H locs ls (lv_sub hl [0, 7, 8, 9, 10, 11, 12, 13, 14, 15] rfl) hw
          · have g3 : d3 ≤ 9990 ∧ tD d3 = nI d3 := by
              rcases tD_lt hc2 with ⟨-, h⟩ | ⟨h1, h2, -⟩
              · rw [h] at hzB; exact absurd (by decide) hzB
              · exact ⟨h1, h2⟩
            have g4 : d4 ≤ 9990 ∧ tD d4 = nI d4 := by
              rcases tD_lt he2 with ⟨-, h⟩ | ⟨h1, h2, -⟩
              · rw [h] at hzC; exact absurd (by decide) hzC
              · exact ⟨h1, h2⟩
            have g1 := c_tri hA0 hc1 he1 ha1 g3.1 g4.1 ha2
            have g2 : tD d1 = nI d1 := by unfold tD; rw [if_neg (by omega)]
            refine lv_iload hx hb dL_law_553 (lv_at hl 5 rfl) ?_
            refine lv_if_lt (tgt := 568) hx hb dL_law_555 (by decide) (fun h => absurd ((xltI _ _).mp h) (by rw [g2, nI_toInt (by omega), show (0 : Int32).toInt = 0 from rfl]; omega)) (fun hzD => ?_)
            refine lv_iload hx hb dL_law_558 (lv_at hl 5 rfl) ?_
            refine lv_iload hx hb dL_law_560 (lv_at hl 1 rfl) ?_
            refine lv_iload hx hb dL_law_562 (lv_at hl 0 rfl) ?_
            refine lv_iadd hx hb dL_law_564 ?_
            refine lv_icmp_le (tgt := 570) hx hb dL_law_565 (by decide) (fun hzE => ?_) (fun h => absurd (show tD d1 ≤ tD d3 + tD d4 by rw [g2, g3.2, g4.2, nI_add]; exact nI_le g1.2 (by omega)) h)
            refine lv_iinc (v := nI (x + 1)) (lv' := [(10, .int (nI (x + 1))), (16, .int (tD d4)), (15, .int (tD d3)), (14, .int (nI k9)), (13, .int (nI s9)), (12, .int (nI x9)), (11, .int (tD d1)), (9, .int (nI y)), (8, .int fr), (7, .int (nI n)), (5, .long D), (4, .int x4), (3, .int (nI tm)), (2, .ref aS), (1, .ref (a 0)), (0, .ref bs)]) hx hb dL_law_570 hl (k := 6) rfl (nI_1 _) (by decide) rfl (fun ls hl => ?_)
            refine lv_goto (tgt := 382) hx hb dL_law_573 (by decide) ?_
            refine W.widen (k := C + 13 * (x + 1)) (n := S + 80 * (x + 1)) (by (try dsimp only); omega) (by (try dsimp only); omega) ?_
            exact ih (x + 1) (by omega) u H locs ls (lv_sub hl [0, 7, 8, 9, 10, 11, 12, 13, 14, 15] rfl) hw
set_option maxHeartbeats 40000000 in
set_option maxRecDepth 100000 in
theorem lpw_places {p : Program} {l : Launch} {e : Env} {s : State} {m : MethodId} {args : Array Value} {below : List Frame} {meth : Method} {c : Code} {Q : State → Prop} {G : xG} {A : Nat → Prop} (hst : l.stackTraces = false) {a : Nat → Nat} {aS bs : Nat} {fr x4 : Int32} {D : Int64} {tm : Nat} {ret : Option FieldType} {N : Nat} {B : Int} {z : Nat → Int32} {r : Nat → Nat → Int32} {rs : Int32} {q : Nat → Nat → Int32} {n : Nat} {xn : Nat → Nat} {xr : Nat → Nat → Int32} {nr : Nat} {v : Nat → Int32} {rw : Nat → Nat → Int32} {ak : Nat → Int32} {wl : Nat} {wy : Nat → Nat → Int32} {mp : Nat → Nat → Bool} {mm : Nat → Nat → Nat → Int32} (hc : xC p s m args meth c cL_law 20 RL wsL_law ret G A) (hA0 : cA N B z r rs q n xn xr nr v rw ak wl wy mp mm) {L : List Nat} {f : Nat → va_E} {C S : Nat} (hCS : C ≤ 500000 ∧ S ≤ 5000000) (htm : tm ≤ 12) (hfr : (fr = 1 ∧ z 3 = -1) ∨ (fr = 0 ∧ ¬ z 3 = -1))
    (kx : ∀ (u : cU) (H : Heap) (locs : List Loc) (ls : Array Slot), lv_has ls 20 [(8, .int fr), (7, .int (nI n)), (5, .long D), (4, .int x4), (3, .int (nI tm)), (2, .ref aS), (1, .ref (a 0)), (0, .ref bs)] → xW G A s.heap (cW G a z r u ++ va_pl L f) H locs → W p l e ⟨12, 777134, 6770066, 438⟩ s m args below meth c H locs (C + 3400) (S + 21000) Q (F0 m 582 ls [])) :
    ∀ (d y : Nat), y + d = n → ∀ (u : cU) (H : Heap) (locs : List Loc) (ls : Array Slot), lv_has ls 20 [(9, .int (nI y)), (8, .int fr), (7, .int (nI n)), (5, .long D), (4, .int x4), (3, .int (nI tm)), (2, .ref aS), (1, .ref (a 0)), (0, .ref bs)] → xW G A s.heap (cW G a z r u ++ va_pl L f) H locs → W p l e ⟨12, 777134, 6770066, 438⟩ s m args below meth c H locs (C + 340 * y) (S + 2100 * y) Q (F0 m 168 ls []) := by
  obtain ⟨hx, hb, -, hown, hts, -⟩ := id hc
  have hH := cA_H hA0
  obtain ⟨hn1, hn2, hn3, hn4, hn5⟩ := cA_n hA0
  have hL := cA_L hA0
  have hM := zI_M hA0.1
  intro d
  induction d with
  | zero =>
    intro y hd u H locs ls hl hw
    refine lv_iload hx hb dL_law_168 (lv_at hl 0 rfl) ?_
    refine lv_iload hx hb dL_law_170 (lv_at hl 2 rfl) ?_
    refine lv_icmp_ge (tgt := 582) hx hb dL_law_172 (by decide) (fun hz => ?_) (fun h => absurd (nI_le (by omega) (by omega)) h)
    exact W.widen (k := C + 3400) (n := S + 21000) (by (try dsimp only); omega) (by (try dsimp only); omega) (kx u H locs ls (lv_sub hl [1, 2, 3, 4, 5, 6, 7, 8] rfl) hw)
  | succ d ih =>
    intro y hd u H locs ls hl hw
    have hy : y < n := by omega
    refine lv_iload hx hb dL_law_168 (lv_at hl 0 rfl) ?_
    refine lv_iload hx hb dL_law_170 (lv_at hl 2 rfl) ?_
    refine lv_icmp_ge (tgt := 582) hx hb dL_law_172 (by decide) (fun h => absurd h (nI_ge (by omega) (by omega))) (fun hz => ?_)
    refine lv_iconst (v := 0) hx hb dL_law_175 (by decide) ?_
    refine lv_istore (lv' := [(10, .int 0), (9, .int (nI y)), (8, .int fr), (7, .int (nI n)), (5, .long D), (4, .int x4), (3, .int (nI tm)), (2, .ref aS), (1, .ref (a 0)), (0, .ref bs)]) hx hb dL_law_176 hl (by decide) rfl (fun ls hl => ?_)
    refine W.widen (k := C + 340 * y + 50 * 0) (n := S + 2100 * y + 300 * 0) (by (try dsimp only); omega) (by (try dsimp only); omega) ?_
    refine lpw_exits hst hc hA0 (C := C + 340 * y) (S := S + 2100 * y) (by omega) hy hfr (fun u H locs ls hl hw => ?_) (xn y) 0 (by omega) u H locs ls (lv_sub hl [0, 1, 2, 3, 4, 5, 6, 7, 8, 9] rfl) hw
    refine lv_iconst (v := 0) hx hb dL_law_379 (by decide) ?_
    refine lv_istore (lv' := [(10, .int 0), (9, .int (nI y)), (8, .int fr), (7, .int (nI n)), (5, .long D), (4, .int x4), (3, .int (nI tm)), (2, .ref aS), (1, .ref (a 0)), (0, .ref bs)]) hx hb dL_law_380 hl (by decide) rfl (fun ls hl => ?_)
    refine W.widen (k := C + 340 * y + 210 + 13 * 0) (n := S + 2100 * y + 1300 + 80 * 0) (by (try dsimp only); omega) (by (try dsimp only); omega) ?_
    refine lpw_others hst hc hA0 (C := C + 340 * y + 210) (S := S + 2100 * y + 1300) (by omega) hy htm (fun u H locs ls hl hw => ?_) n 0 (by omega) u H locs ls (lv_sub hl [0, 1, 2, 3, 4, 5, 6, 7, 8, 9] rfl) hw
    refine lv_iinc (v := nI (y + 1)) (lv' := [(9, .int (nI (y + 1))), (8, .int fr), (7, .int (nI n)), (5, .long D), (4, .int x4), (3, .int (nI tm)), (2, .ref aS), (1, .ref (a 0)), (0, .ref bs)]) hx hb dL_law_576 hl (k := 0) rfl (nI_1 _) (by decide) rfl (fun ls hl => ?_)
    refine lv_goto (tgt := 168) hx hb dL_law_579 (by decide) ?_
    refine W.widen (k := C + 340 * (y + 1)) (n := S + 2100 * (y + 1)) (by (try dsimp only); omega) (by (try dsimp only); omega) ?_
    exact ih (y + 1) (by omega) u H locs ls (lv_sub hl [0, 1, 2, 3, 4, 5, 6, 7, 8] rfl) hw
