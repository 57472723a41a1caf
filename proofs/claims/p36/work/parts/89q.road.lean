/-! what is done, on all three sides: a road -/
section AI
variable {N : Nat} {B : Int} {pl rs : Int32} {ex sh ld tw le op rd ml cz : Nat → Int32} {po co go wl gu wk db dn iv qs : Int32} {wy tr ak mx ms ur uk uy xe sg : Nat → Int32} {n : Nat} {xn : Nat → Nat} {xr : Nat → Nat → Int32} {nr : Nat} {v : Nat → Int32} {rw : Nat → Nat → Int32} {ak' : Nat → Int32} {wl' : Nat} {wy' : Nat → Nat → Int32} {mp : Nat → Nat → Bool} {mm : Nat → Nat → Nat → Int32}
theorem l5p {p : Nat} (hpl : 0 ≤ pl.toInt ∧ pl.toInt ≤ 10) (hp : (p : Int) < pl.toInt) : FX5_isPlace pl (nI p) = 1 := by
  rcases zplc hpl (nI p) with ⟨c1, c2⟩ | ⟨j, c1, c2, c3, c4⟩
  · have := zpl (pl := pl) (q := nI p) (by rw [nI_toInt (by omega)]; omega)
    rw [c1] at this
    exact absurd this (by decide)
  · exact c4
theorem a_nr (h : rA N B pl rs ex sh ld tw le op rd ml cz po co go wl gu wk db dn iv qs wy tr ak mx ms ur uk uy xe sg n xn xr nr v rw ak' wl' wy' mp mm) {a b : Nat} (ha : a < n) (hb : b < n) (hab : a ≠ b) (hxa : xn a ≤ 3) (hxb : xn b ≤ 3) : nr ≤ 19 := by
  obtain ⟨m1, m2, m3, m4, m5⟩ := rA_n h
  obtain ⟨hI, hR, -⟩ := h
  have h7 := hI.1.2.2.2.2.2.2.1
  have xa := hR.2.1 a ha
  have xb := hR.2.1 b hb
  have := ysx_le (f := ex) hab (by omega) (by omega) 10 (fun k hk => (hI.1.2.1 k hk).2)
  rw [if_pos (by omega), if_pos (by omega)] at this
  have := hR.2.2.2.1
  omega
theorem a_road (h : rA N B pl rs ex sh ld tw le op rd ml cz po co go wl gu wk db dn iv qs wy tr ak mx ms ur uk uy xe sg n xn xr nr v rw ak' wl' wy' mp mm) {a b : Nat} (ha : a < n) (hb : b < n) (hab : a ≠ b) (hxa : xn a ≤ 3) (hxb : xn b ≤ 3) {mil : Int32} (hm : 1 ≤ mil.toInt ∧ mil.toInt ≤ 9) : ∃ rs2 ex2 ld2 tw2 le2 op2 rd2 ml2 cz2 ur2, FX3_addRoad pl ex ld tw le op (nI a) (nI b) mil = (0, nI (xn a), ex2, ld2, tw2, le2, op2) ∧ rA N B pl rs2 ex2 sh ld2 tw2 le2 op2 rd2 ml2 cz2 po co go wl gu wk db dn iv qs wy tr ak mx ms ur2 uk uy xe sg n (va_up (va_up xn a (xn a + 1)) b (xn b + 1)) (va_up (va_up xr a (upd (xr a) (xn a) (nI nr))) b (upd (xr b) (xn b) (nI nr))) (nr + 1) v (va_up rw nr (sRow a b mil)) ak' wl' wy' mp mm := by
  have hnr := a_nr h ha hb hab hxa hxb
  obtain ⟨m1, m2, m3, m4, m5⟩ := rA_n h
  obtain ⟨hI, hR, ⟨hs, hu, hk, hW, hM⟩, ⟨hV1, hV2, hV3⟩, hN, p, p1, p2, p3⟩ := h
  obtain ⟨r1, r2, r3, r4, r5⟩ := id hR
  have xa : ex a = nI (xn a) := by rw [xeqI, nI_toInt (by omega)]; exact (r2 a ha).symm
  have xb : ex b = nI (xn b) := by rw [xeqI, nI_toInt (by omega)]; exact (r2 b hb).symm
  have ers : rs = nI nr := by rw [xeqI, nI_toInt (by omega)]; exact r4.symm
  have ca : (nI a).toNatClampNeg = a := nI_clamp (by omega)
  have cb : (nI b).toNatClampNeg = b := nI_clamp (by omega)
  have hne : ¬ (nI a : Int32) = nI b := fun h => hab (nI_inj (by omega) (by omega) h)
  have n4 : ∀ k, k ≤ 3 → ¬ nI k = (4 : Int32) := fun k hk h => by
    have := nI_inj (b := 4) (by omega) (by omega) (h.trans (show (4 : Int32) = nI 4 from rfl))
    omega
  obtain ⟨k, r, rs2, ex2, ld2, tw2, le2, op2, rd2, ml2, cz2, ur2, ot2, z1, z2, z3, z4⟩ := zo_addRoad hI (nI a) (nI b) mil (fun _ => 0)
  have e5 : FX5_addRoad pl rs ex rd ld ml cz ur (nI a) (nI b) mil = (nI (xn a), 0, rs + 1, upd (upd ex a (ex a + 1)) b (ex b + 1), upd (upd rd (4 * a + xn a) rs) (4 * b + xn b) rs, upd (upd ld (4 * a + xn a) (nI b)) (4 * b + xn b) (nI a), upd ml nr mil, upd cz nr 0, upd ur nr 0) := by
    unfold FX5_addRoad FX5_addExit
    rw [l5p hI.1.1 (by omega), l5p hI.1.1 (by omega), zin1 (by rw [show (9 : Int32).toInt = 9 from rfl, show (1 : Int32).toInt = 1 from rfl]; omega)]
    unfold xbind
    dsimp only
    rw [if_neg (by decide), if_neg hne, ca, cb]
    rw [if_neg (show ¬ ex a = 4 by rw [xa]; exact n4 _ hxa), if_neg (show ¬ ex b = 4 by rw [xb]; exact n4 _ hxb)]
    rw [dup_n hab.symm, xa, xb, z4b, z4b, nI_clamp (by omega), nI_clamp (by omega), dup_n hab, dup_s, nI_1, nI_pred, ers, nI_clamp (by omega)]
    rfl
  rw [e5] at z2
  simp only [Prod.mk.injEq] at z2
  obtain ⟨q1, q2, q3, q4, q5, q6, q7, q8, q9⟩ := z2
  have hW0 : (FX3_addRoad pl ex ld tw le op (nI a) (nI b) mil).1 = 0 := by
    rcases Nat.eq_zero_or_pos (FX3_addRoad pl ex ld tw le op (nI a) (nI b) mil).1 with c | c
    · exact c
    · exfalso
      unfold FL_addRoad yc3 at z1
      rw [if_neg (by omega)] at z1
      dsimp only at z1
      rw [← q2] at z1
      by_cases d : (FX3_addRoad pl ex ld tw le op (nI a) (nI b) mil).1 = 1
      · rw [if_pos d] at z1
        simp only [Prod.mk.injEq] at z1
        exact absurd z1.1 (by decide)
      · rw [if_neg d] at z1
        by_cases d2 : (FX3_addRoad pl ex ld tw le op (nI a) (nI b) mil).1 = 2
        · rw [if_pos d2] at z1
          simp only [Prod.mk.injEq] at z1
          exact absurd z1.1 (by decide)
        · rw [if_neg d2] at z1
          simp only [Prod.mk.injEq] at z1
          exact absurd z1.1 (by decide)
  unfold FL_addRoad at z1
  generalize FX3_addRoad pl ex ld tw le op (nI a) (nI b) mil = W at hW0 z1 ⊢
  obtain ⟨w0, w1, x1, x2, x3, x4, x5⟩ := W
  have hW0 : w0 = 0 := hW0
  subst hW0
  unfold yc3 at z1
  rw [if_pos rfl] at z1
  simp only [Prod.mk.injEq] at z1
  obtain ⟨g0, g1, g2, g3, g4, g5, g6⟩ := z1
  have w4 := z3 g0.symm
  rw [← g6, zot, ← q1] at w4
  have hR2 := rL_road hI.1 hR ha hb hab hxa hxb mil
  have hT : ∀ k, tT (nr + 1) (va_up rw nr (sRow a b mil)) k = tT nr rw k := fun k => by
    unfold tT
    by_cases c : k = nr
    · subst c
      rw [va_up_self, decide_eq_false (show ¬ k < k by omega), show sRow a b mil 4 = 0 from rfl, decide_eq_true (show (0 : Int32) = 0 from rfl)]
      exact Bool.and_false _
    · rw [va_up_ne _ _ c]
      by_cases d : k < nr
      · rw [decide_eq_true d, decide_eq_true (show k < nr + 1 by omega)]
      · rw [decide_eq_false d, decide_eq_false (show ¬ k < nr + 1 by omega)]
  have hxn : ∀ q, xn q ≤ va_up (va_up xn a (xn a + 1)) b (xn b + 1) q := fun q => by
    by_cases c : q = b
    · subst c; rw [va_up_self]; omega
    · rw [va_up_ne _ _ c]
      by_cases d : q = a
      · subst d; rw [va_up_self]; omega
      · rw [va_up_ne _ _ d]; exact Nat.le_refl _
  refine ⟨rs2, ex2, ld2, tw2, le2, op2, rd2, ml2, cz2, ur2, ?_, z4, ?_, ⟨hs, fun k hk' => ?_, hk, hW, hM⟩, ⟨fun g q hg hq hmp => ?_, hV2, fun k hk' => ?_⟩, hN, p, p1, p2, ?_⟩
  · rw [i64inj w4, g1, g2, g3, g4, g5]
  · rw [← q3, ← q4, ← q5, ← q6, ← q7, ← q8]
    rw [ers] at hR2 ⊢
    exact hR2
  · rw [← q9]
    by_cases c : k = nr
    · subst c
      rw [va_up_self, dup_s]
      rfl
    · rw [va_up_ne _ _ c, dup_n c]
      exact hu k (by omega)
  · obtain ⟨x, y1, y2⟩ := hV1 g q hg hq hmp
    exact ⟨x, y1, Nat.lt_of_lt_of_le y2 (hxn q)⟩
  · obtain ⟨q, x, y1, y2, y3, y4⟩ := hV3 k hk'
    exact ⟨q, x, y1, y2, y3, Nat.lt_of_lt_of_le y4 (hxn q)⟩
  · rw [eCn_eq (T := tT nr rw) 20 (fun k _ => hT k)]
    exact p3
end AI
