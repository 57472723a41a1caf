/-! what is done, on all three sides: roads turned, nights -/
theorem z4b (j i : Nat) : 4 * nI j + nI i = nI (4 * j + i) := z4 j i
section AE
variable {N : Nat} {B : Int} {pl rs : Int32} {ex sh ld tw le op rd ml cz : Nat → Int32} {po co go wl gu wk db dn iv qs : Int32} {wy tr ak mx ms ur uk uy xe sg : Nat → Int32} {n : Nat} {xn : Nat → Nat} {xr : Nat → Nat → Int32} {nr : Nat} {v : Nat → Int32} {rw : Nat → Nat → Int32} {ak' : Nat → Int32} {wl' : Nat} {wy' : Nat → Nat → Int32} {mp : Nat → Nat → Bool} {mm : Nat → Nat → Nat → Int32}
theorem a_turn (h : rA N B pl rs ex sh ld tw le op rd ml cz po co go wl gu wk db dn iv qs wy tr ak mx ms ur uk uy xe sg n xn xr nr v rw ak' wl' wy' mp mm) {p x : Nat} (hp : p < n) (hx : x < xn p) : ∃ op2 cz2, FX3_turnRoad pl ex tw op (nI p) (nI x) = (0, 1 - rw (xr p x).toNatClampNeg 3, op2) ∧ (rw (xr p x).toNatClampNeg 3 = 0 ∨ rw (xr p x).toNatClampNeg 3 = 1) ∧ (xr p x).toNatClampNeg < nr ∧ rA N B pl rs ex sh ld tw le op2 rd ml cz2 po co go wl gu wk db dn iv qs wy tr ak mx ms ur uk uy xe sg n xn xr nr v (va_up rw (xr p x).toNatClampNeg (upd (rw (xr p x).toNatClampNeg) 3 (1 - rw (xr p x).toNatClampNeg 3))) ak' wl' wy' mp mm := by
  obtain ⟨m1, m2, m3, m4, m5⟩ := rA_n h
  obtain ⟨hI, hR, ⟨hs, hu, hk, hW, hM⟩, hV, hN, a, a1, a2, a3⟩ := h
  obtain ⟨e1, e2, e3, e4, e5⟩ := rL_e hI.1 hR hp hx
  obtain ⟨t1, t2, t3, t4, t5, t6⟩ := rL_to hI.1 hR hp hx
  have hz := (hR.2.2.2.2 _ t5).2.2.1
  obtain ⟨k, b, op2, cz2, ot2, z1, z2, z3, z4⟩ := zo_turnRoad hI (nI p) (nI x) (fun _ => 0)
  have hex : FX5_isExit pl ex (nI p) (nI x) ≠ 0 := fun h0 => by
    rcases zexc hI.1.1 hI.1.2.1 (nI p) (nI x) with ⟨c1, -⟩ | hq
    · have := zend' (pl := pl) (ex := ex) (a := p) (i := x) (by omega) hI.1.1 (by have := hR.2.1 p hp; omega) e4
      rw [c1] at this
      exact absurd this.symm (zm1 (by omega))
    · obtain ⟨j, i, -, -, -, -, -, -, -, hq⟩ := hq
      rw [h0] at hq
      exact absurd hq (by decide)
  have ecz : ∃ c2 : Int32, cz2 = upd cz (xr p x).toNatClampNeg c2 ∧ (rw (xr p x).toNatClampNeg 3 = 1 ↔ ¬ c2 = 0) := by
    unfold FX5_turnRoad xbind at z2
    dsimp only at z2
    rw [if_neg hex, z4b, nI_clamp (by omega), t6, dup_s, dup_s] at z2
    rcases t4 with c | c
    · rw [if_neg (hz.mp c), if_pos rfl] at z2
      simp only [Prod.mk.injEq] at z2
      refine ⟨0, z2.2.2.symm, ?_⟩
      rw [c]
      decide
    · have c0 : cz (xr p x).toNatClampNeg = 0 := Decidable.byContradiction fun h => by
        have := hz.mpr h
        rw [c] at this
        exact absurd this (by decide)
      rw [if_pos c0, if_neg (by decide)] at z2
      simp only [Prod.mk.injEq] at z2
      refine ⟨1, z2.2.2.symm, ?_⟩
      rw [c]
      decide
  obtain ⟨c2, ec, hc2⟩ := ecz
  have e3 : FX3_turnRoad pl ex tw op (nI p) (nI x) = (0, (FX1_turnEnd tw op (nI (4 * p + x))).1, (FX1_turnEnd tw op (nI (4 * p + x))).2) := by
    unfold FX3_turnRoad
    rw [lec hI.1 e1 e4]
    rfl
  have eb : (FX1_turnEnd tw op (nI (4 * p + x))).1 = 1 - rw (xr p x).toNatClampNeg 3 := by
    unfold FX1_turnEnd xbind
    dsimp only
    rw [zis e1.1, if_neg (by decide), nI_clamp (by omega)]
    rcases t4 with c | c
    · rw [if_pos (t3.mp c), c]
      rfl
    · rw [if_neg (fun h => by have := t3.mpr h; rw [c] at this; exact absurd this (by decide)), c]
      rfl
  have eo : (FX1_turnEnd tw op (nI (4 * p + x))).2 = op2 := by
    unfold FL_turnRoad yc3 at z1
    rw [e3, if_pos rfl] at z1
    dsimp only at z1
    by_cases c : (FX1_turnEnd tw op (nI (4 * p + x))).1 = 0
    · rw [if_pos c] at z1
      simp only [Prod.mk.injEq] at z1
      exact z1.2.1
    · rw [if_neg c] at z1
      simp only [Prod.mk.injEq] at z1
      exact z1.2.1
  rw [eb, eo] at e3
  rw [ec] at z4
  have hT : ∀ k, tT nr (va_up rw (xr p x).toNatClampNeg (upd (rw (xr p x).toNatClampNeg) 3 (1 - rw (xr p x).toNatClampNeg 3))) k = tT nr rw k := fun k => by
    unfold tT
    by_cases c : k = (xr p x).toNatClampNeg
    · subst c
      rw [va_up_self, dup_n (by decide)]
    · rw [va_up_ne _ _ c]
  refine ⟨op2, _, e3, t4, t5, z4, rL_turn hR m5 t5 hc2, ⟨hs, fun k hk' => ?_, hk, hW, hM⟩, hV, hN, a, a1, a2, ?_⟩
  · by_cases c : k = (xr p x).toNatClampNeg
    · subst c
      rw [va_up_self, dup_n (by decide)]
      exact hu _ hk'
    · rw [va_up_ne _ _ c]
      exact hu k hk'
  · rw [eCn_eq (T := tT nr rw) 20 (fun k _ => hT k)]
    exact a3
/-- nights -/
theorem rM9_I {mx ms : Nat → Int32} (hM : zM pl ex mx ms xe sg) : rM9 xe sg := fun k hk => by
  rcases hM k hk with ⟨-, h⟩ | ⟨h1, h2, -⟩
  · exact Or.inl h
  · rw [h2]; exact Or.inr h1
theorem dNight1 (hM : rM mp mm xe sg) (h9 : rM9 xe sg) : ∃ xe3 sg3, FX5_night xe sg = (nI (sNc mp mm 100), xe3, sg3) ∧ rM (sNi 10 0 (sNp mp mm) mp) (sNi 10 0 (sNm mp mm) mm) xe3 sg3 ∧ rM9 xe3 sg3 := by
  obtain ⟨xe3, sg3, h1, h2, h3⟩ := dNight hM h9 101 0 xe sg 0 rfl (by omega) rfl (fun k _ _ => ⟨rfl, rfl⟩) (fun k hk => absurd hk (by omega))
  refine ⟨xe3, sg3, ?_, h2, h3⟩
  unfold FX5_night
  rw [h1]
  rfl
end AE
