/-! the second carrier's steps beside the reference's: the loop -/
/-- the reference's loop of steps, from its beginning, as a function of how many are wanted -/
abbrev rLoop := Nat → Nat × (Int32) × (Int32) × (Int32) × (Int32) × (Int32) × (Int32) × (Int32) × (Int32) × (Int32) × (Nat → Int32) × (Nat → Int32) × (Nat → Int32) × (Nat → Int32) × (Nat → Int32) × (Nat → Int32)
def rG (n : Nat) (xn : Nat → Nat) (xr : Nat → Nat → Int32) (nr : Nat) (pl rs : Int32) (ex ld rd ml cz sh2 : Nat → Int32) (B : Int) (L0 : rLoop) (i : Nat) (v : Nat → Int32) (rw : Nat → Nat → Int32) (ak : Nat → Int32) (wl : Nat) (wy : Nat → Nat → Int32) (mp : Nat → Nat → Bool) (mm : Nat → Nat → Nat → Int32) : Prop :=
  i ≤ 41 ∧ rL n xn xr nr rw pl rs ex ld rd ml cz ∧ sVd n xn v wl wy mp mm ∧ rN B i v ∧ rQ n nr i v rw wl ∧ ∃ (po co go ln wk db dn iv qs : Int32) (ur uk uy xe sg fa : Nat → Int32), rS nr v rw ak wl wy mp mm po co go ln wk db dn iv qs ur uk uy xe sg ∧
    ∀ N, i ≤ N → N ≤ 9999 → L0 N = LX5_stepsOn_t pl ex rd ld ml cz sh2 (nI N) (10000 - i) i po co go ln wk db dn iv qs ur uk uy xe sg fa
/-- the end of an errand that is in vain, in the step behind i others -/
def rE (n : Nat) (xn : Nat → Nat) (xr : Nat → Nat → Int32) (nr : Nat) (pl rs : Int32) (ex ld rd ml cz : Nat → Int32) (B : Int) (L0 : rLoop) (i : Nat) (v : Nat → Int32) (rw : Nat → Nat → Int32) (ak : Nat → Int32) (wl : Nat) (wy : Nat → Nat → Int32) (mp : Nat → Nat → Bool) (mm : Nat → Nat → Nat → Int32) : Prop :=
  i ≤ 41 ∧ rL n xn xr nr rw pl rs ex ld rd ml cz ∧ sVd n xn v wl wy mp mm ∧ rN B (i + 1) v ∧ rQ n nr (i + 1) v rw wl ∧ ∃ (po co go ln wk db dn iv qs : Int32) (ur uk uy xe sg fa : Nat → Int32), rS nr v rw ak wl wy mp mm po co go ln wk db dn iv qs ur uk uy xe sg ∧
    ∀ N, i < N → N ≤ 9999 → L0 N = (i, po, co, go, ln, wk, db, dn, iv, qs, ur, uk, uy, xe, sg, fa)
section LP
variable {n : Nat} {xn : Nat → Nat} {xr : Nat → Nat → Int32} {nr : Nat} {rw : Nat → Nat → Int32} {pl rs : Int32} {ex ld tw le op rd ml cz : Nat → Int32}
variable {B : Int} {L0 : rLoop} {i : Nat} {v v' : Nat → Int32} {rw' : Nat → Nat → Int32} {sh sh2 ak ak' : Nat → Int32} {wl wl' : Nat} {wy wy' : Nat → Nat → Int32} {mp mp' : Nat → Nat → Bool} {mm mm' : Nat → Nat → Nat → Int32}
theorem rG_at (hn : n ≤ 10) (hG : rG n xn xr nr pl rs ex ld rd ml cz sh2 B L0 i v rw ak wl wy mp mm) (h6 : ¬ v 6 < 0) : ∃ a g, v 4 = nI a ∧ a < n ∧ v 6 = nI g ∧ g < n ∧ a ≠ g ∧ i + 2 * (20 - eCn (tT nr rw) 20) + wl ≤ 40 ∧ wl ≤ eCn (tT nr rw) 20 := by
  obtain ⟨-, -, -, -, ⟨a, a1, a2, a3⟩, -⟩ := hG
  rcases a3 with h | ⟨b, b1, b2, b3, b4⟩
  · exact absurd (by rw [h]; decide) h6
  · exact ⟨a, b, a1, a2, b1, b2, b3, b4⟩
theorem rG_step (hL : zL pl rs ex ld tw le op rd ml cz) (hB : 0 ≤ B ∧ B ≤ 1000000) (hsh : ∀ p, p < n → (sh p = 0 ↔ sh2 p = 0)) (hG : rG n xn xr nr pl rs ex ld rd ml cz sh2 B L0 i v rw ak wl wy mp mm) (h6 : ¬ v 6 < 0) {q g : Nat} {b : Int32} (hq4 : v 4 = nI q) (hq : q < n) (hg6 : v 6 = nI g) (hg : g < n) (hst : sStR v n xn xr nr rw sh ak wl wy mp mm q g b v' rw' ak' wl' wy' mp' mm') :
    (b = 0 ∨ b = 1) ∧ (¬ b = 0 → rG n xn xr nr pl rs ex ld rd ml cz sh2 B L0 (i + 1) v' rw' ak' wl' wy' mp' mm') ∧ (b = 0 → rE n xn xr nr pl rs ex ld rd ml cz B L0 i v' rw' ak' wl' wy' mp' mm') := by
  have hn := (rL_n hL hG.2.1).1
  obtain ⟨a, g', a1, a2, a3, a4, a5, a6⟩ := rG_at hn hG h6
  have e1 : a = q := nI_inj (by omega) (by omega) (by rw [← a1, hq4])
  have e2 : g' = g := nI_inj (by omega) (by omega) (by rw [← a3, hg6])
  subst e1; subst e2
  obtain ⟨g1, hR, hV, hN, -, po, co, go, ln, wk, db, dn, iv, qs, ur, uk, uy, xe, sg, fa, hS, hLo⟩ := hG
  obtain ⟨hb, hV2, hN2, hQ2⟩ := dIn hL hR hB hq hq4 hg hg6 hV hN a6 hst
  have epo : po = nI a := hS.1.1.symm.trans hq4
  have ego : go = nI g' := hS.1.2.2.1.symm.trans hg6
  subst epo; subst ego
  have hZ := dstep hL hR fa hq hg hV (hsh a hq) (by rw [← hS.1.2.1]; exact hN.1.1) hS hst
  obtain ⟨po2, co2, go2, ln2, wk2, db2, dn2, iv2, qs2, ur2, uk2, uy2, xe2, sg2, fb2, z1, z2, z3⟩ := hZ
  have hR2 := rL_tr hR z3
  have hgm : ¬ nI g' = -1 := zm1 (by omega)
  have hrun : ∀ N, i < N → N ≤ 9999 → L0 N = if b = 0 then (i, po2, co2, go2, ln2, wk2, db2, dn2, iv2, qs2, ur2, uk2, uy2, xe2, sg2, fb2) else LX5_stepsOn_t pl ex rd ld ml cz sh2 (nI N) (10000 - (i + 1)) (i + 1) po2 co2 go2 ln2 wk2 db2 dn2 iv2 qs2 ur2 uk2 uy2 xe2 sg2 fb2 := fun N h1 h2 => by
    rw [hLo N (by omega) h2, show 10000 - i = (10000 - (i + 1)) + 1 by omega, LX5_stepsOn_t, if_neg (nI_ge (by omega) (by omega)), if_neg hgm, z1]
    rfl
  refine ⟨hb, fun h => ⟨?_, hR2, hV2, hN2, hQ2, po2, co2, go2, ln2, wk2, db2, dn2, iv2, qs2, ur2, uk2, uy2, xe2, sg2, fb2, z2, fun N h1 h2 => ?_⟩, fun h => ⟨g1, hR2, hV2, hN2, hQ2, po2, co2, go2, ln2, wk2, db2, dn2, iv2, qs2, ur2, uk2, uy2, xe2, sg2, fb2, z2, fun N h1 h2 => ?_⟩⟩
  · omega
  · rw [hrun N (by omega) h2, if_neg h]
  · rw [hrun N h1 h2, if_pos h]
/-- behind the last step -/
theorem rG_end (hn : n ≤ 10) (hG : rG n xn xr nr pl rs ex ld rd ml cz sh2 B L0 i v rw ak wl wy mp mm) {N : Nat} (h1 : i ≤ N) (h2 : N ≤ 9999) (hend : N ≤ i ∨ v 6 < 0) : ∃ (po co go ln wk db dn iv qs : Int32) (ur uk uy xe sg fa : Nat → Int32), rS nr v rw ak wl wy mp mm po co go ln wk db dn iv qs ur uk uy xe sg ∧ L0 N = (i, po, co, go, ln, wk, db, dn, iv, qs, ur, uk, uy, xe, sg, fa) := by
  obtain ⟨g1, hR, hV, hN, ⟨a, a1, a2, a3⟩, po, co, go, ln, wk, db, dn, iv, qs, ur, uk, uy, xe, sg, fa, hS, hLo⟩ := hG
  refine ⟨po, co, go, ln, wk, db, dn, iv, qs, ur, uk, uy, xe, sg, fa, hS, ?_⟩
  rw [hLo N h1 h2, show 10000 - i = (10000 - (i + 1)) + 1 by omega, LX5_stepsOn_t]
  by_cases c : N ≤ i
  · rw [if_pos (nI_le (by omega) (by omega))]
  · rw [if_neg (nI_ge (by omega) (by omega)), if_pos]
    rcases hend with h | h
    · exact absurd h c
    · rcases a3 with a3 | ⟨b, b1, b2, -⟩
      · rw [← hS.1.2.2.1]; exact a3
      · rw [b1, xltI, nI_toInt (by omega), show (0 : Int32).toInt = 0 from rfl] at h
        omega
end LP
/-- each state of the second carrier has a step -/
theorem sStR_tot (v : Nat → Int32) (n : Nat) (xn : Nat → Nat) (xr : Nat → Nat → Int32) (nr : Nat) (rw : Nat → Nat → Int32) (sh ak : Nat → Int32) (wl : Nat) (wy : Nat → Nat → Int32) (mp : Nat → Nat → Bool) (mm : Nat → Nat → Nat → Int32) (q g : Nat) (hq : q < n) (hg : g < 10) (h4 : xn q ≤ 4) (hV : sVd n xn v wl wy mp mm) : ∃ b v' rw' ak' wl' wy' mp' mm', sStR v n xn xr nr rw sh ak wl wy mp mm q g b v' rw' ak' wl' wy' mp' mm' := by
  obtain ⟨r, v1, ak1, mp1, mm1, hc⟩ : ∃ r v1 ak1 mp1 mm1, sChR v n xn xr nr rw sh ak mp mm q g r v1 ak1 mp1 mm1 := by
    by_cases c1 : mp g q = true ∧ ¬ sFr rw xr q (mm g q 0).toNatClampNeg = 0
    · exact ⟨_, _, _, _, _, Or.inl ⟨c1, rfl, rfl, rfl, rfl, rfl⟩⟩
    · by_cases c2 : ¬ sh q = 0 ∧ ak q = 0 ∧ 0 < v 5
      · by_cases c3 : (sBst (sIts n xr nr rw q (nI g)) (xn q) (xn q)).1 < 0
        · exact ⟨_, _, _, _, _, Or.inr (Or.inr ⟨c1, c2, rfl, rfl, Or.inl ⟨c3, rfl, rfl, rfl⟩⟩)⟩
        · exact ⟨_, _, _, _, _, Or.inr (Or.inr ⟨c1, c2, rfl, rfl, Or.inr ⟨c3, rfl, rfl, rfl⟩⟩)⟩
      · exact ⟨_, _, _, _, _, Or.inr (Or.inl ⟨c1, c2, rfl, rfl, rfl, rfl, rfl⟩)⟩
  obtain ⟨-, hch, -⟩ := dch (fun h => hV.1 g q hg hq h) h4 hc
  have fin : ∀ v2 rw2 wl2 wy2, sMv v1 xr rw wl wy q r v2 rw2 wl2 wy2 → ∃ b v' rw' ak' wl' wy' mp' mm', sStR v n xn xr nr rw sh ak wl wy mp mm q g b v' rw' ak' wl' wy' mp' mm' := fun v2 rw2 wl2 wy2 hm => by
    by_cases d : v2 4 = v2 6
    · exact ⟨_, _, _, _, _, _, _, _, r, v1, ak1, mp1, mm1, hc, Or.inr ⟨v2, rw2, wl2, wy2, hm, rfl, Or.inr ⟨d, rfl, rfl, rfl, rfl, rfl, rfl, rfl⟩⟩⟩
    · exact ⟨_, _, _, _, _, _, _, _, r, v1, ak1, mp1, mm1, hc, Or.inr ⟨v2, rw2, wl2, wy2, hm, rfl, Or.inl ⟨d, rfl, rfl, rfl, rfl, rfl, rfl, rfl⟩⟩⟩
  rcases hch with ⟨r1, -⟩ | ⟨x, x1, r1, -⟩
  · by_cases c : wl = 0
    · exact ⟨_, _, _, _, _, _, _, _, r, v1, ak1, mp1, mm1, hc, Or.inl ⟨by rw [r1]; decide, c, rfl, rfl, rfl, rfl, rfl, rfl, rfl, rfl⟩⟩
    · exact fin _ _ _ _ (Or.inr ⟨by rw [r1]; decide, by omega, rfl, rfl, rfl, _, rfl, rfl⟩)
  · exact fin _ _ _ _ (Or.inl ⟨x, r1, by omega, rfl, rfl, rfl, rfl⟩)
