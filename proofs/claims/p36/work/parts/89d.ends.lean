/-! the second carrier's steps lead to one end -/
section DE
variable {n : Nat} {xn : Nat → Nat} {xr : Nat → Nat → Int32} {nr : Nat} {rw : Nat → Nat → Int32} {sh : Nat → Int32}
variable {v v1 v2 : Nat → Int32} {rw1 rw2 : Nat → Nat → Int32} {ak ak1 ak2 : Nat → Int32} {wl wl1 wl2 : Nat} {wy wy1 wy2 : Nat → Nat → Int32} {mp mp1 mp2 : Nat → Nat → Bool} {mm mm1 mm2 : Nat → Nat → Nat → Int32} {q g : Nat} {r1 r2 b1 b2 : Int32}
theorem sChR_det (h1 : sChR v n xn xr nr rw sh ak mp mm q g r1 v1 ak1 mp1 mm1) (h2 : sChR v n xn xr nr rw sh ak mp mm q g r2 v2 ak2 mp2 mm2) : r1 = r2 ∧ v1 = v2 ∧ ak1 = ak2 ∧ mp1 = mp2 ∧ mm1 = mm2 := by
  rcases h1 with ⟨c, rfl, rfl, rfl, rfl, rfl⟩ | ⟨c, d, rfl, rfl, rfl, rfl, rfl⟩ | ⟨c, d, rfl, rfl, h1⟩
  · rcases h2 with ⟨_, e1, e2, e3, e4, e5⟩ | ⟨c2, _⟩ | ⟨c2, _⟩
    · exact ⟨e1.symm, e2.symm, e3.symm, e4.symm, e5.symm⟩
    · exact absurd c c2
    · exact absurd c c2
  · rcases h2 with ⟨c2, _⟩ | ⟨_, _, e1, e2, e3, e4, e5⟩ | ⟨_, d2, _⟩
    · exact absurd c2 c
    · exact ⟨e1.symm, e2.symm, e3.symm, e4.symm, e5.symm⟩
    · exact absurd d2 d
  · rcases h2 with ⟨c2, _⟩ | ⟨_, d2, _⟩ | ⟨_, _, e2, e3, h2⟩
    · exact absurd c2 c
    · exact absurd d d2
    · refine ⟨?_, e2.symm, e3.symm, ?_⟩
      · rcases h1 with ⟨f, g1, -⟩ | ⟨f, -, -, g1⟩
        · rcases h2 with ⟨f2, g2, -⟩ | ⟨f2, -⟩
          · exact g1.trans g2.symm
          · exact absurd f f2
        · rcases h2 with ⟨f2, -⟩ | ⟨f2, -, -, g2⟩
          · exact absurd f2 f
          · exact g1.trans g2.symm
      · rcases h1 with ⟨f, -, g1, g3⟩ | ⟨f, g1, g3, -⟩
        · rcases h2 with ⟨f2, -, g2, g4⟩ | ⟨f2, -⟩
          · exact ⟨g1.trans g2.symm, g3.trans g4.symm⟩
          · exact absurd f f2
        · rcases h2 with ⟨f2, -⟩ | ⟨f2, g2, g4, -⟩
          · exact absurd f2 f
          · exact ⟨g1.trans g2.symm, g3.trans g4.symm⟩
theorem sMv_det (h1 : sMv v xr rw wl wy q r1 v1 rw1 wl1 wy1) (h2 : sMv v xr rw wl wy q r1 v2 rw2 wl2 wy2) : v1 = v2 ∧ rw1 = rw2 ∧ wl1 = wl2 ∧ wy1 = wy2 := by
  rcases h1 with ⟨x, e, hx, a1, a2, a3, a4⟩ | ⟨c, d, a1, a2, a3, mi, a4, a5⟩
  · rcases h2 with ⟨y, f, hy, b1, b2, b3, b4⟩ | ⟨c2, _⟩
    · have exy : x = y := nI_inj (by omega) (by omega) (by rw [← e, f])
      subst exy
      exact ⟨a4.trans b4.symm, a1.trans b1.symm, a2.trans b2.symm, a3.trans b3.symm⟩
    · rw [e] at c2
      exact absurd c2 (dneg hx)
  · rcases h2 with ⟨y, f, hy, -⟩ | ⟨_, _, b1, b2, b3, mj, b4, b5⟩
    · rw [f] at c
      exact absurd c (dneg hy)
    · have : mi = mj := a4.trans b4.symm
      subst this
      exact ⟨a5.trans b5.symm, a1.trans b1.symm, a2.trans b2.symm, a3.trans b3.symm⟩
theorem sStR_det (h1 : sStR v n xn xr nr rw sh ak wl wy mp mm q g b1 v1 rw1 ak1 wl1 wy1 mp1 mm1) (h2 : sStR v n xn xr nr rw sh ak wl wy mp mm q g b2 v2 rw2 ak2 wl2 wy2 mp2 mm2) : b1 = b2 ∧ v1 = v2 ∧ rw1 = rw2 ∧ ak1 = ak2 ∧ wl1 = wl2 ∧ wy1 = wy2 ∧ mp1 = mp2 ∧ mm1 = mm2 := by
  obtain ⟨r, w1, k1, p1, m1, hc1, t1⟩ := h1
  obtain ⟨r', w2, k2, p2, m2, hc2, t2⟩ := h2
  obtain ⟨rfl, rfl, rfl, rfl, rfl⟩ := sChR_det hc1 hc2
  have neg : ∀ {v3 rw3 wl3 wy3}, r < 0 → wl = 0 → ¬ sMv w1 xr rw wl wy q r v3 rw3 wl3 wy3 := fun h0 hw hm => by
    rcases hm with ⟨x, e, hx, -⟩ | ⟨-, d, -⟩
    · rw [e] at h0; exact absurd h0 (dneg hx)
    · omega
  rcases t1 with ⟨c, d, e0, e1, e2, e3, e4, e5, e6, e7⟩ | ⟨v3, rw3, wl3, wy3, hm, e0, hd⟩
  · rcases t2 with ⟨_, _, f0, f1, f2, f3, f4, f5, f6, f7⟩ | ⟨v3, rw3, wl3, wy3, hm, -⟩
    · exact ⟨e0.trans f0.symm, e1.trans f1.symm, e2.trans f2.symm, e3.trans f3.symm, e4.trans f4.symm, e5.trans f5.symm, e6.trans f6.symm, e7.trans f7.symm⟩
    · exact absurd hm (neg c d)
  · rcases t2 with ⟨c, d, -⟩ | ⟨v4, rw4, wl4, wy4, hm2, f0, hd2⟩
    · exact absurd hm (neg c d)
    · obtain ⟨rfl, rfl, rfl, rfl⟩ := sMv_det hm hm2
      rcases hd with ⟨c, e1, e2, e3, e4, e5, e6, e7⟩ | ⟨c, e1, e2, e3, e4, e5, e6, e7⟩
      · rcases hd2 with ⟨_, f1, f2, f3, f4, f5, f6, f7⟩ | ⟨c2, -⟩
        · exact ⟨e0.trans f0.symm, e1.trans f1.symm, e2.trans f2.symm, e3.trans f3.symm, e4.trans f4.symm, e5.trans f5.symm, e6.trans f6.symm, e7.trans f7.symm⟩
        · exact absurd c2 c
      · rcases hd2 with ⟨c2, -⟩ | ⟨_, f1, f2, f3, f4, f5, f6, f7⟩
        · exact absurd c c2
        · exact ⟨e0.trans f0.symm, e1.trans f1.symm, e2.trans f2.symm, e3.trans f3.symm, e4.trans f4.symm, e5.trans f5.symm, e6.trans f6.symm, e7.trans f7.symm⟩
end DE
/-- what changes of the second carrier -/
abbrev sS := (Nat → Int32) × (Nat → Nat → Int32) × (Nat → Int32) × Nat × (Nat → Nat → Int32) × (Nat → Nat → Bool) × (Nat → Nat → Nat → Int32)
/-- its steps end so -/
def sEnds (n : Nat) (xn : Nat → Nat) (xr : Nat → Nat → Int32) (nr : Nat) (sh : Nat → Int32) (Z : sS) : Nat → sS → Prop
  | 0, S => S = Z ∧ S.1 6 < 0
  | d + 1, S => ¬ S.1 6 < 0 ∧ ∃ (q g : Nat) (b : Int32) (S' : sS), (S.1 4 = nI q ∧ q < n) ∧ (S.1 6 = nI g ∧ g < n) ∧ sStR S.1 n xn xr nr S.2.1 sh S.2.2.1 S.2.2.2.1 S.2.2.2.2.1 S.2.2.2.2.2.1 S.2.2.2.2.2.2 q g b S'.1 S'.2.1 S'.2.2.1 S'.2.2.2.1 S'.2.2.2.2.1 S'.2.2.2.2.2.1 S'.2.2.2.2.2.2 ∧ sEnds n xn xr nr sh Z d S'
theorem sEnds_step {n : Nat} {xn : Nat → Nat} {xr : Nat → Nat → Int32} {nr : Nat} {sh : Nat → Int32} {Z : sS} {d : Nat} {v v' : Nat → Int32} {rw rw' : Nat → Nat → Int32} {ak ak' : Nat → Int32} {wl wl' : Nat} {wy wy' : Nat → Nat → Int32} {mp mp' : Nat → Nat → Bool} {mm mm' : Nat → Nat → Nat → Int32} (hn : n ≤ 10) (h : sEnds n xn xr nr sh Z d (v, rw, ak, wl, wy, mp, mm)) (h6 : ¬ v 6 < 0) {q g : Nat} {b : Int32} (hq : v 4 = nI q ∧ q < n) (hg : v 6 = nI g ∧ g < n) (hst : sStR v n xn xr nr rw sh ak wl wy mp mm q g b v' rw' ak' wl' wy' mp' mm') : ∃ d', sEnds n xn xr nr sh Z d' (v', rw', ak', wl', wy', mp', mm') := by
  cases d with
  | zero => exact absurd h.2 h6
  | succ d =>
    obtain ⟨-, q2, g2, b2, ⟨v2, rw2, ak2, wl2, wy2, mp2, mm2⟩, ⟨hq2, hq3⟩, ⟨hg2, hg3⟩, hst2, hE⟩ := h
    have e1 : q2 = q := nI_inj (by omega) (by omega) (hq2.symm.trans hq.1)
    have e2 : g2 = g := nI_inj (by omega) (by omega) (hg2.symm.trans hg.1)
    subst e1; subst e2
    obtain ⟨-, f1, f2, f3, f4, f5, f6, f7⟩ := sStR_det hst hst2
    dsimp only at f1 f2 f3 f4 f5 f6 f7
    subst f1; subst f2; subst f3; subst f4; subst f5; subst f6; subst f7
    exact ⟨d, hE⟩
section RN
variable {n : Nat} {xn : Nat → Nat} {xr : Nat → Nat → Int32} {nr : Nat} {pl rs : Int32} {ex ld tw le op rd ml cz : Nat → Int32}
/-- an errand's steps have an end: done or in vain -/
theorem dRun (hL : zL pl rs ex ld tw le op rd ml cz) {F : Nat → Nat} {fr g : Nat} (hF : eD (zeo pl ex op) (zq ld) (zq le) g F) (hg : g < n) {sh : Nat → Int32} {B : Int} (hB : 0 ≤ B ∧ B ≤ 1000000) {wk0 db0 : Int} (hwk0 : 0 ≤ wk0 ∧ wk0 ≤ 1000000) (hdb0 : 0 ≤ db0 ∧ db0 ≤ 1000000) {dn0 iv0 : Int32} {K : Prop} {N S : Nat} {mp0 : Nat → Nat → Bool} {mm0 : Nat → Nat → Nat → Int32} :
    ∀ (d i : Nat) (v : Nat → Int32) (rw : Nat → Nat → Int32) (ak : Nat → Int32) (wl : Nat) (wy : Nat → Nat → Int32) (mp : Nat → Nat → Bool) (mm : Nat → Nat → Nat → Int32), i + d = 41 → rL n xn xr nr rw pl rs ex ld rd ml cz → sVd n xn v wl wy mp mm → rN B i v → rQ n nr i v rw wl → rX nr (zeo pl ex op) (zq ld) (zq le) (zr rd) F fr g wk0 db0 dn0 iv0 K N S mp0 mm0 i v rw wl wy mp mm →
    ∃ (k : Nat) (Z : sS), sEnds n xn xr nr sh Z k (v, rw, ak, wl, wy, mp, mm) ∧ (rXd (zeo pl ex op) (zq ld) F fr g wk0 db0 dn0 iv0 K S Z.1 Z.2.2.2.2.2.1 Z.2.2.2.2.2.2 ∨ rXv F fr wk0 db0 dn0 iv0 Z.1) := by
  intro d
  induction d with
  | zero =>
    intro i v rw ak wl wy mp mm hi hR hV hN hQ hX
    obtain ⟨a, W, wk, db, -, ⟨-, -, -, -, a5, -⟩, -⟩ := hX
    omega
  | succ d ih =>
    intro i v rw ak wl wy mp mm hi hR hV hN hQ hX
    have hn := rL_n hL hR
    obtain ⟨a, a1, a2, a3⟩ := id hQ
    have hv6 : v 6 = nI g := by
      obtain ⟨-, -, -, -, ⟨-, h, -⟩, -⟩ := id hX
      exact h
    have h6 : ¬ v 6 < 0 := fun h => by
      rw [hv6, xltI, nI_toInt (by omega), show (0 : Int32).toInt = 0 from rfl] at h
      omega
    rcases a3 with a3 | ⟨b, b1, b2, b3, b4⟩
    · exact absurd (by rw [a3]; decide) h6
    · have ebg : b = g := nI_inj (by omega) (by omega) (b1.symm.trans hv6)
      subst ebg
      obtain ⟨b', v', rw', ak', wl', wy', mp', mm', hst⟩ := sStR_tot v n xn xr nr rw sh ak wl wy mp mm a b a2 (by omega) (hn.2.2 a a2) hV
      obtain ⟨j1, j2, j3, j4⟩ := dIn hL hR hB a2 a1 hg hv6 hV hN b4 hst
      have hR2 : rL n xn xr nr rw' pl rs ex ld rd ml cz := by
        obtain ⟨r, v1, ak1, mp1, mm1, -, hT⟩ := hst
        rcases hT with ⟨-, -, -, -, rfl, -⟩ | ⟨v2, rw2, wl2, wy2, hm, -, hd⟩
        · exact rL_tr hR rK_ov
        · have hR3 : rL n xn xr nr rw2 pl rs ex ld rd ml cz := by
            rcases hm with ⟨x, -, -, rfl, -⟩ | ⟨-, -, h, -⟩
            · exact rL_tr hR rK_4
            · rw [h]; exact hR
          rcases hd with ⟨-, -, h, -⟩ | ⟨-, -, rfl, -⟩
          · rw [h]; exact hR3
          · exact rL_tr hR3 rK_ov
      rcases dX hL hR hF hwk0 hdb0 a2 a1 hg hV hX hst with ⟨-, k2⟩ | ⟨-, k2⟩ | ⟨-, k2⟩
      · obtain ⟨k, Z, z1, z2⟩ := ih (i + 1) v' rw' ak' wl' wy' mp' mm' (by omega) hR2 j2 j3 j4 k2
        exact ⟨k + 1, Z, ⟨h6, a, b, b', (v', rw', ak', wl', wy', mp', mm'), ⟨a1, a2⟩, ⟨hv6, hg⟩, hst, z1⟩, z2⟩
      · exact ⟨1, (v', rw', ak', wl', wy', mp', mm'), ⟨h6, a, b, b', (v', rw', ak', wl', wy', mp', mm'), ⟨a1, a2⟩, ⟨hv6, hg⟩, hst, rfl, by show v' 6 < 0; rw [k2.1.2.1]; decide⟩, Or.inl k2⟩
      · exact ⟨1, (v', rw', ak', wl', wy', mp', mm'), ⟨h6, a, b, b', (v', rw', ak', wl', wy', mp', mm'), ⟨a1, a2⟩, ⟨hv6, hg⟩, hst, rfl, by show v' 6 < 0; rw [k2.1.2.1]; decide⟩, Or.inr k2⟩
/-- where the second carrier's steps end, the reference's loop ends -/
theorem dEnd (hL : zL pl rs ex ld tw le op rd ml cz) {sh sh2 : Nat → Int32} (hsh : ∀ p, p < n → (sh p = 0 ↔ sh2 p = 0)) {B : Int} (hB : 0 ≤ B ∧ B ≤ 1000000) {L0 : rLoop} {Z : sS} {M : Nat} (hM : 42 ≤ M ∧ M ≤ 9999) : ∀ (k i : Nat) (v : Nat → Int32) (rw : Nat → Nat → Int32) (ak : Nat → Int32) (wl : Nat) (wy : Nat → Nat → Int32) (mp : Nat → Nat → Bool) (mm : Nat → Nat → Nat → Int32), rG n xn xr nr pl rs ex ld rd ml cz sh2 B L0 i v rw ak wl wy mp mm → sEnds n xn xr nr sh Z k (v, rw, ak, wl, wy, mp, mm) → ∃ (j : Nat) (po co go ln wk db dn iv qs : Int32) (ur uk uy xe sg fa : Nat → Int32), j ≤ 41 ∧ rS nr Z.1 Z.2.1 Z.2.2.1 Z.2.2.2.1 Z.2.2.2.2.1 Z.2.2.2.2.2.1 Z.2.2.2.2.2.2 po co go ln wk db dn iv qs ur uk uy xe sg ∧ L0 M = (j, po, co, go, ln, wk, db, dn, iv, qs, ur, uk, uy, xe, sg, fa) := by
  intro k
  induction k with
  | zero =>
    intro i v rw ak wl wy mp mm hG hE
    obtain ⟨rfl, h6⟩ := hE
    have hn := (rL_n hL hG.2.1).1
    have hi := hG.1
    obtain ⟨po, co, go, ln, wk, db, dn, iv, qs, ur, uk, uy, xe, sg, fa, h1, h2⟩ := rG_end hn hG (N := M) (by omega) hM.2 (Or.inr h6)
    exact ⟨i, po, co, go, ln, wk, db, dn, iv, qs, ur, uk, uy, xe, sg, fa, hi, h1, h2⟩
  | succ k ih =>
    intro i v rw ak wl wy mp mm hG hE
    obtain ⟨h6, q, g, b, ⟨v', rw', ak', wl', wy', mp', mm'⟩, ⟨hq, hq2⟩, ⟨hg, hg2⟩, hst, hE⟩ := hE
    have hi := hG.1
    obtain ⟨hb, s1, s2⟩ := rG_step hL hB hsh hG h6 hq hq2 hg hg2 hst
    by_cases c : b = 0
    · obtain ⟨e1, e2, e3, e4, e5, po, co, go, ln, wk, db, dn, iv, qs, ur, uk, uy, xe, sg, fa, e6, e7⟩ := s2 c
      have h6' : v' 6 < 0 := by
        obtain ⟨r, v1, ak1, mp1, mm1, -, hT⟩ := hst
        rcases hT with ⟨-, -, -, h, -⟩ | ⟨v2, rw2, wl2, wy2, -, h, -⟩
        · have h : v' = _ := h
          rw [h]
          show (-1 : Int32) < 0
          decide
        · rw [c] at h; exact absurd h (by decide)
      cases k with
      | zero =>
        obtain ⟨h, -⟩ := hE
        rw [← h]
        exact ⟨i, po, co, go, ln, wk, db, dn, iv, qs, ur, uk, uy, xe, sg, fa, hi, e6, e7 M (by omega) hM.2⟩
      | succ k => exact absurd h6' hE.1
    · exact ih (i + 1) v' rw' ak' wl' wy' mp' mm' (s1 c) hE
end RN
