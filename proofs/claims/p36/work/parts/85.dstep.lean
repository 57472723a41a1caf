/-! the second carrier beside the reference: a step -/
theorem dlearn {wl : Nat} {wy : Nat → Nat → Int32} {ln : Int32} {uy : Nat → Int32} (hW : rW wl wy ln uy) (hwl : wl ≤ 40) {g : Nat} (hg : g < 10) {mp : Nat → Nat → Bool} {mm : Nat → Nat → Nat → Int32} : ∀ (m i : Nat) (xe sg : Nat → Int32), i + m = 41 → i ≤ wl → rM (sLp wy g mp i) (sLm wy g mp mm i) xe sg → rM (sLp wy g mp wl) (sLm wy g mp mm wl) (LX5_learn_t (nI g) ln uy m i xe sg).1 (LX5_learn_t (nI g) ln uy m i xe sg).2 := by
  obtain ⟨w1, w2⟩ := hW
  intro m
  induction m with
  | zero => intro i xe sg h1 h2; exact absurd h1 (by omega)
  | succ m ih =>
    intro i xe sg h1 h2 hM
    have hle : ln ≤ nI i ↔ wl ≤ i := by rw [xle, nI_toInt (by omega), ← w1]; omega
    rw [LX5_learn_t]
    by_cases c : wl ≤ i
    · have ei : i = wl := by omega
      rw [if_pos (hle.mpr c)]
      subst ei
      exact hM
    · rw [if_neg (fun h => c (hle.mp h))]
      obtain ⟨e, e1, e2, e3, e4⟩ := w2 i (by omega)
      have hq : e / 4 < 10 := by omega
      unfold xbind FX4_remembered FX4_remember
      dsimp only
      rw [nI_clamp (show i < 2 ^ 31 by omega), e2, zrm e1, zdvI e1, z10, nI_clamp (by omega)]
      have cq : (wy i 0).toNatClampNeg = e / 4 := by rw [e3, nI_clamp (by omega)]
      have ep : sLp wy g mp (i + 1) = va_up (sLp wy g mp i) g (va_up (sLp wy g mp i g) (e / 4) true) := by rw [sLp, cq]
      have em : sLm wy g mp mm (i + 1) = va_up (sLm wy g mp mm i) g (va_up (sLm wy g mp mm i g) (e / 4) (upd (upd (fun _ => 0) 0 (nI (e % 4))) 1 (sL3 (sLp wy g mp i g (e / 4)) (sLm wy g mp mm i g (e / 4) 0) (sLm wy g mp mm i g (e / 4) 1) (nI (e % 4))))) := by rw [sLm, cq, e4]
      have hs := rM_set hM (g := g) (q := e / 4) (x := e % 4) (y := sL3 (sLp wy g mp i g (e / 4)) (sLm wy g mp mm i g (e / 4) 0) (sLm wy g mp mm i g (e / 4) 1) (nI (e % 4))) hg hq (by omega)
      rw [← ep, ← em] at hs
      by_cases d : xe (10 * g + e / 4) = nI (e % 4)
      · rw [if_pos d]
        rcases hM g (e / 4) hg hq with ⟨k1, k2⟩ | ⟨k1, k2, k3, k4⟩
        · rw [d] at k2
          exact absurd k2 (zm1 (by omega))
        · have e5 : sL3 (sLp wy g mp i g (e / 4)) (sLm wy g mp mm i g (e / 4) 0) (sLm wy g mp mm i g (e / 4) 1) (nI (e % 4)) = if sg (10 * g + e / 4) + 3 < 9 then sg (10 * g + e / 4) + 3 else 9 := by
            unfold sL3 sMin
            rw [if_pos ⟨k1, k3.trans d⟩, k4]
          rw [e5] at hs
          exact ih (i + 1) _ _ (by omega) (by omega) hs
      · rw [if_neg d]
        have e5 : sL3 (sLp wy g mp i g (e / 4)) (sLm wy g mp mm i g (e / 4) 0) (sLm wy g mp mm i g (e / 4) 1) (nI (e % 4)) = 3 := by
          unfold sL3
          refine if_neg (fun h => d ?_)
          rcases hM g (e / 4) hg hq with ⟨k1, k2⟩ | ⟨k1, k2, k3, k4⟩
          · rw [k1] at h; exact absurd h.1 (by decide)
          · rw [← k3]; exact h.2
        rw [e5] at hs
        exact ih (i + 1) _ _ (by omega) (by omega) hs
/-- the reference's contents behind a step, and the second carrier's -/
def rZ (nr : Nat) (rw v' : Nat → Nat → Int32) (v : Nat → Int32) (ak : Nat → Int32) (wl : Nat) (wy : Nat → Nat → Int32) (mp : Nat → Nat → Bool) (mm : Nat → Nat → Nat → Int32) (b : Int32) (z : Int32 × (Int32) × (Int32) × (Int32) × (Int32) × (Int32) × (Int32) × (Int32) × (Int32) × (Int32) × (Nat → Int32) × (Nat → Int32) × (Nat → Int32) × (Nat → Int32) × (Nat → Int32) × (Nat → Int32)) : Prop :=
  ∃ (po co go ln wk db dn iv qs : Int32) (ur uk uy xe sg fb : Nat → Int32), z = (b, po, co, go, ln, wk, db, dn, iv, qs, ur, uk, uy, xe, sg, fb) ∧ rS nr v v' ak wl wy mp mm po co go ln wk db dn iv qs ur uk uy xe sg ∧ rK nr rw v'
theorem rS_end {nr : Nat} {rw : Nat → Nat → Int32} {ur uk : Nat → Int32} (hnr : nr ≤ 20) : ∃ z2 z5 : Nat → Int32, FX4_end ur uk = (-1, 0, z2, z5) ∧ (∀ k, k < nr → sOv rw nr k 4 = z2 k) ∧ (∀ p, p < 10 → (0 : Int32) = z5 p) := by
  obtain ⟨z2, z5, h1, h2, h3⟩ := zendz ur uk
  refine ⟨z2, z5, h1, fun k hk => ?_, fun p hp => (h3 p hp).symm⟩
  unfold sOv
  rw [if_pos hk, h2 k (by omega)]
  exact dup_s
theorem dfin {nr : Nat} {v2 : Nat → Int32} {rw rw2 : Nat → Nat → Int32} {ak1 : Nat → Int32} {wl2 : Nat} {wy2 : Nat → Nat → Int32} {mp1 : Nat → Nat → Bool} {mm1 : Nat → Nat → Nat → Int32} {po co ln wk db dn iv qs : Int32} {ur uk uy xe sg fb : Nat → Int32} {b : Nat} (hb : b < 10) (hnr : nr ≤ 20) (hwl : wl2 ≤ 40) (hS : rS nr v2 rw2 ak1 wl2 wy2 mp1 mm1 po co (nI b) ln wk db dn iv qs ur uk uy xe sg) (hK : rK nr rw rw2)
    {v' : Nat → Int32} {rw' : Nat → Nat → Int32} {ak' : Nat → Int32} {wl' : Nat} {wy' : Nat → Nat → Int32} {mp' : Nat → Nat → Bool} {mm' : Nat → Nat → Nat → Int32}
    (hd : (¬ v2 4 = v2 6 ∧ v' = v2 ∧ rw' = rw2 ∧ ak' = ak1 ∧ wl' = wl2 ∧ wy' = wy2 ∧ mp' = mp1 ∧ mm' = mm1) ∨ (v2 4 = v2 6 ∧ v' = upd (upd v2 11 (v2 11 + 1)) 6 (-1) ∧ rw' = sOv rw2 nr ∧ ak' = (fun _ => 0) ∧ wl' = 0 ∧ wy' = wy2 ∧ mp' = sLp wy2 b mp1 wl2 ∧ mm' = sLm wy2 b mp1 mm1 wl2)) :
    rZ nr rw rw' v' ak' wl' wy' mp' mm' 1 (zf1 po co (nI b) ln wk db dn iv qs ur uk uy xe sg fb) := by
  obtain ⟨⟨s4, s5, s6, s9, s10, s11, s12, s13⟩, hu, hk, hW, hM⟩ := id hS
  unfold zf1
  rw [s4, s6] at hd
  rcases hd with ⟨d0, rfl, rfl, rfl, rfl, rfl, rfl, rfl⟩ | ⟨d0, rfl, rfl, rfl, rfl, rfl, rfl, rfl⟩
  · rw [if_neg d0]
    exact ⟨po, co, nI b, ln, wk, db, dn, iv, qs, ur, uk, uy, xe, sg, fb, rfl, hS, hK⟩
  · rw [if_pos d0]
    obtain ⟨z2, z5, h1, h2, h3⟩ := rS_end (rw := rw2) (ur := ur) (uk := uk) hnr
    have hl := dlearn hW hwl hb 41 0 xe sg rfl (Nat.zero_le _) hM
    rw [h1]
    refine ⟨po, co, -1, 0, wk, db, dn + 1, iv, qs, z2, z5, uy, _, _, fb, rfl, ⟨⟨s4, s5, rfl, s9, s10, ?_, s12, s13⟩, h2, h3, ⟨rfl, fun k hk => absurd hk (by omega)⟩, hl⟩, hK.tr rK_ov⟩
    show v2 11 + 1 = dn + 1
    rw [s11]
section DS
variable {n : Nat} {xn : Nat → Nat} {xr : Nat → Nat → Int32} {nr : Nat} {rw : Nat → Nat → Int32} {pl rs : Int32} {ex ld tw le op rd ml cz : Nat → Int32}
/-- a road is taken -/
theorem dfwd (hL : zL pl rs ex ld tw le op rd ml cz) (hR : rL n xn xr nr rw pl rs ex ld rd ml cz) {a x : Nat} (ha : a < n) (hx : x < xn a) {v1 : Nat → Int32} {ak1 : Nat → Int32} {wl : Nat} {wy : Nat → Nat → Int32} {mp1 : Nat → Nat → Bool} {mm1 : Nat → Nat → Nat → Int32} {po co go ln wk db dn iv qs : Int32} {ur uk uy xe sg : Nat → Int32} (hwl : wl ≤ 20) (hS : rS nr v1 rw ak1 wl wy mp1 mm1 po co go ln wk db dn iv qs ur uk uy xe sg)
    {v2 : Nat → Int32} {rw2 : Nat → Nat → Int32} {wl2 : Nat} {wy2 : Nat → Nat → Int32} (hm : sMv v1 xr rw wl wy a (nI x) v2 rw2 wl2 wy2) :
    ∃ (po2 ln2 wk2 : Int32) (ur2 uy2 : Nat → Int32), FX5_take rd ld ml ln wk ur uy (nI (4 * a + x)) = (po2, ln2, wk2, ur2, uy2) ∧ rS nr v2 rw2 ak1 wl2 wy2 mp1 mm1 po2 co go ln2 wk2 db dn iv qs ur2 uk uy2 xe sg ∧ rK nr rw rw2 ∧ wl2 = wl + 1 := by
  obtain ⟨⟨s4, s5, s6, s9, s10, s11, s12, s13⟩, hu, hk, ⟨hw1, hw2⟩, hM⟩ := hS
  obtain ⟨e1, e2, e3, e4, e5⟩ := rL_e hL hR ha hx
  obtain ⟨t1, t2, t3, t4, t5, t6⟩ := rL_to hL hR ha hx
  obtain ⟨r1, -⟩ := hR.2.2.2.2 _ t5
  rcases hm with ⟨x', x1, x2, rfl, rfl, rfl, rfl⟩ | ⟨x1, -⟩
  · have ex' : x' = x := nI_inj (by omega) (by omega) x1.symm
    subst ex'
    unfold FX5_take
    rw [nI_clamp (by omega), t6]
    refine ⟨_, _, _, _, _, rfl, ⟨⟨?_, s5, s6, ?_, s10, s11, s12, s13⟩, fun k hk' => ?_, hk, ⟨?_, fun j hj => ?_⟩, hM⟩, rK_4, rfl⟩
    · show sTo rw xr a x' = _
      exact t1
    · show v1 9 + rw (xr a x').toNatClampNeg 2 = _
      rw [s9, r1]
    · by_cases c : k = (xr a x').toNatClampNeg
      · subst c
        rw [va_up_self, dup_s, dup_s]
      · rw [va_up_ne _ _ c, dup_n c]
        exact hu k hk'
    · rw [zadd (by rw [← hw1, show (1 : Int32).toInt = 1 from rfl]; omega), ← hw1]
      rfl
    · have hc : ln.toNatClampNeg = wl := by
        obtain ⟨j0, j1, j2, j3⟩ := xofI (x := ln) (by omega)
        rw [j2, nI_clamp j1]
        omega
      unfold sWy
      rw [hc]
      by_cases c : j = wl
      · subst c
        rw [va_up_self, dup_s]
        exact ⟨4 * a + x', e5, rfl, by rw [e2]; rfl, by rw [e3]; rfl⟩
      · rw [va_up_ne _ _ c, dup_n c]
        exact hw2 j (by omega)
  · rw [xltI, nI_toInt (by omega), show (0 : Int32).toInt = 0 from rfl] at x1
    omega
end DS
