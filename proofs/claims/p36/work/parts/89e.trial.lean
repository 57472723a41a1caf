/-! a trial's errand, and an errand's beginning -/
/-- the second carrier's contents at an errand's beginning -/
def rS0 (nr : Nat) (v : Nat → Int32) (rw : Nat → Nat → Int32) (wy : Nat → Nat → Int32) (mp : Nat → Nat → Bool) (mm : Nat → Nat → Nat → Int32) (g : Nat) : sS := (upd v 6 (nI g), sOv rw nr, (fun _ => 0), 0, wy, mp, mm)
section TR
variable {n : Nat} {xn : Nat → Nat} {xr : Nat → Nat → Int32} {nr : Nat} {rw : Nat → Nat → Int32} {pl rs : Int32} {ex ld tw le op rd ml cz : Nat → Int32}
variable {v : Nat → Int32} {wl : Nat} {wy : Nat → Nat → Int32} {mp : Nat → Nat → Bool} {mm : Nat → Nat → Nat → Int32} {a g : Nat}
theorem dStart (hL : zL pl rs ex ld tw le op rd ml cz) (hR : rL n xn xr nr rw pl rs ex ld rd ml cz) (h4 : v 4 = nI a) (ha : a < n) (hg : g < n) (hne : a ≠ g) {B : Int} (hN : rN B 0 v) (hV : sVd n xn v wl wy mp mm) (F : Nat → Nat) {K : Prop} {N S : Nat} (hK : K → eR (zeo pl ex op) (zq ld) (mp g) (dme mm g) g N a ∧ eRs (zq ld) (zq le) (dme mm g) N a = S) :
    rL n xn xr nr (sOv rw nr) pl rs ex ld rd ml cz ∧ sVd n xn (upd v 6 (nI g)) 0 wy mp mm ∧ rN B 0 (upd v 6 (nI g)) ∧ rQ n nr 0 (upd v 6 (nI g)) (sOv rw nr) 0 ∧ rX nr (zeo pl ex op) (zq ld) (zq le) (zr rd) F a g (v 9).toInt (v 10).toInt (v 11) (v 12) K N S mp mm 0 (upd v 6 (nI g)) (sOv rw nr) 0 wy mp mm := by
  have hn := rL_n hL hR
  obtain ⟨hr20, -⟩ := zr_f hL
  have hT0 : ∀ k, tT nr (sOv rw nr) k = false := fun k => by
    unfold tT sOv
    by_cases c : k < nr
    · rw [if_pos c, dup_s, decide_eq_true (show (0 : Int32) = 0 from rfl)]
      exact Bool.and_false _
    · rw [decide_eq_false c]
      rfl
  refine ⟨rL_tr hR rK_ov, ⟨hV.1, Nat.zero_le _, fun k hk => absurd hk (by omega)⟩, hN, ⟨a, h4, ha, Or.inr ⟨g, rfl, hg, hne, by omega, Nat.zero_le _⟩⟩, a, fun _ => 0, 0, 0, ⟨h4, rfl, hne, by omega⟩, eA_0 (fun k _ => hT0 k), eB_0 hr20 (fun k _ => hT0 k) hne, fun k hk => absurd hk (by omega), ⟨?_, ?_, rfl, rfl⟩, fun k => ⟨rfl, rfl, eC_0 (hK k).1 (hK k).2 (fun e _ => hT0 _)⟩⟩
  · show (v 9).toInt = _
    omega
  · show (v 10).toInt = _
    omega
/-- the reference at an errand's beginning -/
theorem dStartS (hnr : nr ≤ 20) {ak : Nat → Int32} {po co go ln wk db dn iv qs : Int32} {ur uk uy xe sg ur2 uk2 uy2 xe2 sg2 : Nat → Int32} (hS : rS nr v rw ak wl wy mp mm po co go ln wk db dn iv qs ur uk uy xe sg) (h1 : ∀ k, k < 20 → ur2 k = 0) (h2 : ∀ k, k < 10 → uk2 k = 0) (h3 : ∀ k, k < 100 → xe2 k = xe k ∧ sg2 k = sg k) : rS nr (rS0 nr v rw wy mp mm g).1 (rS0 nr v rw wy mp mm g).2.1 (rS0 nr v rw wy mp mm g).2.2.1 (rS0 nr v rw wy mp mm g).2.2.2.1 (rS0 nr v rw wy mp mm g).2.2.2.2.1 (rS0 nr v rw wy mp mm g).2.2.2.2.2.1 (rS0 nr v rw wy mp mm g).2.2.2.2.2.2 po co (nI g) 0 wk db dn iv qs ur2 uk2 uy2 xe2 sg2 := by
  obtain ⟨⟨s4, s5, s6, s9, s10, s11, s12, s13⟩, hu, hk, hW, hM⟩ := hS
  refine ⟨⟨s4, s5, rfl, s9, s10, s11, s12, s13⟩, fun k hk' => ?_, fun p hp => (h2 p hp).symm, ⟨rfl, fun k hk => absurd hk (by show ¬ k < 0; omega)⟩, fun g' q hg' hq => ?_⟩
  · show sOv rw nr k 4 = _
    unfold sOv
    rw [if_pos hk', dup_s, h1 k (by omega)]
  · obtain ⟨e1, e2⟩ := h3 (10 * g' + q) (by omega)
    rw [e1, e2]
    exact hM g' q hg' hq
/-- what a trial tells -/
theorem dWalk (hL : zL pl rs ex ld tw le op rd ml cz) (hR : rL n xn xr nr rw pl rs ex ld rd ml cz) {sh sh2 : Nat → Int32} (hsh : ∀ p, p < n → (sh p = 0 ↔ sh2 p = 0)) {B : Int} (hB : 0 ≤ B ∧ B ≤ 1000000) (h4 : v 4 = nI a) (ha : a < n) (hg : g < n) (hN : rN B 0 v) (hV : sVd n xn v wl wy mp mm) {F : Nat → Nat} (hF : eD (zeo pl ex op) (zq ld) (zq le) g F) {K : Prop} {N S : Nat} (hK : K → eR (zeo pl ex op) (zq ld) (mp g) (dme mm g) g N a ∧ eRs (zq ld) (zq le) (dme mm g) N a = S)
    {ak : Nat → Int32} {po co ln wk db dn iv qs : Int32} {ur uk uy xe sg : Nat → Int32} (hS : rS nr v rw ak wl wy mp mm po co (-1) ln wk db dn iv qs ur uk uy xe sg) (hiv : 0 ≤ iv.toInt ∧ iv.toInt ≤ 1000000) (fa vtr vak vwy vxe vsg : Nat → Int32) :
    (a = g ∧ (FX5_walkTo pl ex rd ld ml cz sh2 fa po co (-1) ln wk db dn iv qs ur uk uy xe sg vtr vak vwy vxe vsg (nI g)).1 = 0) ∨
    (a ≠ g ∧ ∃ (k : Nat) (Z : sS), sEnds n xn xr nr sh Z k (rS0 nr v rw wy mp mm g) ∧
      ((rXd (zeo pl ex op) (zq ld) F a g (v 9).toInt (v 10).toInt (v 11) (v 12) K S Z.1 Z.2.2.2.2.2.1 Z.2.2.2.2.2.2 ∧ (FX5_walkTo pl ex rd ld ml cz sh2 fa po co (-1) ln wk db dn iv qs ur uk uy xe sg vtr vak vwy vxe vsg (nI g)).1 = Z.1 9 - wk) ∨
       (rXv F a (v 9).toInt (v 10).toInt (v 11) (v 12) Z.1 ∧ (FX5_walkTo pl ex rd ld ml cz sh2 fa po co (-1) ln wk db dn iv qs ur uk uy xe sg vtr vak vwy vxe vsg (nI g)).1 = -1))) := by
  have hn := rL_n hL hR
  have epo : po = nI a := hS.1.1.symm.trans h4
  subst epo
  have hmi : (-1 : Int32) = -1 := rfl
  by_cases hag : a = g
  · subst hag
    refine Or.inl ⟨rfl, ?_⟩
    unfold FX5_walkTo FX4_become FX5_start FX5_stepsOn xbind xbind2
    dsimp only
    rw [if_pos rfl]
    dsimp only
    have hl : LX5_stepsOn_t pl ex rd ld ml cz sh2 9999 10000 0 (nI a) co (-1) ln wk db (dn + 1) iv qs (va_cpy ur vtr 0 0 20) (va_cpy uk vak 0 0 10) (va_cpy uy vwy 0 0 40) (va_cpy xe vxe 0 0 100) (va_cpy sg vsg 0 0 100) fa = (0, nI a, co, -1, ln, wk, db, dn + 1, iv, qs, va_cpy ur vtr 0 0 20, va_cpy uk vak 0 0 10, va_cpy uy vwy 0 0 40, va_cpy xe vxe 0 0 100, va_cpy sg vsg 0 0 100, fa) := by
      rw [show (10000 : Nat) = 9999 + 1 from rfl, LX5_stepsOn_t, if_neg (by decide), if_pos rfl]
    rw [hl]
    dsimp only
    rw [if_pos (show iv ≤ iv from Int32.le_refl _)]
    exact Int32.sub_self _
  · refine Or.inr ⟨hag, ?_⟩
    obtain ⟨d1, d2, d3, d4, d5⟩ := dStart hL hR h4 ha hg hag hN hV F hK
    obtain ⟨⟨n1, n2⟩, n3, n4, n5⟩ := id hN
    obtain ⟨k, Z, z1, z2⟩ := dRun hL hF hg (sh := sh) hB (wk0 := (v 9).toInt) (db0 := (v 10).toInt) (by omega) (by omega) 41 0 _ _ (fun _ => 0) _ _ _ _ rfl d1 d2 d3 d4 d5
    obtain ⟨y2, y5, b1, b2, b3⟩ := zbeg (va_cpy ur vtr 0 0 20) (va_cpy uk vak 0 0 10) (nI g)
    have hS2 := dStartS (g := g) hn.2.1 hS (uy2 := va_cpy uy vwy 0 0 40) (xe2 := va_cpy xe vxe 0 0 100) (sg2 := va_cpy sg vsg 0 0 100) b2 b3 (fun k hk => ⟨zcp hk, zcp hk⟩)
    obtain ⟨j, po', co', go', ln', wk', db', dn', iv', qs', ur', uk', uy', xe', sg', fa', e1, e2, e3⟩ := dEnd hL hsh hB (L0 := fun N => LX5_stepsOn_t pl ex rd ld ml cz sh2 (nI N) 10000 0 (nI a) co (nI g) 0 wk db dn iv qs y2 y5 (va_cpy uy vwy 0 0 40) (va_cpy xe vxe 0 0 100) (va_cpy sg vsg 0 0 100) fa) (Z := Z) (M := 9999) ⟨by omega, by omega⟩ k 0 _ _ _ _ _ _ _ ⟨by omega, d1, d2, d3, d4, _, _, _, _, _, _, _, _, _, _, _, _, _, _, fa, hS2, fun N _ _ => rfl⟩ z1
    have hw : (FX5_walkTo pl ex rd ld ml cz sh2 fa (nI a) co (-1) ln wk db dn iv qs ur uk uy xe sg vtr vak vwy vxe vsg (nI g)).1 = if iv' ≤ iv then wk' - wk else -1 := by
      have hga : ¬ nI g = nI a := fun h => hag (nI_inj (by omega) (by omega) h.symm)
      unfold FX5_walkTo FX4_become FX5_start FX5_stepsOn xbind xbind2
      dsimp only
      rw [if_neg hga, b1]
      dsimp only
      have e3 : LX5_stepsOn_t pl ex rd ld ml cz sh2 9999 10000 0 (nI a) co (nI g) 0 wk db dn iv qs y2 y5 (va_cpy uy vwy 0 0 40) (va_cpy xe vxe 0 0 100) (va_cpy sg vsg 0 0 100) fa = _ := e3
      rw [e3]
      dsimp only
      by_cases c : iv' ≤ iv
      · rw [if_pos c, if_pos c]
      · rw [if_neg c, if_neg c]
    have s9 : Z.1 9 = wk' := e2.1.2.2.2.1
    have s12 : Z.1 12 = iv' := e2.1.2.2.2.2.2.2.1
    have v12 : v 12 = iv := hS.1.2.2.2.2.2.2.1
    refine ⟨k, Z, z1, ?_⟩
    rw [hw]
    rcases z2 with z2 | z2
    · refine Or.inl ⟨z2, ?_⟩
      have h12 := z2.1.2.2.2
      rw [s12, v12] at h12
      rw [h12, if_pos (Int32.le_refl _), s9]
    · refine Or.inr ⟨z2, ?_⟩
      have h12 := z2.1.2.2.2
      rw [s12, v12] at h12
      rw [h12, if_neg]
      intro h
      rw [xle, zadd (by rw [show (1 : Int32).toInt = 1 from rfl]; omega), show (1 : Int32).toInt = 1 from rfl] at h
      omega
end TR
