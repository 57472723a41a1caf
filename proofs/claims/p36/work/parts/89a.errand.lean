/-! the second carrier's errand: what holds behind each step, and at its end -/
def rX (nr : Nat) (E : Nat → Bool) (q w r : Nat → Nat) (F : Nat → Nat) (fr g : Nat) (wk0 db0 : Int) (dn0 iv0 : Int32) (K : Prop) (N S : Nat) (mp0 : Nat → Nat → Bool) (mm0 : Nat → Nat → Nat → Int32) (i : Nat) (v : Nat → Int32) (rw : Nat → Nat → Int32) (wl : Nat) (wy : Nat → Nat → Int32) (mp : Nat → Nat → Bool) (mm : Nat → Nat → Nat → Int32) : Prop :=
  ∃ (a : Nat) (W : Nat → Nat) (wk db : Nat), (v 4 = nI a ∧ v 6 = nI g ∧ a ≠ g ∧ a < 10) ∧ eA E q w r F fr i a (tT nr rw) wl W wk db ∧ eB E r fr g a (tT nr rw) wl W ∧ dWy wl wy W ∧ ((v 9).toInt = wk0 + wk ∧ (v 10).toInt = db0 + db ∧ v 11 = dn0 ∧ v 12 = iv0) ∧ (K → mp = mp0 ∧ mm = mm0 ∧ eC E q w r (mp0 g) (dme mm0 g) g N S a (tT nr rw) wl W wk db)
def rXd (E : Nat → Bool) (q : Nat → Nat) (F : Nat → Nat) (fr g : Nat) (wk0 db0 : Int) (dn0 iv0 : Int32) (K : Prop) (S : Nat) (v : Nat → Int32) (mp : Nat → Nat → Bool) (mm : Nat → Nat → Nat → Int32) : Prop :=
  (v 4 = nI g ∧ v 6 = -1 ∧ v 11 = dn0 + 1 ∧ v 12 = iv0) ∧ (∃ wk db : Nat, (v 9).toInt = wk0 + wk ∧ (v 10).toInt = db0 + db ∧ F fr ≤ wk ∧ 2 * db ≤ wk ∧ wk ≤ 360 ∧ (K → wk = S)) ∧ ∃ n, eR E q (mp g) (dme mm g) g n fr
def rXv (F : Nat → Nat) (fr : Nat) (wk0 db0 : Int) (dn0 iv0 : Int32) (v : Nat → Int32) : Prop :=
  (v 4 = nI fr ∧ v 6 = -1 ∧ v 11 = dn0 ∧ v 12 = iv0 + 1) ∧ ¬ F fr < 9999 ∧ ∃ db : Nat, (v 9).toInt = wk0 + 2 * db ∧ (v 10).toInt = db0 + db ∧ 2 * db ≤ 360
section EX
variable {n : Nat} {xn : Nat → Nat} {xr : Nat → Nat → Int32} {nr : Nat} {rw : Nat → Nat → Int32} {pl rs : Int32} {ex ld tw le op rd ml cz : Nat → Int32}
theorem dX (hL : zL pl rs ex ld tw le op rd ml cz) (hR : rL n xn xr nr rw pl rs ex ld rd ml cz) {F : Nat → Nat} {fr g : Nat} (hF : eD (zeo pl ex op) (zq ld) (zq le) g F) {wk0 db0 : Int} (hwk0 : 0 ≤ wk0 ∧ wk0 ≤ 1000000) (hdb0 : 0 ≤ db0 ∧ db0 ≤ 1000000) {dn0 iv0 : Int32} {K : Prop} {N S : Nat} {mp0 : Nat → Nat → Bool} {mm0 : Nat → Nat → Nat → Int32} {i : Nat} {v v' : Nat → Int32} {rw' : Nat → Nat → Int32} {sh ak ak' : Nat → Int32} {wl wl' : Nat} {wy wy' : Nat → Nat → Int32} {mp mp' : Nat → Nat → Bool} {mm mm' : Nat → Nat → Nat → Int32} {a : Nat} {b : Int32} (ha : a < n) (h4 : v 4 = nI a) (hg : g < n)
    (hV : sVd n xn v wl wy mp mm) (hX : rX nr (zeo pl ex op) (zq ld) (zq le) (zr rd) F fr g wk0 db0 dn0 iv0 K N S mp0 mm0 i v rw wl wy mp mm) (hst : sStR v n xn xr nr rw sh ak wl wy mp mm a g b v' rw' ak' wl' wy' mp' mm') :
    (b = 1 ∧ rX nr (zeo pl ex op) (zq ld) (zq le) (zr rd) F fr g wk0 db0 dn0 iv0 K N S mp0 mm0 (i + 1) v' rw' wl' wy' mp' mm') ∨ (b = 1 ∧ rXd (zeo pl ex op) (zq ld) F fr g wk0 db0 dn0 iv0 K S v' mp' mm') ∨ (b = 0 ∧ rXv F fr wk0 db0 dn0 iv0 v') := by
  have hn := rL_n hL hR
  have hT := rL_eT hL
  obtain ⟨hr, hw, hrt, hri, hq10⟩ := zr_f hL
  have hx4 := hn.2.2 a ha
  obtain ⟨a', W, wk, db, ⟨x4, x6, xag, haa⟩, hA, hB, hWy, ⟨x9, x10, x11, x12⟩, hK⟩ := hX
  have haa2 : a' = a := nI_inj (by omega) (by omega) (by rw [← x4, h4])
  subst haa2
  have hA' := hA
  obtain ⟨a1, a2, a3, a4, a5, a6⟩ := hA'
  obtain ⟨r, v1, ak1, mp1, mm1, hc, hTl⟩ := hst
  obtain ⟨⟨y4, y6, y9, y10, y11, y12⟩, hch, hrule⟩ := dch (fun h => hV.1 g a' (by omega) ha h) hx4 hc
  -- nothing is free there
  have hnone : (∀ x, x < xn a' → sFr rw xr a' x = 0) → ∀ e, zeo pl ex op e = true → e / 4 = a' → tT nr rw (zr rd e) = true := fun h e he hea => by
    obtain ⟨b1, b2, b3⟩ := rL_x hR (zeo_iff.mp he).1
    rw [hea] at b2 b3
    cases ht : tT nr rw (zr rd e) with
    | true => rfl
    | false => exact absurd (h (e % 4) b2) ((dfree2 hL hR ha b2).mpr (by rw [b3]; exact ⟨he, ht⟩))
  -- by a known way
  have hknown : K → r = mm g a' 0 ∧ mp1 = mp ∧ mm1 = mm ∧ ∃ x, x < xn a' ∧ mm g a' 0 = nI x ∧ 4 * a' + x = dme mm g a' := fun k => by
    obtain ⟨k1, k2, k3⟩ := hK k
    obtain ⟨f1, f2, f3, f4, f5⟩ := eC_free hT hri k3 xag
    rw [← k1] at f1
    rw [← k2] at f2 f3 f4
    obtain ⟨x, z1, z2⟩ := hV.1 g a' (by omega) ha f1
    have ed : dme mm g a' = 4 * a' + x := by unfold dme; rw [z1, nI_clamp (by omega)]
    rw [ed] at f2 f3 f4
    obtain ⟨r1, r2, r3⟩ := hrule f1 (by rw [z1, nI_clamp (by omega)]; exact (dfree2 hL hR ha z2).mpr ⟨f2, f4⟩)
    exact ⟨r1, r2, r3, x, z2, z1, ed.symm⟩
  rcases hTl with ⟨h0, hw0, rfl, rfl, rfl, rfl, rfl, rfl, rfl, rfl⟩ | ⟨v2, rw2, wl2, wy2, hm, rfl, hd⟩
  · subst hw0
    rcases hch with ⟨r1, r2⟩ | ⟨x, x1, rfl, -⟩
    · obtain ⟨e1, e2, e3⟩ := eVain hT hrt hF hA hB (hnone r2)
      refine Or.inr (Or.inr ⟨rfl, ⟨by show v1 4 = _; rw [y4, h4, e2], rfl, by show v1 11 = _; rw [y11, x11], by show v1 12 + 1 = _; rw [y12, x12]⟩, e1, db, ?_, ?_, by omega⟩)
      · show (v1 9).toInt = _
        rw [y9, x9, e3]
        omega
      · show (v1 10).toInt = _
        rw [y10, x10]
    · exact absurd h0 (dneg (by omega))
  · rcases hm with ⟨x', z1, z2, rfl, rfl, rfl, rfl⟩ | ⟨h0, hw0, rfl, rfl, rfl, mi, m1, rfl⟩
    · rcases hch with ⟨r1, -⟩ | ⟨x, x1, r2, r3⟩
      · rw [r1] at z1
        exact absurd z1.symm (zm1 (by omega))
      · have exx : x' = x := nI_inj (by omega) (by omega) (by rw [← z1, r2])
        subst exx
        obtain ⟨he, ht⟩ := (dfree2 hL hR ha x1).mp r3
        obtain ⟨e1, e2, e3, e4, e5⟩ := rL_e hL hR ha x1
        obtain ⟨t1, t2, t3, t4, t5, t6⟩ := rL_to hL hR ha x1
        have hk : (xr a' x').toNatClampNeg = zr rd (4 * a' + x') := t6.symm
        have hld := hL.2.2.2.1 _ e1.1
        have hto : sTo rw xr a' x' = nI (zq ld (4 * a' + x')) := by rw [t1]; exact (znI hld.1).symm
        have hmi := (hL.2.2.2.2.2.2.2.2.2.1 _ e1).2.2.1
        have hmn : ((zq le (4 * a' + x') : Nat) : Int) = (le (4 * a' + x')).toInt := znat (by omega)
        have hT1 : tT nr (va_up rw (xr a' x').toNatClampNeg (upd (rw (xr a' x').toNatClampNeg) 4 1)) (zr rd (4 * a' + x')) = true := by
          unfold tT
          rw [← hk, va_up_self, dup_s, decide_eq_true t5]
          rfl
        have hT2 : ∀ k, k ≠ zr rd (4 * a' + x') → tT nr (va_up rw (xr a' x').toNatClampNeg (upd (rw (xr a' x').toNatClampNeg) 4 1)) k = tT nr rw k := fun k hk' => by
          unfold tT
          rw [va_up_ne _ _ (by rw [hk]; exact hk')]
        obtain ⟨W2, hW1, hW2⟩ : ∃ W2 : Nat → Nat, W2 wl = 4 * a' + x' ∧ ∀ j, j < wl → W2 j = W j := ⟨fun j => if j = wl then 4 * a' + x' else W j, if_pos rfl, fun j hj => if_neg (by omega)⟩
        have hA2 := eA_fwd hF hr hw hA he e2 ht hT1 hT2 hW1 hW2
        have hWy2 : dWy (wl + 1) (sWy wy wl a' x') W2 := fun k hk' => by
          unfold sWy
          by_cases c : k = wl
          · subst c
            rw [va_up_self, hW1, e2, e3]
            exact ⟨rfl, rfl⟩
          · rw [va_up_ne _ _ c, hW2 k (by omega)]
            exact hWy k (by omega)
        have h9 : (v1 9 + rw (xr a' x').toNatClampNeg 2).toInt = wk0 + ((wk + zq le (4 * a' + x') : Nat) : Int) := by
          rw [y9, t2, zadd (by omega), x9]
          omega
        have hkk : K → eC (zeo pl ex op) (zq ld) (zq le) (zr rd) (mp0 g) (dme mm0 g) g N S (zq ld (4 * a' + x')) (tT nr (va_up rw (xr a' x').toNatClampNeg (upd (rw (xr a' x').toNatClampNeg) 4 1))) (wl + 1) W2 (wk + zq le (4 * a' + x')) db := fun k => by
          obtain ⟨k1, k2, k3⟩ := hK k
          obtain ⟨j1, j2, j3, x, j4, j5, j6⟩ := hknown k
          have exx : x = x' := nI_inj (by omega) (by omega) (by rw [← j5, ← j1, r2])
          subst exx
          rw [k2] at j6
          rw [j6] at hT2 hW1 ⊢
          exact eC_step hT hri k3 xag hT2 hW1 hW2
        rcases hd with ⟨d0, rfl, rfl, rfl, rfl, rfl, rfl, rfl⟩ | ⟨d0, rfl, rfl, rfl, rfl, rfl, rfl, rfl⟩
        · have hne : zq ld (4 * a' + x') ≠ g := fun h => d0 (by
            show sTo rw xr a' x' = v1 6
            rw [hto, h, y6, x6])
          refine Or.inl ⟨rfl, zq ld (4 * a' + x'), _, _, db, ⟨hto, by show v1 6 = _; rw [y6, x6], hne, hq10 _ he⟩, hA2, eB_fwd hT hrt hri hA hB he e2 hne hT1 hT2 hW1 hW2, hWy2, ⟨h9, by show (v1 10).toInt = _; rw [y10, x10], by show v1 11 = _; rw [y11, x11], by show v1 12 = _; rw [y12, x12]⟩, fun k => ?_⟩
          obtain ⟨k1, k2, k3⟩ := hK k
          obtain ⟨j1, j2, j3, -⟩ := hknown k
          exact ⟨j2.trans k1, j3.trans k2, hkk k⟩
        · have hqg : zq ld (4 * a' + x') = g := nI_inj (by have := hq10 _ he; omega) (by omega) (by
            have d0 : sTo rw xr a' x' = v1 6 := d0
            rw [← hto, d0, y6, x6])
          rw [hqg] at hA2
          obtain ⟨g1, g2, g3⟩ := eDone hF hA2
          have h40 : ∀ k, k < wl + 1 → W2 k < 40 := fun k hk' => (zeE hL (hA2.1 k hk').1).1.1
          have hsl := sL_last hWy2 h40 (g := g) (mp := mp1) (mm := mm1) (wl + 1) (Nat.le_refl _)
          refine Or.inr (Or.inl ⟨rfl, ⟨by show sTo rw xr a' x' = _; rw [hto, hqg], rfl, by show v1 11 + 1 = _; rw [y11, x11], by show v1 12 = _; rw [y12, x12]⟩, ⟨_, db, h9, by show (v1 10).toInt = _; rw [y10, x10], g1, by omega, by omega, fun k => ?_⟩, ?_⟩)
          · have h3 := hkk k
            rw [hqg] at h3
            exact eC_end h3
          · refine eLead hA2 (fun k hk' => ?_) (fun k hk' => ?_)
            · by_cases c : k = wl
              · subst c; rw [hW1, e2]; exact xag
              · rw [hW2 k (by omega)]
                obtain ⟨b1, b2, b3⟩ := a1 k (by omega)
                exact (hB _ (Or.inr ⟨_, b1, b3, rfl⟩)).1
            · obtain ⟨m1, j, j1, j2, j3, j4⟩ := hsl k hk'
              refine ⟨m1, j, j1, j2, j3, ?_⟩
              have := h40 j j2
              unfold dme
              rw [j4, nI_clamp (by omega)]
              omega
    · rcases hch with ⟨r1, r2⟩ | ⟨x, x1, rfl, -⟩
      · obtain ⟨wl0, hwl0⟩ : ∃ k, wl = k + 1 := ⟨wl - 1, by omega⟩
        subst hwl0
        rw [Nat.add_sub_cancel] at *
        obtain ⟨b1, b2, b3⟩ := a1 wl0 (by omega)
        obtain ⟨w0, w1⟩ := hWy wl0 (by omega)
        obtain ⟨l1, l2, l3⟩ := rL_x hR (zeo_iff.mp b1).1
        have h40 := (zeE hL b1).1.1
        obtain ⟨t1, t2, t3, t4, t5, t6⟩ := rL_to hL hR l1 l2
        rw [l3] at t2
        rw [w0, w1, nI_clamp (by omega), nI_clamp (by omega), t2] at m1
        have hmi := (hL.2.2.2.2.2.2.2.2.2.1 _ (zeo_iff.mp b1).1).2.2.1
        have hmn : ((zq le (W wl0) : Nat) : Int) = (le (W wl0)).toInt := znat (by omega)
        have hA2 := eA_back hT hF hw hA
        have hB2 := eB_back hB (hnone r2)
        have hag : W wl0 / 4 ≠ g := (hB _ (Or.inr ⟨_, b1, b3, rfl⟩)).1
        have hnK : ¬ K := fun k => by
          obtain ⟨j1, j2, j3, x, j4, j5, j6⟩ := hknown k
          rw [j1, j5] at r1
          exact absurd r1 (zm1 (by omega))
        rcases hd with ⟨d0, q1, q2, q3, q4, q5, q6, q7⟩ | ⟨d0, -⟩
        · rw [q1, q2, q4, q5, q6, q7]
          refine Or.inl ⟨rfl, W wl0 / 4, W, _, _, ⟨w0, by show v1 6 = _; rw [y6, x6], hag, by omega⟩, hA2, hB2, fun k hk' => hWy k (by omega), ⟨?_, ?_, by show v1 11 = _; rw [y11, x11], by show v1 12 = _; rw [y12, x12]⟩, fun k => absurd k hnK⟩
          · show (v1 9 + mi).toInt = _
            rw [y9, m1, zadd (by omega), x9]
            omega
          · show (v1 10 + mi).toInt = _
            rw [y10, m1, zadd (by omega), x10]
            omega
        · have d1 : nI (W wl0 / 4) = nI g := by
            have d1 := d0
            rw [← w0, ← x6, ← y6]
            exact d1
          exact absurd (nI_inj (by omega) (by omega) d1) hag
      · exact absurd h0 (dneg (by omega))
end EX
