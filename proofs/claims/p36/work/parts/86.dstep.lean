/-! the second carrier beside the reference: a step, whole -/
section DT
variable {n : Nat} {xn : Nat → Nat} {xr : Nat → Nat → Int32} {nr : Nat} {rw : Nat → Nat → Int32} {pl rs : Int32} {ex ld tw le op rd ml cz : Nat → Int32}
theorem dneg {x : Nat} (h : x < 5) : ¬ nI x < 0 := fun h2 => by
  rw [xltI, nI_toInt (by omega), show (0 : Int32).toInt = 0 from rfl] at h2
  omega
/-- what a step does behind the choice -/
def sTl (v1 : Nat → Int32) (xr rw : Nat → Nat → Int32) (nr wl : Nat) (wy : Nat → Nat → Int32) (ak1 : Nat → Int32) (mp1 : Nat → Nat → Bool) (mm1 : Nat → Nat → Nat → Int32) (q g : Nat) (r b : Int32) (v' : Nat → Int32) (rw' : Nat → Nat → Int32) (ak' : Nat → Int32) (wl' : Nat) (wy' : Nat → Nat → Int32) (mp' : Nat → Nat → Bool) (mm' : Nat → Nat → Nat → Int32) : Prop :=
  ((r < 0 ∧ wl = 0 ∧ b = 0 ∧ v' = upd (upd v1 12 (v1 12 + 1)) 6 (-1) ∧ rw' = sOv rw nr ∧ ak' = (fun _ => 0) ∧ wl' = 0 ∧ wy' = wy ∧ mp' = mp1 ∧ mm' = mm1) ∨
     ∃ (v2 : Nat → Int32) (rw2 : Nat → Nat → Int32) (wl2 : Nat) (wy2 : Nat → Nat → Int32), sMv v1 xr rw wl wy q r v2 rw2 wl2 wy2 ∧ b = 1 ∧
      ((¬ v2 4 = v2 6 ∧ v' = v2 ∧ rw' = rw2 ∧ ak' = ak1 ∧ wl' = wl2 ∧ wy' = wy2 ∧ mp' = mp1 ∧ mm' = mm1) ∨
       (v2 4 = v2 6 ∧ v' = upd (upd v2 11 (v2 11 + 1)) 6 (-1) ∧ rw' = sOv rw2 nr ∧ ak' = (fun _ => 0) ∧ wl' = 0 ∧ wy' = wy2 ∧ mp' = sLp wy2 g mp1 wl2 ∧ mm' = sLm wy2 g mp1 mm1 wl2)))
variable {a b : Nat} {v v1 v' : Nat → Int32} {rw' : Nat → Nat → Int32} {sh sh2 fa ak ak1 ak' : Nat → Int32} {wl wl' : Nat} {wy wy' : Nat → Nat → Int32} {mp mp1 mp' : Nat → Nat → Bool} {mm mm1 mm' : Nat → Nat → Nat → Int32} {r b0 co co1 ln wk db dn iv qs qs1 : Int32} {ur uk uk1 uy xe sg xe1 sg1 fb1 : Nat → Int32}
theorem dtake (hL : zL pl rs ex ld tw le op rd ml cz) (hR : rL n xn xr nr rw pl rs ex ld rd ml cz) (ha : a < n) (hb : b < n) (hwl : wl ≤ 20) {x : Nat} (hx : x < xn a) (hS : rS nr v1 rw ak1 wl wy mp1 mm1 (nI a) co1 (nI b) ln wk db dn iv qs1 ur uk1 uy xe1 sg1) (hT : sTl v1 xr rw nr wl wy ak1 mp1 mm1 a b (nI x) b0 v' rw' ak' wl' wy' mp' mm')
    {z : Int32 × (Int32) × (Int32) × (Int32) × (Int32) × (Int32) × (Int32) × (Int32) × (Int32) × (Int32) × (Nat → Int32) × (Nat → Int32) × (Nat → Int32) × (Nat → Int32) × (Nat → Int32) × (Nat → Int32)} (hz : ∀ (po2 ln2 wk2 : Int32) (ur2 uy2 : Nat → Int32), FX5_take rd ld ml ln wk ur uy (nI (4 * a + x)) = (po2, ln2, wk2, ur2, uy2) → z = zf1 po2 co1 (nI b) ln2 wk2 db dn iv qs1 ur2 uk1 uy2 xe1 sg1 fb1) : rZ nr rw rw' v' ak' wl' wy' mp' mm' b0 z := by
  have hn := rL_n hL hR
  have h4 := hn.2.2 a ha
  rcases hT with ⟨h, -⟩ | ⟨v2, rw2, wl2, wy2, hm, rfl, hd⟩
  · exact absurd h (dneg (by omega))
  · obtain ⟨po2, ln2, wk2, ur2, uy2, t1, t2, t3, t4⟩ := dfwd hL hR ha hx hwl hS hm
    rw [hz _ _ _ _ _ t1]
    exact dfin (by omega) hn.2.1 (by omega) t2 t3 hd
theorem drest (hL : zL pl rs ex ld tw le op rd ml cz) (hR : rL n xn xr nr rw pl rs ex ld rd ml cz) (ha : a < n) (hb : b < n) (hwl : wl ≤ 20) (hwv : ∀ k, k < wl → ∃ q x, wy k 0 = nI q ∧ q < n ∧ wy k 1 = nI x ∧ x < xn q) (hU : zU rd cz ur xe (nI a) (nI b)) (hA : FX5_asks pl ex rd ld ml cz sh2 fa (nI a) co (nI b) ln wk qs ur uk uy xe sg = (0, nI a, co1, ln, wk, qs1, ur, uk1, uy, xe1, sg1, fb1)) (hS : rS nr v1 rw ak1 wl wy mp1 mm1 (nI a) co1 (nI b) ln wk db dn iv qs1 ur uk1 uy xe1 sg1) (hr : r = sFst rw xr a (xn a) 0) (hT : sTl v1 xr rw nr wl wy ak1 mp1 mm1 a b r b0 v' rw' ak' wl' wy' mp' mm') : rZ nr rw rw' v' ak' wl' wy' mp' mm' b0 (FX5_stepOn pl ex rd ld ml cz sh2 fa (nI a) co (nI b) ln wk db dn iv qs ur uk uy xe sg) := by
  have hn := rL_n hL hR
  obtain ⟨⟨s4, s5, s6, s9, s10, s11, s12, s13⟩, hu, hk, ⟨hw1, hw2⟩, hM⟩ := id hS
  rcases dtries hL hR (ur := ur) (uy := uy) hu (po := nI a) (ln := ln) (wk := wk) ha 5 0 (xn a) rfl (by omega) with ⟨f1, f2, f3⟩ | ⟨x, x1, f1, f2, f3⟩
  · rw [f1] at hr
    subst hr
    rcases hT with ⟨-, h0, rfl, rfl, rfl, rfl, rfl, rfl, rfl, rfl⟩ | ⟨v2, rw2, wl2, wy2, hm, rfl, hd⟩
    · rw [zs1_vain hU hA f3 (by rw [xeqI, ← hw1, h0]; rfl)]
      obtain ⟨z2, z5, h1, h2, h3⟩ := rS_end (rw := rw) (ur := ur) (uk := uk1) hn.2.1
      rw [h1]
      refine ⟨nI a, co1, -1, 0, wk, db, dn, iv + 1, qs1, z2, z5, uy, xe1, sg1, fb1, rfl, ⟨⟨s4, s5, rfl, s9, s10, s11, ?_, s13⟩, h2, h3, ⟨rfl, fun k hk => absurd hk (by omega)⟩, hM⟩, rK_ov⟩
      show v1 12 + 1 = iv + 1
      rw [s12]
    · rcases hm with ⟨x', x1, x2, -⟩ | ⟨-, h0, rfl, rfl, rfl, mi, m1, rfl⟩
      · exact absurd x1.symm (zm1 (by omega))
      · obtain ⟨e, e1, e2, e3, e4⟩ := hw2 (wl - 1) (by omega)
        obtain ⟨q, x, q1, q2, q3, q4⟩ := hwv (wl - 1) (by omega)
        have eq : q = e / 4 := nI_inj (by omega) (by omega) (by rw [← q1, e3])
        have hxq := hn.2.2 q q2
        have ex : x = e % 4 := nI_inj (by omega) (by omega) (by rw [← q3, e4])
        have e5 : 4 * q + x = e := by omega
        obtain ⟨t1, t2, t3, t4, t5, t6⟩ := rL_to hL hR q2 q4
        obtain ⟨r1, -⟩ := hR.2.2.2.2 _ t5
        rw [q1, q3, nI_clamp (by omega), nI_clamp (by omega), r1] at m1
        rw [e5] at t6
        have hl1 : (ln - 1).toInt = ln.toInt - 1 := by
          rw [Int32.toInt_sub, show (1 : Int32).toInt = 1 from rfl, Int.bmod_eq_of_le (by omega) (by omega)]
        have hc : (ln - 1).toNatClampNeg = wl - 1 := by
          obtain ⟨j0, j1, j2, j3⟩ := xofI (x := ln - 1) (by omega)
          rw [j2, nI_clamp j1]
          omega
        have hD : FX5_doublesBack rd ml (nI a) ln wk db uy = (1, nI q, ln - 1, wk + mi, db + mi) := by
          unfold FX5_doublesBack
          rw [if_neg (fun h => by rw [h, show (0 : Int32).toInt = 0 from rfl] at hw1; omega), hc, e2, zdvI e1, nI_clamp (by omega), t6, m1, eq]
        rw [zs1_back hU hA f3 hD]
        refine dfin (by omega) hn.2.1 (by omega) (v2 := upd (upd (upd v1 4 _) 9 (v1 9 + mi)) 10 (v1 10 + mi)) ⟨⟨q1, s5, s6, ?_, ?_, s11, s12, s13⟩, hu, hk, ⟨by omega, fun k hk => hw2 k (by omega)⟩, hM⟩ rK_id hd
        · show v1 9 + mi = wk + mi
          rw [s9]
        · show v1 10 + mi = db + mi
          rw [s10]
  · rw [f1] at hr
    subst hr
    exact dtake hL hR ha hb hwl x1 hS hT (fun po2 ln2 wk2 ur2 uy2 ht => by rw [ht] at f3; exact zs1_try hU hA f3)
/-- a step of the second carrier is a step of the reference -/
theorem dstep (hL : zL pl rs ex ld tw le op rd ml cz) (hR : rL n xn xr nr rw pl rs ex ld rd ml cz) (fa : Nat → Int32) (ha : a < n) (hb : b < n) (hV : sVd n xn v wl wy mp mm) (hsh : sh a = 0 ↔ sh2 a = 0) (hco : 0 ≤ co.toInt) (hS : rS nr v rw ak wl wy mp mm (nI a) co (nI b) ln wk db dn iv qs ur uk uy xe sg) (h : sStR v n xn xr nr rw sh ak wl wy mp mm a b b0 v' rw' ak' wl' wy' mp' mm') : rZ nr rw rw' v' ak' wl' wy' mp' mm' b0 (FX5_stepOn pl ex rd ld ml cz sh2 fa (nI a) co (nI b) ln wk db dn iv qs ur uk uy xe sg) := by
  have hn := rL_n hL hR
  obtain ⟨⟨s4, s5, s6, s9, s10, s11, s12, s13⟩, hu, hk, hW, hM⟩ := id hS
  obtain ⟨hV1, hV2, hV3⟩ := hV
  have hrr : FX4_remembered (nI b) xe (nI a) = xe (10 * b + a) := by
    unfold FX4_remembered
    rw [z10, nI_clamp (by omega)]
  have hca : (nI a).toNatClampNeg = a := nI_clamp (by omega)
  obtain ⟨r, v1, ak1, mp1, mm1, hc, hT⟩ := h
  have hT : sTl v1 xr rw nr wl wy ak1 mp1 mm1 a b r b0 v' rw' ak' wl' wy' mp' mm' := hT
  -- what is remembered, where it may not be taken
  have hU : ¬ (mp b a = true ∧ ¬ sFr rw xr a (mm b a 0).toNatClampNeg = 0) → zU rd cz ur xe (nI a) (nI b) := fun hk2 => by
    unfold zU
    rw [hrr]
    rcases hM b a (by omega) (by omega) with ⟨k1, k2⟩ | ⟨k1, k2, k3, k4⟩
    · exact Or.inl k2
    · obtain ⟨x, x1, x2⟩ := hV1 b a (by omega) ha k1
      have x4 := hn.2.2 a ha
      right
      rw [← k3, x1, z4, ← dfree hL hR hu ha x2]
      refine Decidable.byContradiction fun h => hk2 ⟨k1, ?_⟩
      rw [x1, nI_clamp (by omega)]
      exact h
  rcases hc with ⟨⟨c1, c2⟩, rfl, rfl, rfl, rfl, rfl⟩ | ⟨c1, c2, rfl, rfl, rfl, rfl, rfl⟩ | ⟨c1, ⟨c2, c3, c4⟩, rfl, rfl, c5⟩
  · obtain ⟨x, x1, x2⟩ := hV1 b a (by omega) ha c1
    have x4 := hn.2.2 a ha
    rw [x1] at hT
    rw [x1, nI_clamp (by omega), dfree hL hR hu ha x2] at c2
    rcases hM b a (by omega) (by omega) with ⟨k1, k2⟩ | ⟨k1, k2, k3, k4⟩
    · rw [k1] at c1; exact absurd c1 (by decide)
    · refine dtake hL hR ha hb hV2 x2 hS hT (fun po2 ln2 wk2 ur2 uy2 ht => zs1_rem (r := nI x) (by rw [hrr, ← k3, x1]) (zm1 (by omega)) (by rw [z4]; exact c2) (by rw [z4]; exact ht))
  · have hA : FX5_asks pl ex rd ld ml cz sh2 fa (nI a) co (nI b) ln wk qs ur uk uy xe sg = (0, nI a, co, ln, wk, qs, ur, uk, uy, xe, sg, fa) := by
      unfold FX5_asks
      rw [hca]
      by_cases d1 : sh2 a = 0
      · rw [if_pos d1]
      · rw [if_neg d1]
        by_cases d2 : uk a = 0
        · rw [if_pos d2]
          by_cases d3 : co = 0
          · rw [if_pos d3]
          · refine absurd ⟨fun h => d1 (hsh.mp h), by rw [hk a (by omega)]; exact d2, ?_⟩ c2
            rw [xltI, s5, show (0 : Int32).toInt = 0 from rfl]
            rw [xeqI, show (0 : Int32).toInt = 0 from rfl] at d3
            omega
        · rw [if_neg d2]
    exact drest hL hR ha hb hV2 hV3 (hU c1) hA hS rfl hT
  · have d1 : ¬ sh2 a = 0 := fun h => c2 (hsh.mpr h)
    have d2 : uk a = 0 := by rw [← hk a (by omega)]; exact c3
    have d3 : ¬ co = 0 := fun h => by rw [s5, h] at c4; exact absurd c4 (by decide)
    have hk1 : ∀ p, p < 10 → upd ak a 1 p = upd uk a 1 p := fun p hp => by
      by_cases e : p = a
      · subst e; rw [dup_s, dup_s]
      · rw [dup_n e, dup_n e]; exact hk p hp
    have hA0 : FX5_asks pl ex rd ld ml cz sh2 fa (nI a) co (nI b) ln wk qs ur uk uy xe sg = xbind2 (FX5_toldExit pl ex rd ld ml cz fa (nI a) (nI b)) (fun r5 u4 => if r5 = (-1) then ((0, nI a, co - 1, ln, wk, qs + 1, ur, upd uk (nI a).toNatClampNeg 1, uy, xe, sg, u4)) else (xbind (FX4_remember (nI b) xe sg (nI a) r5 3) (fun u9 => if (ur (rd ((4 * nI a) + r5).toNatClampNeg).toNatClampNeg) = 0 then (xbind (FX5_take rd ld ml ln wk ur uy ((4 * nI a) + r5)) (fun u14 => (1, u14.1, co - 1, u14.2.1, u14.2.2.1, qs + 1, u14.2.2.2.1, upd uk (nI a).toNatClampNeg 1, u14.2.2.2.2, u9.1, u9.2, u4))) else ((0, nI a, co - 1, ln, wk, qs + 1, ur, upd uk (nI a).toNatClampNeg 1, uy, u9.1, u9.2, u4))))) := by
      unfold FX5_asks
      rw [hca, if_neg d1, if_pos d2, if_neg d3]
    obtain ⟨w, hw⟩ : ∃ w, w = FX5_toldExit pl ex rd ld ml cz fa (nI a) (nI b) := ⟨_, rfl⟩
    obtain ⟨te, tf⟩ := w
    rw [← hw] at hA0
    unfold xbind2 at hA0
    dsimp only at hA0
    have hask := dask hL hR fa ha hb
    rw [← hw] at hask
    rw [hca] at hA0
    rcases hask with ⟨k1, k2⟩ | ⟨x, x1, k1, k2, k3⟩
    · have k2 : te = -1 := k2
      rw [k1] at c5
      rcases c5 with ⟨-, rfl, rfl, rfl⟩ | ⟨h, -⟩
      · rw [if_pos k2] at hA0
        refine drest hL hR ha hb hV2 hV3 (hU c1) hA0 (v1 := upd (upd v 5 (v 5 - 1)) 13 (v 13 + 1)) ⟨⟨s4, ?_, s6, s9, s10, s11, s12, ?_⟩, hu, hk1, hW, hM⟩ rfl hT
        · show v 5 - 1 = co - 1
          rw [s5]
        · show v 13 + 1 = qs + 1
          rw [s13]
      · exact absurd (by decide) h
    · have k2 : te = nI x := k2
      have x4 := hn.2.2 a ha
      rw [k1] at c5
      rcases c5 with ⟨h, -⟩ | ⟨-, rfl, rfl, rfl⟩
      · exact absurd h (dneg (by omega))
      · obtain ⟨t1, t2, t3, t4, t5, t6⟩ := rL_to hL hR ha x1
        obtain ⟨e1, e2, e3, e4, e5⟩ := rL_e hL hR ha x1
        unfold xbind FX4_remember at hA0
        dsimp only at hA0
        rw [k2, if_neg (zm1 (by omega)), z4, nI_clamp (by omega), t6, ← hu _ t5, z10, nI_clamp (by omega)] at hA0
        have hM1 := rM_set hM (g := b) (q := a) (x := x) (y := 3) (by omega) (by omega) (by omega)
        have k4 : rw (xr a x).toNatClampNeg 3 = 1 := t4.resolve_left k3
        have hS1 : rS nr (upd (upd v 5 (v 5 - 1)) 13 (v 13 + 1)) rw (upd ak a 1) wl wy (va_up mp b (va_up (mp b) a true)) (va_up mm b (va_up (mm b) a (upd (upd (fun _ => 0) 0 (nI x)) 1 3))) (nI a) (co - 1) (nI b) ln wk db dn iv (qs + 1) ur (upd uk a 1) uy (upd xe (10 * b + a) (nI x)) (upd sg (10 * b + a) 3) := by
          refine ⟨⟨s4, ?_, s6, s9, s10, s11, s12, ?_⟩, hu, hk1, hW, hM1⟩
          · show v 5 - 1 = co - 1
            rw [s5]
          · show v 13 + 1 = qs + 1
            rw [s13]
        rw [nI_clamp (show x < 2 ^ 31 by omega)] at hT
        by_cases k5 : rw (xr a x).toNatClampNeg 4 = 0
        · have hf : ¬ sFr rw xr a x = 0 := by
            unfold sFr
            rw [if_pos k4, if_pos k5]
            decide
          rw [if_neg hf] at hT
          rw [if_pos k5] at hA0
          exact dtake hL hR ha hb hV2 x1 hS1 hT (fun po2 ln2 wk2 ur2 uy2 ht => by
            rw [ht] at hA0
            exact zs1_ask (hU c1) hA0)
        · have hf : sFr rw xr a x = 0 := by
            unfold sFr
            rw [if_pos k4, if_neg k5]
          rw [if_pos hf] at hT
          rw [if_neg k5] at hA0
          exact drest hL hR ha hb hV2 hV3 (hU c1) hA0 hS1 rfl hT
end DT
