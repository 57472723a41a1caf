/-! the trial's errand beside the reference's; where a shepherd would help the most -/
theorem zcp {f g : Nat → Int32} {n k : Nat} (h : k < n) : va_cpy f g 0 0 n k = f k := by
  rw [pk_cpy_in (Nat.zero_le _) (by omega), Nat.zero_add, Nat.sub_zero]
theorem zfg40 : ∀ (n i : Nat) (f : Nat → Int32), i + n = 41 → i ≤ 40 → (∀ k, k < i → f k = 0) → ∀ k, k < 40 → LX0_forget_a40 n i f k = 0
  | 0, i, f, h, h1, h2 => absurd h1 (by omega)
  | n + 1, i, f, h, h1, h2 => by
    by_cases c : 40 ≤ nI i
    · rw [LX0_forget_a40, if_pos c]
      rw [show (40 : Int32) = nI 40 from rfl, nI_leI (by decide) (by omega)] at c
      exact fun k hk => h2 k (by omega)
    · rw [LX0_forget_a40, if_neg c, nI_clamp (by omega)]
      rw [show (40 : Int32) = nI 40 from rfl, nI_leI (by decide) (by omega)] at c
      refine zfg40 n (i + 1) _ (by omega) (by omega) (fun k hk => ?_)
      by_cases c3 : k = i
      · rw [c3, pk_us]
      · rw [pk_un c3]; exact h2 k (by omega)
theorem zfg10 : ∀ (n i : Nat) (f : Nat → Int32), i + n = 11 → i ≤ 10 → (∀ k, k < i → f k = 0) → ∀ k, k < 10 → LX0_forget_a10 n i f k = 0
  | 0, i, f, h, h1, h2 => absurd h1 (by omega)
  | n + 1, i, f, h, h1, h2 => by
    by_cases c : 10 ≤ nI i
    · rw [LX0_forget_a10, if_pos c]
      rw [show (10 : Int32) = nI 10 from rfl, nI_leI (by decide) (by omega)] at c
      exact fun k hk => h2 k (by omega)
    · rw [LX0_forget_a10, if_neg c, nI_clamp (by omega)]
      rw [show (10 : Int32) = nI 10 from rfl, nI_leI (by decide) (by omega)] at c
      refine zfg10 n (i + 1) _ (by omega) (by omega) (fun k hk => ?_)
      by_cases c3 : k = i
      · rw [c3, pk_us]
      · rw [pk_un c3]; exact h2 k (by omega)
/-- the class's beginning of an errand -/
theorem zbeg0 (po dn g : Int32) (tr ak : Nat → Int32) : ∃ z2 z5 : Nat → Int32, (FX0_begin po dn tr ak g = if po = g then ((-1), 0, dn + 1, z2, z5) else (g, 0, dn, z2, z5)) ∧ (∀ k, k < 40 → z2 k = 0) ∧ (∀ k, k < 10 → z5 k = 0) :=
  ⟨LX0_forget_a40 41 0 tr, LX0_forget_a10 11 0 ak, rfl, zfg40 41 0 tr rfl (by omega) (fun k hk => absurd hk (by omega)), zfg10 11 0 ak rfl (by omega) (fun k hk => absurd hk (by omega))⟩
/-- marks and way as an errand begins -/
theorem zstart {pl rs : Int32} {ex ld tw le op rd ml cz : Nat → Int32} (hL : zL pl rs ex ld tw le op rd ml cz) {wy uy tr ak ur uk : Nat → Int32} (h1 : ∀ k, k < 40 → tr k = 0) (h2 : ∀ k, k < 10 → ak k = 0) (h3 : ∀ k, k < 20 → ur k = 0) (h4 : ∀ k, k < 10 → uk k = 0) (h5 : ∀ k, k < 40 → 0 ≤ (uy k).toInt ∧ (uy k).toInt < 40) : zB pl ex 0 wy ur uk uy ∧ zT pl ex rd tr ak ur uk :=
  ⟨⟨fun k hk => Or.inl (h3 k hk), fun k hk => Or.inl (h4 k hk), ⟨by decide, by rw [show (0 : Int32).toInt = 0 from rfl]; omega⟩, fun k hk => by rw [show (0 : Int32).toInt = 0 from rfl] at hk; omega, h5⟩,
   fun e hz => by rw [h1 e hz.1, h3 _ (xcl (hL.2.2.2.2.2.2.2.1 e hz.1))], fun k hk => by rw [h2 k hk, h4 k hk], fun k hk h => absurd (h3 k hk) h, fun e he _ => h1 e he⟩
theorem zoff (x y : Int32) : x + (y - x) = y := by rw [Int32.add_comm, Int32.sub_add_cancel]
set_option maxHeartbeats 4000000 in
set_option maxRecDepth 100000 in
theorem zwalk {pl rs : Int32} {ex ld tw le op rd ml cz : Nat → Int32} (hL : zL pl rs ex ld tw le op rd ml cz) {gu : Int32} {sh sh2 : Nat → Int32} (hsh : ∀ p : Nat, (p : Int) < pl.toInt → (sh2 p = 0 ↔ (sh p = 0 ∧ ¬ nI p = gu))) {po co wk db dn iv qs : Int32} {wy tr ak mx ms ur uk uy xe sg : Nat → Int32} (hC : zC pl ex rd po (-1) 0 wy tr ak mx ms ur uk uy xe sg) (hiv : 0 ≤ iv.toInt ∧ iv.toInt < 1000000) {g : Int32} (hg : 0 ≤ g.toInt ∧ g.toInt < pl.toInt) (tdb tdn tqs : Int32) (twy ttr tak tmx tms fa vtr vak vwy vxe vsg fb : Nat → Int32) :
    (FX3_trialMiles po co mx ms tdb tdn tqs twy ttr tak tmx tms pl ex sh ld tw le op fa g gu).1 = (FX5_walkTo pl ex rd ld ml cz sh2 fb po co (-1) 0 wk db dn iv qs ur uk uy xe sg vtr vak vwy vxe vsg g).1 ∧ ((FX3_trialMiles po co mx ms tdb tdn tqs twy ttr tak tmx tms pl ex sh ld tw le op fa g gu).1 = -1 ∨ (0 ≤ (FX3_trialMiles po co mx ms tdb tdn tqs twy ttr tak tmx tms pl ex sh ld tw le op fa g gu).1.toInt ∧ (FX3_trialMiles po co mx ms tdb tdn tqs twy ttr tak tmx tms pl ex sh ld tw le op fa g gu).1.toInt ≤ 9000)) := by
  obtain ⟨hpo, hB, hM, hg0⟩ := id hC
  have hu0 : ∀ k, k < 20 → ur k = 0 := by
    rcases hg0 with h | h
    · exact h.2.2
    · exact absurd rfl (zgm h.1)
  have hM2 : zM pl ex (va_cpy mx tmx 0 0 100) (va_cpy ms tms 0 0 100) (va_cpy xe vxe 0 0 100) (va_cpy sg vsg 0 0 100) := fun k hk => by
    rw [zcp hk, zcp hk, zcp hk, zcp hk]
    exact hM k hk
  have huy : ∀ k, k < 40 → 0 ≤ (va_cpy uy vwy 0 0 40 k).toInt ∧ (va_cpy uy vwy 0 0 40 k).toInt < 40 := fun k hk => by
    rw [zcp hk]
    exact hB.2.2.2.2 k hk
  obtain ⟨y2, y5, yb1, yb2, yb3⟩ := zbeg0 po tdn g ttr tak
  -- both errands, from a common beginning
  have main : ∃ (j : Nat) (dnx : Int32) (po2 co2 go2 wl2 wk2 db2 dn2 iv2 qs2 : Int32) (wy2 tr2 ak2 mx2 ms2 fa2 ur2 uk2 uy2 xe2 sg2 fb2 : Nat → Int32), LX3_trialMiles_a gu pl ex sh ld tw le op 1001 0 po co (FX0_begin po tdn ttr tak g).1 (FX0_begin po tdn ttr tak g).2.1 0 tdb (FX0_begin po tdn ttr tak g).2.2.1 0 tqs twy (FX0_begin po tdn ttr tak g).2.2.2.1 (FX0_begin po tdn ttr tak g).2.2.2.2 (va_cpy mx tmx 0 0 100) (va_cpy ms tms 0 0 100) fa = (po2, co2, go2, wl2, wk2, db2, dn2, iv2, qs2, wy2, tr2, ak2, mx2, ms2, fa2) ∧ LX5_stepsOn_t pl ex rd ld ml cz sh2 9999 10000 0 po co (FX5_start po (-1) 0 dn (va_cpy ur vtr 0 0 20) (va_cpy uk vak 0 0 10) g).1 (FX5_start po (-1) 0 dn (va_cpy ur vtr 0 0 20) (va_cpy uk vak 0 0 10) g).2.1 wk db (FX5_start po (-1) 0 dn (va_cpy ur vtr 0 0 20) (va_cpy uk vak 0 0 10) g).2.2.1 iv qs (FX5_start po (-1) 0 dn (va_cpy ur vtr 0 0 20) (va_cpy uk vak 0 0 10) g).2.2.2.1 (FX5_start po (-1) 0 dn (va_cpy ur vtr 0 0 20) (va_cpy uk vak 0 0 10) g).2.2.2.2 (va_cpy uy vwy 0 0 40) (va_cpy xe vxe 0 0 100) (va_cpy sg vsg 0 0 100) fb = (j, po2, co2, go2, wl2, wk2 + wk, db2 + (db - tdb), dnx, iv2 + iv, qs2 + (qs - tqs), ur2, uk2, uy2, xe2, sg2, fb2) ∧ (0 ≤ wk2.toInt ∧ wk2.toInt ≤ 9000) ∧ (iv2 = 0 ∨ iv2 = 0 + 1) := by
    by_cases c : po = g
    · have e5 : FX5_start po (-1) 0 dn (va_cpy ur vtr 0 0 20) (va_cpy uk vak 0 0 10) g = (-1, 0, dn + 1, va_cpy ur vtr 0 0 20, va_cpy uk vak 0 0 10) := if_pos c.symm
      rw [yb1, if_pos c, e5]
      dsimp only
      have hz : zC pl ex rd po (-1) 0 twy y2 y5 (va_cpy mx tmx 0 0 100) (va_cpy ms tms 0 0 100) (va_cpy ur vtr 0 0 20) (va_cpy uk vak 0 0 10) (va_cpy uy vwy 0 0 40) (va_cpy xe vxe 0 0 100) (va_cpy sg vsg 0 0 100) :=
        ⟨hpo, ⟨fun k hk => by rw [zcp hk]; exact hB.1 k hk, fun k hk => by rw [zcp hk]; exact hB.2.1 k hk, ⟨by decide, by rw [show (0 : Int32).toInt = 0 from rfl]; omega⟩, fun k hk => by rw [show (0 : Int32).toInt = 0 from rfl] at hk; omega, huy⟩, hM2, Or.inl ⟨rfl, rfl, fun k hk => by rw [zcp hk]; exact hu0 k hk⟩⟩
      have h := ztr hL (kw := wk) (kd := db - tdb) (kn := dn + 1 - (tdn + 1)) (ki := iv) (kq := qs - tqs) hsh 0 1001 10000 0 po co (-1) 0 0 tdb (tdn + 1) 0 tqs twy y2 y5 _ _ fa _ _ _ _ _ fb (by omega) (by omega) (by omega) hz (Or.inl rfl) ⟨by decide, by decide⟩
      rw [Int32.zero_add, Int32.zero_add, zoff, zoff, zoff] at h
      obtain ⟨j, po2, co2, go2, wl2, wk2, db2, dn2, iv2, qs2, wy2, tr2, ak2, mx2, ms2, fa2, ur2, uk2, uy2, xe2, sg2, fb2, k1, k2, k3, k4⟩ := h
      exact ⟨j, _, po2, co2, go2, wl2, wk2, db2, dn2, iv2, qs2, wy2, tr2, ak2, mx2, ms2, fa2, ur2, uk2, uy2, xe2, sg2, fb2, k1, k2, k3, k4⟩
    · obtain ⟨z2, z5, zb1, zb2, zb3⟩ := zbeg (va_cpy ur vtr 0 0 20) (va_cpy uk vak 0 0 10) g
      have e5 : FX5_start po (-1) 0 dn (va_cpy ur vtr 0 0 20) (va_cpy uk vak 0 0 10) g = (g, 0, dn, z2, z5) := by
        unfold FX5_start xbind
        try dsimp only
        rw [if_neg (fun h => c h.symm), zb1]
      rw [yb1, if_neg c, e5]
      dsimp only
      obtain ⟨s1, s2⟩ := zstart hL (wy := twy) yb2 yb3 zb2 zb3 huy
      have hz : zC pl ex rd po g 0 twy y2 y5 (va_cpy mx tmx 0 0 100) (va_cpy ms tms 0 0 100) z2 z5 (va_cpy uy vwy 0 0 40) (va_cpy xe vxe 0 0 100) (va_cpy sg vsg 0 0 100) := ⟨hpo, s1, hM2, Or.inr ⟨hg, c, s2⟩⟩
      have h := ztr hL (kw := wk) (kd := db - tdb) (kn := dn - tdn) (ki := iv) (kq := qs - tqs) hsh 41 1001 10000 0 po co g 0 0 tdb tdn 0 tqs twy y2 y5 _ _ fa _ _ _ _ _ fb (by omega) (by omega) (by omega) hz (Or.inr (by rw [show (0 : Int32).toInt = 0 from rfl]; omega)) ⟨by decide, by decide⟩
      rw [Int32.zero_add, Int32.zero_add, zoff, zoff, zoff] at h
      obtain ⟨j, po2, co2, go2, wl2, wk2, db2, dn2, iv2, qs2, wy2, tr2, ak2, mx2, ms2, fa2, ur2, uk2, uy2, xe2, sg2, fb2, k1, k2, k3, k4⟩ := h
      exact ⟨j, _, po2, co2, go2, wl2, wk2, db2, dn2, iv2, qs2, wy2, tr2, ak2, mx2, ms2, fa2, ur2, uk2, uy2, xe2, sg2, fb2, k1, k2, k3, k4⟩
  obtain ⟨j, dnx, po2, co2, go2, wl2, wk2, db2, dn2, iv2, qs2, wy2, tr2, ak2, mx2, ms2, fa2, ur2, uk2, uy2, xe2, sg2, fb2, k1, k2, k3, k4⟩ := main
  have e0 : (FX3_trialMiles po co mx ms tdb tdn tqs twy ttr tak tmx tms pl ex sh ld tw le op fa g gu).1 = if iv2 ≤ 0 then wk2 else -1 := by
    unfold FX3_trialMiles FX0_startLike FX2_copyFrom xbind
    dsimp only
    rw [k1]
    dsimp only
    split <;> rfl
  have e1 : (FX5_walkTo pl ex rd ld ml cz sh2 fb po co (-1) 0 wk db dn iv qs ur uk uy xe sg vtr vak vwy vxe vsg g).1 = if iv2 + iv ≤ iv then wk2 + wk - wk else -1 := by
    unfold FX5_walkTo FX4_become FX5_stepsOn xbind xbind2
    dsimp only
    rw [k2]
    dsimp only
    split <;> rfl
  have h0 : (0 : Int32).toInt = 0 := rfl
  have h1 : (1 : Int32).toInt = 1 := rfl
  rw [e0, e1]
  rcases k4 with k4 | k4
  · rw [k4, Int32.zero_add, if_pos (by rw [xle]; omega), if_pos (by rw [xle]; omega), Int32.add_sub_cancel]
    exact ⟨rfl, Or.inr k3⟩
  · have e2 : iv2 = 1 := k4.trans (by decide)
    rw [e2, if_neg (by rw [xle, h0, h1]; omega), if_neg (by rw [xle, zadd (by rw [h1]; omega), h1]; omega)]
    exact ⟨rfl, Or.inl rfl⟩
theorem zuu {f : Nat → Int32} {k : Nat} (h : f k = 0) : upd (upd f k 1) k 0 = f := by
  funext j
  by_cases c : j = k
  · rw [c, pk_us, h]
  · rw [pk_un c, pk_un c]
set_option maxHeartbeats 4000000 in
set_option maxRecDepth 100000 in
theorem zhelp {pl rs : Int32} {ex ld tw le op rd ml cz : Nat → Int32} (hL : zL pl rs ex ld tw le op rd ml cz) {sh : Nat → Int32} {po co wk db dn iv qs : Int32} {wy tr ak mx ms ur uk uy xe sg : Nat → Int32} (hC : zC pl ex rd po (-1) 0 wy tr ak mx ms ur uk uy xe sg) (hiv : 0 ≤ iv.toInt ∧ iv.toInt < 1000000) {g : Int32} (hg : 0 ≤ g.toInt ∧ g.toInt < pl.toInt) : ∀ (n i : Nat) (fw bs lst tpo tco tgo twl twk tdb tdn tiv tqs : Int32) (twy ttr tak tmx tms : Nat → Int32) (tgu : Int32) (fa : Nat → Int32) (vpo vco vgo vln vwk vdb vdn viv vqs : Int32) (vtr vak vwy vxe vsg fb : Nat → Int32), i + n = 11 → (i : Int) ≤ pl.toInt → ((fw = -1 ∧ lst = 9999) ∨ (lst = fw ∧ 0 ≤ fw.toInt)) →
    (LX3_bestShepherd_a po co mx ms pl ex sh ld tw le op g n i fw bs tpo tco tgo twl twk tdb tdn tiv tqs twy ttr tak tmx tms tgu fa).2.1 = (LX5_helper_t pl ex rd ld ml cz po co (-1) 0 wk db dn iv qs ur uk uy xe sg g n i bs lst vpo vco vgo vln vwk vdb vdn viv vqs vtr vak vwy vxe vsg fb sh).1 ∧ (LX5_helper_t pl ex rd ld ml cz po co (-1) 0 wk db dn iv qs ur uk uy xe sg g n i bs lst vpo vco vgo vln vwk vdb vdn viv vqs vtr vak vwy vxe vsg fb sh).2.2.2.2.2.2.2.2.2.2.2.2.2.2.2.2.2 = sh := by
  have hpl := hL.1
  intro n
  induction n with
  | zero => intro i; intros; omega
  | succ n ih =>
    intro i fw bs lst tpo tco tgo twl twk tdb tdn tiv tqs twy ttr tak tmx tms tgu fa vpo vco vgo vln vwk vdb vdn viv vqs vtr vak vwy vxe vsg fb hi hlo hl
    by_cases c : pl ≤ nI i
    · rw [LX3_bestShepherd_a, LX5_helper_t, if_pos c, if_pos c]
      exact ⟨rfl, rfl⟩
    · have c' := c
      rw [xle, nI_toInt (by omega)] at c'
      have hic : (nI i).toNatClampNeg = i := nI_clamp (by omega)
      by_cases cs : sh i = 0
      · obtain ⟨w1, w2⟩ := zwalk hL (gu := nI i) (sh := sh) (sh2 := upd sh i 1) (fun p hp => by
          by_cases c3 : p = i
          · rw [c3, pk_us]; exact ⟨fun h => absurd h (by decide), fun h => absurd rfl h.2⟩
          · rw [pk_un c3]; exact ⟨fun h => ⟨h, fun h2 => c3 ((nI_eq (by omega) (by omega)).mp h2)⟩, fun h => h.1⟩) (co := co) (wk := wk) (db := db) (dn := dn) (qs := qs) hC hiv hg tdb tdn tqs twy ttr tak tmx tms fa vtr vak vwy vxe vsg fb
        rw [LX3_bestShepherd_a, LX5_helper_t, if_neg c, if_neg c, hic, if_pos cs, if_pos cs, zuu cs]
        unfold xbind2
        try dsimp only
        rw [← w1]
        by_cases cr : (FX3_trialMiles po co mx ms tdb tdn tqs twy ttr tak tmx tms pl ex sh ld tw le op fa g (nI i)).1 = -1
        · rw [if_pos cr, if_pos cr]
          exact ih (i + 1) _ _ _ _ _ _ _ _ _ _ _ _ _ _ _ _ _ _ _ _ _ _ _ _ _ _ _ _ _ _ _ _ _ _ (by omega) (by omega) hl
        · rw [if_neg cr, if_neg cr]
          have w3 := w2.resolve_left cr
          rcases hl with ⟨l1, l2⟩ | ⟨l1, l2⟩
          · rw [if_pos l1, if_pos (by rw [l2, xltI, show (9999 : Int32).toInt = 9999 from rfl]; omega)]
            exact ih (i + 1) _ _ _ _ _ _ _ _ _ _ _ _ _ _ _ _ _ _ _ _ _ _ _ _ _ _ _ _ _ _ _ _ _ _ (by omega) (by omega) (Or.inr ⟨rfl, w3.1⟩)
          · rw [if_neg (by rw [xeqI, show (-1 : Int32).toInt = -1 from rfl]; omega), l1]
            by_cases cl : fw ≤ (FX3_trialMiles po co mx ms tdb tdn tqs twy ttr tak tmx tms pl ex sh ld tw le op fa g (nI i)).1
            · rw [if_pos cl, if_neg (by rw [xltI]; rw [xle] at cl; omega)]
              exact ih (i + 1) _ _ _ _ _ _ _ _ _ _ _ _ _ _ _ _ _ _ _ _ _ _ _ _ _ _ _ _ _ _ _ _ _ _ (by omega) (by omega) (Or.inr ⟨rfl, l2⟩)
            · rw [if_neg cl, if_pos (by rw [xltI]; rw [xle] at cl; omega)]
              exact ih (i + 1) _ _ _ _ _ _ _ _ _ _ _ _ _ _ _ _ _ _ _ _ _ _ _ _ _ _ _ _ _ _ _ _ _ _ (by omega) (by omega) (Or.inr ⟨rfl, w3.1⟩)
      · rw [LX3_bestShepherd_a, LX5_helper_t, if_neg c, if_neg c, hic, if_neg cs, if_neg cs]
        exact ih (i + 1) _ _ _ _ _ _ _ _ _ _ _ _ _ _ _ _ _ _ _ _ _ _ _ _ _ _ _ _ _ _ _ _ _ _ (by omega) (by omega) hl
