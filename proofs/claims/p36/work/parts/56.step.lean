/-! one step on both sides -/
def zR (pl : Int32) (ex rd : Nat → Int32) (kw kd kn ki kq wk0 iv0 : Int32) (mu : Nat) (c r : Int32 × (Int32) × (Int32) × (Int32) × (Int32) × (Int32) × (Int32) × (Int32) × (Int32) × (Int32) × (Nat → Int32) × (Nat → Int32) × (Nat → Int32) × (Nat → Int32) × (Nat → Int32) × (Nat → Int32)) : Prop :=
  ∃ (t po co go wl wk db dn iv qs : Int32) (wy tr ak mx ms fa ur uk uy xe sg fb : Nat → Int32) (v : Nat), c = (t, po, co, go, wl, wk, db, dn, iv, qs, wy, tr, ak, mx, ms, fa) ∧ r = (t, po, co, go, wl, wk + kw, db + kd, dn + kn, iv + ki, qs + kq, ur, uk, uy, xe, sg, fb) ∧ zC pl ex rd po go wl wy tr ak mx ms ur uk uy xe sg ∧ v < mu ∧ (go = -1 ∨ 2 * (20 - ycnt 20 ur) + wl.toInt.toNat < v) ∧ (wk = wk0 ∨ ∃ m : Int32, (1 ≤ m.toInt ∧ m.toInt ≤ 9) ∧ wk = wk0 + m) ∧ (iv = iv0 ∧ ¬ t = 0 ∨ iv = iv0 + 1 ∧ t = 0 ∧ go = -1)
theorem zfin {pl : Int32} {ex rd : Nat → Int32} (hpl : 0 ≤ pl.toInt ∧ pl.toInt ≤ 10) (hex4 : ∀ k, k < 10 → 0 ≤ (ex k).toInt ∧ (ex k).toInt ≤ 4) {kw kd kn ki kq wk0 : Int32} {mu v : Nat} {po co wl wk db dn iv qs : Int32} {wy tr ak mx ms fa ur uk uy xe sg fb : Nat → Int32} {b : Nat} (hpo : 0 ≤ po.toInt ∧ po.toInt < pl.toInt) (hb : (b : Int) < pl.toInt) (hB : zB pl ex wl wy ur uk uy) (hM : zM pl ex mx ms xe sg) (hT : zT pl ex rd tr ak ur uk) (hv : v < mu) (hpot : 2 * (20 - ycnt 20 ur) + wl.toInt.toNat < v) (hw : wk = wk0 ∨ ∃ m : Int32, (1 ≤ m.toInt ∧ m.toInt ≤ 9) ∧ wk = wk0 + m) :
    zR pl ex rd kw kd kn ki kq wk0 iv mu (zf0 po co (nI b) wl wk db dn iv qs wy tr ak mx ms fa) (zf1 po co (nI b) wl (wk + kw) (db + kd) (dn + kn) (iv + ki) (qs + kq) ur uk uy xe sg fb) := by
  have hbi : (nI b).toInt = b := nI_toInt (by omega)
  unfold zf0 zf1
  by_cases c : po = nI b
  · rw [if_pos c, if_pos c]
    obtain ⟨z2, z5, h1, h2, h3⟩ := zendz ur uk
    rw [h1]
    obtain ⟨b1, b2, b3, b4, b5⟩ := hB
    have hy := ycnt_le ur 20
    have hl := zlearn hpl hex4 hb (wl := wl) (wy := wy) (uy := uy) (by omega) b4 21 41 0 mx ms xe sg (by omega) (by omega) (by omega) hM
    refine ⟨1, po, co, (-1), 0, wk, db, dn + 1, iv, qs, wy, tr, ak, _, _, fa, z2, z5, uy, _, _, fb, v, rfl, ?_, ⟨hpo, ⟨fun k hk => Or.inl (h2 k hk), fun k hk => Or.inl (h3 k hk), ⟨by decide, by rw [show (0 : Int32).toInt = 0 from rfl]; omega⟩, fun k hk => ?_, b5⟩, hl, Or.inl ⟨rfl, rfl, h2⟩⟩, hv, Or.inl rfl, hw, Or.inl ⟨rfl, by decide⟩⟩
    · rw [zac dn kn 1]
      rfl
    · rw [show (0 : Int32).toInt = 0 from rfl] at hk
      omega
  · rw [if_neg c, if_neg c]
    exact ⟨1, po, co, nI b, wl, wk, db, dn, iv, qs, wy, tr, ak, mx, ms, fa, ur, uk, uy, xe, sg, fb, v, rfl, rfl, ⟨hpo, hB, hM, Or.inr ⟨by rw [hbi]; omega, c, hT⟩⟩, hv, Or.inr hpot, hw, Or.inl ⟨rfl, by decide⟩⟩
set_option maxHeartbeats 4000000 in
set_option maxRecDepth 100000 in
theorem zstep {pl rs : Int32} {ex ld tw le op rd ml cz : Nat → Int32} (hL : zL pl rs ex ld tw le op rd ml cz) {kw kd kn ki kq : Int32} {sh sh2 fa fb : Nat → Int32} {gu co wl wk db dn iv qs : Int32} {wy tr ak mx ms ur uk uy xe sg : Nat → Int32} {a b : Nat} (hM : zM pl ex mx ms xe sg) (hT : zT pl ex rd tr ak ur uk) (hB : zB pl ex wl wy ur uk uy) (ha : (a : Int) < pl.toInt) (hb : (b : Int) < pl.toInt) (hab : a ≠ b) (hsh : sh2 a = 0 ↔ (sh a = 0 ∧ ¬ nI a = gu)) {mu : Nat} (hmu : 2 * (20 - ycnt 20 ur) + wl.toInt.toNat < mu) :
    zR pl ex rd kw kd kn ki kq wk iv mu (FX0_step (nI a) co (nI b) wl gu wk db dn iv qs wy tr ak mx ms pl ex sh ld tw le op fa) (FX5_stepOn pl ex rd ld ml cz sh2 fb (nI a) co (nI b) wl (wk + kw) (db + kd) (dn + kn) (iv + ki) (qs + kq) ur uk uy xe sg) := by
  have hpl := hL.1
  have hex4 := hL.2.1
  have hai : (nI a).toInt = a := nI_toInt (by omega)
  have hrr : FX4_remembered (nI b) xe (nI a) = xe (10 * b + a) := by
    unfold FX4_remembered
    rw [z10, nI_clamp (by omega)]
  -- behind a taking
  have take : ∀ (e : Nat) (co2 qs2 : Int32) (ak2 uk2 mx2 ms2 xe2 sg2 fa2 fb2 : Nat → Int32), zE pl ex e → ¬ FX5_canTake rd cz ur (nI e) = 0 → zT pl ex rd tr ak2 ur uk2 → (∀ k, k < 10 → uk2 k = 0 ∨ uk2 k = 1) → zM pl ex mx2 ms2 xe2 sg2 → zR pl ex rd kw kd kn ki kq wk iv mu (zf0 (ld e) co2 (nI b) (wl + 1) (wk + le e) db dn iv qs2 (upd wy wl.toNatClampNeg (nI e)) (upd (upd tr e 1) (tw e).toNatClampNeg 1) ak2 mx2 ms2 fa2) (zf1 (ld e) co2 (nI b) (wl + 1) (wk + kw + le e) (db + kd) (dn + kn) (iv + ki) (qs2 + kq) (upd ur (rd e).toNatClampNeg 1) uk2 (upd uy wl.toNatClampNeg (nI e)) xe2 sg2 fb2) := by
    intro e co2 qs2 ak2 uk2 mx2 ms2 xe2 sg2 fa2 fb2 hz hc hT2 hk2 hM2
    obtain ⟨v1, v2, v3, v4, v5, v6, v7⟩ := hL.2.2.2.2.2.2.2.2.2.1 _ hz
    obtain ⟨t1, t2, t3, t4, t5, t6⟩ := ztk hL hz hT2 ⟨hB.1, hk2, hB.2.2⟩ (zcan hL hz hc).1
    have b3 := hB.2.2.1
    rw [zac wk kw (le e)]
    exact zfin hpl hex4 (v := mu - 1) ⟨(hL.2.2.2.1 e hz.1).1, v1⟩ hb t3 hM2 t2 (by omega) (by rw [t4, t5]; omega) (Or.inr ⟨le e, v3, rfl⟩)
  -- nothing remembered is taken
  have rest : FX0_rememberedEnd (nI a) (nI b) tr mx ms pl ex op = -1 → zU rd cz ur xe (nI a) (nI b) → zR pl ex rd kw kd kn ki kq wk iv mu (FX0_step (nI a) co (nI b) wl gu wk db dn iv qs wy tr ak mx ms pl ex sh ld tw le op fa) (FX5_stepOn pl ex rd ld ml cz sh2 fb (nI a) co (nI b) wl (wk + kw) (db + kd) (dn + kn) (iv + ki) (qs + kq) ur uk uy xe sg) := by
    intro h0 hU
    obtain ⟨co2, qs2, ak2, uk2, mx2, ms2, xe2, sg2, fa2, fb2, k1, k2, k3, k4⟩ := zask hL (fa := fa) (fb := fb) (co := co) (qs := qs) (kq := kq) (ln := wl) (wk := wk + kw) (uy := uy) hM hT hB.2.1 ha hb hab hsh
    rcases k4 with ⟨a1, a2⟩ | ⟨e, hz, hc, a1, a2⟩
    · rcases zfu hL (ur := ur) (uy := uy) (po := nI a) (ln := wl) (wk := wk + kw) hT.1 ha 5 0 rfl (by omega) with ⟨f1, f2⟩ | ⟨e, hz, hc, f1, f2⟩
      · by_cases c : wl ≤ 0
        · have c0 : wl = 0 := by
            rw [xle, show (0 : Int32).toInt = 0 from rfl] at c
            rw [xeqI, show (0 : Int32).toInt = 0 from rfl]
            have := hB.2.2.1
            omega
          rw [zs0_vain h0 a1 rfl f1 c, zs1_vain hU a2 f2 c0]
          obtain ⟨z2, z5, h1, h2, h3⟩ := zendz ur uk2
          rw [h1]
          refine ⟨0, nI a, co2, (-1), 0, wk, db, dn, iv + 1, qs2, wy, tr, ak2, mx2, ms2, fa2, z2, z5, uy, xe2, sg2, fb2, mu - 1, rfl, ?_, ⟨by rw [hai]; omega, ⟨fun k hk => Or.inl (h2 k hk), fun k hk => Or.inl (h3 k hk), ⟨by decide, by rw [show (0 : Int32).toInt = 0 from rfl]; omega⟩, fun k hk => ?_, hB.2.2.2.2⟩, k3, Or.inl ⟨rfl, rfl, h2⟩⟩, by omega, Or.inl rfl, Or.inl rfl, Or.inr ⟨rfl, rfl, rfl⟩⟩
          · rw [zac iv ki 1]
          · rw [show (0 : Int32).toInt = 0 from rfl] at hk
            omega
        · have c' := c
          rw [xle, show (0 : Int32).toInt = 0 from rfl] at c'
          have hy := ycnt_le ur 20
          have b3 := hB.2.2.1
          have hd := xdecI (x := wl) (by omega)
          have hwn := znat (x := wl - 1) (by omega)
          obtain ⟨w1, e, w2, hz⟩ := hB.2.2.2.1 (wl - 1).toNatClampNeg (by omega)
          have h40 := hz.1
          have hp : (nI (e / 4)).toInt = (e / 4 : Nat) := nI_toInt (by omega)
          obtain ⟨v1, v2, v3, v4, v5, v6, v7⟩ := hL.2.2.2.2.2.2.2.2.2.1 _ hz
          have hD0 : FX0_doubleBack wl wk db wy le = (wl - 1, wk + le e, db + le e, nI (e / 4)) := by
            unfold FX0_doubleBack FX1_milesAt xbind
            try dsimp only
            rw [w2, zis h40, if_neg (by decide), nI_clamp (by omega), show FX3_placeOfEnd (nI e) = nI (e / 4) from zdvI h40]
          have hD1 : FX5_doublesBack rd ml (nI a) wl (wk + kw) (db + kd) uy = (1, nI (e / 4), wl - 1, wk + kw + le e, db + kd + le e) := by
            unfold FX5_doublesBack
            rw [if_neg (by rw [xeqI, show (0 : Int32).toInt = 0 from rfl]; omega), ← w1, w2, nI_clamp (by omega), v5, zdvI h40]
          rw [zs0_back h0 a1 rfl f1 c hD0, zs1_back hU a2 f2 hD1, zac wk kw (le e), zac db kd (le e)]
          exact zfin hpl hex4 (v := mu - 1) ⟨by rw [hp]; omega, by rw [hp]; exact hz.2.1⟩ hb ⟨hB.1, k2, by omega, fun k hk => hB.2.2.2.1 k (by omega), hB.2.2.2.2⟩ k3 k1 (by omega) (by omega) (Or.inr ⟨le e, v3, rfl⟩)
      · have t1 := (ztk hL hz k1 ⟨hB.1, k2, hB.2.2⟩ (zcan hL hz hc).1).1
        have h31 := hz.1
        rw [zs0_try h0 a1 rfl f1 (zm1 (by omega)) (ztake hL hz t1), zs1_try hU a2 f2]
        exact take e co2 qs2 ak2 uk2 mx2 ms2 xe2 sg2 fa2 fb2 hz hc k1 k2 k3
    · have t1 := (ztk hL hz k1 ⟨hB.1, k2, hB.2.2⟩ (zcan hL hz hc).1).1
      have h31 := hz.1
      rw [zs0_ask h0 a1 (zm1 (by omega)) (ztake hL hz t1), zs1_ask hU a2]
      exact take e co2 qs2 ak2 uk2 mx2 ms2 xe2 sg2 fa2 fb2 hz hc k1 k2 k3
  rcases zrem hL hM hT.1 ha hb with ⟨r1, r2⟩ | ⟨i, r1, r2, r3, r4⟩
  · exact rest r2 (Or.inl (hrr.trans r1))
  · by_cases cc : FX5_canTake rd cz ur (nI (4 * a + i)) = 0
    · rw [if_pos cc] at r4
      exact rest r4 (Or.inr (by rw [hrr, r3, z4]; exact cc))
    · rw [if_neg cc] at r4
      have h31 := r2.1
      have t1 := (ztk hL r2 hT hB (zcan hL r2 cc).1).1
      rw [zs0_rem r4 (zm1 (by omega)) (ztake hL r2 t1), zs1_rem (hrr.trans r3) (zm1 (by omega)) (by rw [z4]; exact cc) ((congrArg (FX5_take rd ld ml wl (wk + kw) ur uy) (z4 a i)).trans (ztake5 hL r2))]
      exact take (4 * a + i) co qs ak uk mx ms xe sg fa fb r2 cc hT hB.2.1 hM
