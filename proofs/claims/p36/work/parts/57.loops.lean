/-! many steps on both sides: goOn, and the trial's errand -/
theorem zun1 {go : Int32} (h : go = -1) : FX0_isUnderway go = 0 := if_pos h
theorem zun2 {go : Int32} (h : ¬ go = -1) : FX0_isUnderway go = 1 := if_neg h
theorem zgm {go pl : Int32} (h : 0 ≤ go.toInt ∧ go.toInt < pl.toInt) : ¬ go = -1 := by
  rw [xeqI, show (-1 : Int32).toInt = -1 from rfl]
  omega
set_option maxHeartbeats 4000000 in
set_option maxRecDepth 100000 in
theorem zgoOn {pl rs : Int32} {ex ld tw le op rd ml cz : Nat → Int32} (hL : zL pl rs ex ld tw le op rd ml cz) {kw kd kn ki kq gu nst : Int32} {sh sh2 : Nat → Int32} (hsh : ∀ p : Nat, (p : Int) < pl.toInt → (sh2 p = 0 ↔ (sh p = 0 ∧ ¬ nI p = gu))) : ∀ (n n2 i : Nat) (po co go wl wk db dn iv qs : Int32) (wy tr ak mx ms fa ur uk uy xe sg fb : Nat → Int32), (i : Int) ≤ nst.toInt → nst.toInt < i + n → nst.toInt < i + n2 → zC pl ex rd po go wl wy tr ak mx ms ur uk uy xe sg → ∃ (j : Nat) (po2 co2 go2 wl2 wk2 db2 dn2 iv2 qs2 : Int32) (wy2 tr2 ak2 mx2 ms2 fa2 ur2 uk2 uy2 xe2 sg2 fb2 : Nat → Int32), LX3_goOn_a gu pl ex sh ld tw le op nst n i po co go wl wk db dn iv qs wy tr ak mx ms fa = (j, po2, co2, go2, wl2, wk2, db2, dn2, iv2, qs2, wy2, tr2, ak2, mx2, ms2, fa2) ∧ LX5_stepsOn_t pl ex rd ld ml cz sh2 nst n2 i po co go wl (wk + kw) (db + kd) (dn + kn) (iv + ki) (qs + kq) ur uk uy xe sg fb = (j, po2, co2, go2, wl2, wk2 + kw, db2 + kd, dn2 + kn, iv2 + ki, qs2 + kq, ur2, uk2, uy2, xe2, sg2, fb2) ∧ zC pl ex rd po2 go2 wl2 wy2 tr2 ak2 mx2 ms2 ur2 uk2 uy2 xe2 sg2 ∧ (iv2 = iv ∨ iv2 = iv + 1) := by
  intro n
  induction n with
  | zero => intro n2 i po co go wl wk db dn iv qs wy tr ak mx ms fa ur uk uy xe sg fb h1 h2; exact absurd h2 (by omega)
  | succ n ih =>
    intro n2 i po co go wl wk db dn iv qs wy tr ak mx ms fa ur uk uy xe sg fb h1 h2 h3 hC
    have hm := xmax nst
    cases n2 with
    | zero => exact absurd h3 (by omega)
    | succ n2 =>
      by_cases c1 : nst ≤ nI i
      · refine ⟨i, po, co, go, wl, wk, db, dn, iv, qs, wy, tr, ak, mx, ms, fa, ur, uk, uy, xe, sg, fb, ?_, ?_, hC, Or.inl rfl⟩
        · rw [LX3_goOn_a, if_pos c1]
        · rw [LX5_stepsOn_t, if_pos c1]
      · by_cases c2 : go = -1
        · refine ⟨i, po, co, go, wl, wk, db, dn, iv, qs, wy, tr, ak, mx, ms, fa, ur, uk, uy, xe, sg, fb, ?_, ?_, hC, Or.inl rfl⟩
          · rw [LX3_goOn_a, if_neg c1]
            unfold xbind
            try dsimp only
            rw [zun1 c2, if_pos rfl]
          · rw [LX5_stepsOn_t, if_neg c1, if_pos c2]
        · have c1' := c1
          rw [xle, nI_toInt (by omega)] at c1'
          have hpl := hL.1
          obtain ⟨hpo, hB, hM, hg⟩ := id hC
          obtain ⟨hgo, hne, hT⟩ := hg.resolve_left (fun h => c2 h.1)
          obtain ⟨a, a1, a2, a3⟩ := xofI hpo.1
          obtain ⟨b, b1, b2, b3⟩ := xofI hgo.1
          subst a2
          subst b2
          obtain ⟨t, po1, co1, go1, wl1, wk1, db1, dn1, iv1, qs1, wy1, tr1, ak1, mx1, ms1, fa1, ur1, uk1, uy1, xe1, sg1, fb1, v, q1, q2, q3, q4, q5, q6, q7⟩ := zstep hL (kw := kw) (kd := kd) (kn := kn) (ki := ki) (kq := kq) (sh := sh) (sh2 := sh2) (fa := fa) (fb := fb) (gu := gu) (co := co) (wk := wk) (db := db) (dn := dn) (iv := iv) (qs := qs) hM hT hB (a := a) (b := b) (by omega) (by omega) (fun h => hne (by rw [h])) (hsh a (by omega)) (Nat.lt_succ_self _)
          by_cases ct : t = 0
          · refine ⟨i, po1, co1, go1, wl1, wk1, db1, dn1, iv1, qs1, wy1, tr1, ak1, mx1, ms1, fa1, ur1, uk1, uy1, xe1, sg1, fb1, ?_, ?_, q3, ?_⟩
            · rw [LX3_goOn_a, if_neg c1]
              unfold xbind xbind2
              try dsimp only
              rw [zun2 c2, if_neg (by decide), q1]
              dsimp only
              rw [if_pos ct]
            · rw [LX5_stepsOn_t, if_neg c1, if_neg c2]
              unfold xbind2
              try dsimp only
              rw [q2]
              dsimp only
              rw [if_pos ct]
            · rcases q7 with q7 | q7
              · exact Or.inl q7.1
              · exact Or.inr q7.1
          · have e7 : iv1 = iv := by
              rcases q7 with q7 | q7
              · exact q7.1
              · exact absurd q7.2.1 ct
            obtain ⟨j, po2, co2, go2, wl2, wk2, db2, dn2, iv2, qs2, wy2, tr2, ak2, mx2, ms2, fa2, ur2, uk2, uy2, xe2, sg2, fb2, k1, k2, k3, k4⟩ := ih n2 (i + 1) po1 co1 go1 wl1 wk1 db1 dn1 iv1 qs1 wy1 tr1 ak1 mx1 ms1 fa1 ur1 uk1 uy1 xe1 sg1 fb1 (by omega) (by omega) (by omega) q3
            refine ⟨j, po2, co2, go2, wl2, wk2, db2, dn2, iv2, qs2, wy2, tr2, ak2, mx2, ms2, fa2, ur2, uk2, uy2, xe2, sg2, fb2, ?_, ?_, k3, by rw [← e7]; exact k4⟩
            · rw [← k1, LX3_goOn_a, if_neg c1]
              unfold xbind xbind2
              try dsimp only
              rw [zun2 c2, if_neg (by decide), q1]
              dsimp only
              rw [if_neg ct]
            · rw [← k2, LX5_stepsOn_t, if_neg c1, if_neg c2]
              unfold xbind2
              try dsimp only
              rw [q2]
              dsimp only
              rw [if_neg ct]
theorem ztr0 {gu pl : Int32} {ex sh ld tw le op : Nat → Int32} {n i : Nat} {po co go wl wk db dn iv qs : Int32} {wy tr ak mx ms fa : Nat → Int32} (h : go = -1) : LX3_trialMiles_a gu pl ex sh ld tw le op (n + 1) i po co go wl wk db dn iv qs wy tr ak mx ms fa = (po, co, go, wl, wk, db, dn, iv, qs, wy, tr, ak, mx, ms, fa) := by
  rw [LX3_trialMiles_a]
  by_cases c : 1000 ≤ nI i
  · rw [if_pos c]
  · rw [if_neg c]
    unfold xbind
    try dsimp only
    rw [zun1 h, if_pos rfl]
set_option maxHeartbeats 4000000 in
set_option maxRecDepth 100000 in
theorem ztr {pl rs : Int32} {ex ld tw le op rd ml cz : Nat → Int32} (hL : zL pl rs ex ld tw le op rd ml cz) {kw kd kn ki kq gu : Int32} {sh sh2 : Nat → Int32} (hsh : ∀ p : Nat, (p : Int) < pl.toInt → (sh2 p = 0 ↔ (sh p = 0 ∧ ¬ nI p = gu))) : ∀ (m n n2 i : Nat) (po co go wl wk db dn iv qs : Int32) (wy tr ak mx ms fa ur uk uy xe sg fb : Nat → Int32), i + m ≤ 1000 → m < n → m < n2 → zC pl ex rd po go wl wy tr ak mx ms ur uk uy xe sg → (go = -1 ∨ 2 * (20 - ycnt 20 ur) + wl.toInt.toNat < m) → (0 ≤ wk.toInt ∧ wk.toInt + 9 * m ≤ 9000) → ∃ (j : Nat) (po2 co2 go2 wl2 wk2 db2 dn2 iv2 qs2 : Int32) (wy2 tr2 ak2 mx2 ms2 fa2 ur2 uk2 uy2 xe2 sg2 fb2 : Nat → Int32), LX3_trialMiles_a gu pl ex sh ld tw le op n i po co go wl wk db dn iv qs wy tr ak mx ms fa = (po2, co2, go2, wl2, wk2, db2, dn2, iv2, qs2, wy2, tr2, ak2, mx2, ms2, fa2) ∧ LX5_stepsOn_t pl ex rd ld ml cz sh2 9999 n2 i po co go wl (wk + kw) (db + kd) (dn + kn) (iv + ki) (qs + kq) ur uk uy xe sg fb = (j, po2, co2, go2, wl2, wk2 + kw, db2 + kd, dn2 + kn, iv2 + ki, qs2 + kq, ur2, uk2, uy2, xe2, sg2, fb2) ∧ (0 ≤ wk2.toInt ∧ wk2.toInt ≤ 9000) ∧ (iv2 = iv ∨ iv2 = iv + 1) := by
  intro m
  induction m with
  | zero =>
    intro n n2 i po co go wl wk db dn iv qs wy tr ak mx ms fa ur uk uy xe sg fb h1 h2 h3 hC hp hw
    have c2 : go = -1 := hp.resolve_right (by omega)
    cases n with
    | zero => exact absurd h2 (by omega)
    | succ n =>
      cases n2 with
      | zero => exact absurd h3 (by omega)
      | succ n2 =>
        refine ⟨i, po, co, go, wl, wk, db, dn, iv, qs, wy, tr, ak, mx, ms, fa, ur, uk, uy, xe, sg, fb, ztr0 c2, ?_, by omega, Or.inl rfl⟩
        rw [LX5_stepsOn_t]
        by_cases c1 : 9999 ≤ nI i
        · rw [if_pos c1]
        · rw [if_neg c1, if_pos c2]
  | succ m ih =>
    intro n n2 i po co go wl wk db dn iv qs wy tr ak mx ms fa ur uk uy xe sg fb h1 h2 h3 hC hp hw
    cases n with
    | zero => exact absurd h2 (by omega)
    | succ n =>
      cases n2 with
      | zero => exact absurd h3 (by omega)
      | succ n2 =>
        have c1 : ¬ 1000 ≤ nI i := by rw [show (1000 : Int32) = nI 1000 from rfl, nI_leI (by decide) (by omega)]; omega
        have c9 : ¬ 9999 ≤ nI i := by rw [show (9999 : Int32) = nI 9999 from rfl, nI_leI (by decide) (by omega)]; omega
        by_cases c2 : go = -1
        · refine ⟨i, po, co, go, wl, wk, db, dn, iv, qs, wy, tr, ak, mx, ms, fa, ur, uk, uy, xe, sg, fb, ztr0 c2, ?_, by omega, Or.inl rfl⟩
          rw [LX5_stepsOn_t, if_neg c9, if_pos c2]
        · have hpl := hL.1
          obtain ⟨hpo, hB, hM, hg⟩ := id hC
          obtain ⟨hgo, hne, hT⟩ := hg.resolve_left (fun h => c2 h.1)
          obtain ⟨a, a1, a2, a3⟩ := xofI hpo.1
          obtain ⟨b, b1, b2, b3⟩ := xofI hgo.1
          subst a2
          subst b2
          obtain ⟨t, po1, co1, go1, wl1, wk1, db1, dn1, iv1, qs1, wy1, tr1, ak1, mx1, ms1, fa1, ur1, uk1, uy1, xe1, sg1, fb1, v, q1, q2, q3, q4, q5, q6, q7⟩ := zstep hL (kw := kw) (kd := kd) (kn := kn) (ki := ki) (kq := kq) (sh := sh) (sh2 := sh2) (fa := fa) (fb := fb) (gu := gu) (co := co) (wk := wk) (db := db) (dn := dn) (iv := iv) (qs := qs) hM hT hB (a := a) (b := b) (by omega) (by omega) (fun h => hne (by rw [h])) (hsh a (by omega)) (hp.resolve_left c2)
          have hw1 : 0 ≤ wk1.toInt ∧ wk1.toInt + 9 * m ≤ 9000 := by
            rcases q6 with q6 | ⟨x, x1, x2⟩
            · rw [q6]; omega
            · rw [x2, zadd (by omega)]; omega
          have e0 : LX3_trialMiles_a gu pl ex sh ld tw le op (n + 1) i (nI a) co (nI b) wl wk db dn iv qs wy tr ak mx ms fa = LX3_trialMiles_a gu pl ex sh ld tw le op n (i + 1) po1 co1 go1 wl1 wk1 db1 dn1 iv1 qs1 wy1 tr1 ak1 mx1 ms1 fa1 := by
            rw [LX3_trialMiles_a, if_neg c1]
            unfold xbind xbind2
            try dsimp only
            rw [zun2 c2, if_neg (by decide), q1]
          by_cases ct : t = 0
          · have g1 : go1 = -1 := by
              rcases q7 with q7 | q7
              · exact absurd ct q7.2
              · exact q7.2.2
            refine ⟨i, po1, co1, go1, wl1, wk1, db1, dn1, iv1, qs1, wy1, tr1, ak1, mx1, ms1, fa1, ur1, uk1, uy1, xe1, sg1, fb1, ?_, ?_, by omega, ?_⟩
            · rw [e0]
              obtain ⟨n', rfl⟩ : ∃ n', n = n' + 1 := ⟨n - 1, by omega⟩
              exact ztr0 g1
            · rw [LX5_stepsOn_t, if_neg c9, if_neg c2]
              unfold xbind2
              try dsimp only
              rw [q2]
              dsimp only
              rw [if_pos ct]
            · rcases q7 with q7 | q7
              · exact Or.inl q7.1
              · exact Or.inr q7.1
          · have e7 : iv1 = iv := by
              rcases q7 with q7 | q7
              · exact q7.1
              · exact absurd q7.2.1 ct
            obtain ⟨j, po2, co2, go2, wl2, wk2, db2, dn2, iv2, qs2, wy2, tr2, ak2, mx2, ms2, fa2, ur2, uk2, uy2, xe2, sg2, fb2, k1, k2, k3, k4⟩ := ih n n2 (i + 1) po1 co1 go1 wl1 wk1 db1 dn1 iv1 qs1 wy1 tr1 ak1 mx1 ms1 fa1 ur1 uk1 uy1 xe1 sg1 fb1 (by omega) (by omega) (by omega) q3 (by rcases q5 with q5 | q5; exact Or.inl q5; exact Or.inr (by omega)) hw1
            refine ⟨j, po2, co2, go2, wl2, wk2, db2, dn2, iv2, qs2, wy2, tr2, ak2, mx2, ms2, fa2, ur2, uk2, uy2, xe2, sg2, fb2, by rw [e0]; exact k1, ?_, k3, by rw [← e7]; exact k4⟩
            rw [← k2, LX5_stepsOn_t, if_neg c9, if_neg c2]
            unfold xbind2
            try dsimp only
            rw [q2]
            dsimp only
            rw [if_neg ct]
