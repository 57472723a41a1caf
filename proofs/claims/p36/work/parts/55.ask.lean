/-! the shepherd asked; the way doubled, learnt; an errand's end -/
def zA0 (a b : Nat) (co qs : Int32) (tr ak mx ms : Nat → Int32) (pl : Int32) (ex ld le op fa : Nat → Int32) : Int32 × (Int32) × (Int32) × (Nat → Int32) × (Nat → Int32) × (Nat → Int32) × (Nat → Int32) :=
  xbind2 (FX1_endTowards pl ex ld le op fa (nI a) (nI b)) (fun r u => if r = (-1) then (xbind (FX0_canTake tr op r) (fun r41 => if r41 = 0 then (((-1), co - 1, qs + 1, upd ak a 1, mx, ms, u)) else ((r, co - 1, qs + 1, upd ak a 1, mx, ms, u)))) else (xbind (FX3_exitOfEnd r) (fun r46 => xbind (FX2_learn mx ms (nI b) (nI a) r46) (fun u49 => xbind (FX0_canTake tr op r) (fun r54 => if r54 = 0 then (((-1), co - 1, qs + 1, upd ak a 1, u49.1, u49.2, u)) else ((r, co - 1, qs + 1, upd ak a 1, u49.1, u49.2, u)))))))
theorem zexit {e : Nat} (h : e < 40) : FX3_exitOfEnd (nI e) = nI (e % 4) := zrm h
set_option maxHeartbeats 4000000 in
set_option maxRecDepth 100000 in
theorem zask {pl rs : Int32} {ex ld tw le op rd ml cz : Nat → Int32} (hL : zL pl rs ex ld tw le op rd ml cz) {sh sh2 fa fb : Nat → Int32} {gu co qs kq ln wk : Int32} {tr ak mx ms ur uk uy xe sg : Nat → Int32} {a b : Nat} (hM : zM pl ex mx ms xe sg) (hT : zT pl ex rd tr ak ur uk) (hk1 : ∀ k, k < 10 → uk k = 0 ∨ uk k = 1) (ha : (a : Int) < pl.toInt) (hb : (b : Int) < pl.toInt) (hab : a ≠ b) (hsh : sh2 a = 0 ↔ (sh a = 0 ∧ ¬ nI a = gu)) :
    ∃ (co2 qs2 : Int32) (ak2 uk2 mx2 ms2 xe2 sg2 fa2 fb2 : Nat → Int32), zT pl ex rd tr ak2 ur uk2 ∧ (∀ k, k < 10 → uk2 k = 0 ∨ uk2 k = 1) ∧ zM pl ex mx2 ms2 xe2 sg2 ∧
      ((FX0_askedEnd (nI a) co (nI b) gu qs tr ak mx ms pl ex sh ld le op fa = ((-1), co2, qs2, ak2, mx2, ms2, fa2) ∧ FX5_asks pl ex rd ld ml cz sh2 fb (nI a) co (nI b) ln wk (qs + kq) ur uk uy xe sg = (0, nI a, co2, ln, wk, qs2 + kq, ur, uk2, uy, xe2, sg2, fb2)) ∨
       ∃ e, zE pl ex e ∧ ¬ FX5_canTake rd cz ur (nI e) = 0 ∧ FX0_askedEnd (nI a) co (nI b) gu qs tr ak mx ms pl ex sh ld le op fa = (nI e, co2, qs2, ak2, mx2, ms2, fa2) ∧ FX5_asks pl ex rd ld ml cz sh2 fb (nI a) co (nI b) ln wk (qs + kq) ur uk uy xe sg = (1, ld e, co2, ln + 1, wk + le e, qs2 + kq, upd ur (rd e).toNatClampNeg 1, uk2, upd uy ln.toNatClampNeg (nI e), xe2, sg2, fb2)) := by
  have hpl := hL.1
  have hex4 := hL.2.1
  have hac : (nI a).toNatClampNeg = a := nI_clamp (by omega)
  have hai : (nI a).toInt = a := nI_toInt (by omega)
  have hbi : (nI b).toInt = b := nI_toInt (by omega)
  have hip : FX1_isPlace pl (nI a) = 1 := zpl (by rw [hai]; omega)
  have hka := hT.2.1 a (by omega)
  by_cases h1 : sh2 a = 0
  · obtain ⟨s1, s2⟩ := hsh.mp h1
    refine ⟨co, qs, ak, uk, mx, ms, xe, sg, fa, fb, hT, hk1, hM, Or.inl ⟨?_, ?_⟩⟩
    · unfold FX0_askedEnd xbind
      try dsimp only
      rw [hip, if_neg (by decide), hac, if_pos s1, if_neg s2]
    · unfold FX5_asks
      rw [hac, if_pos h1]
  · by_cases h2 : uk a = 0
    · by_cases h3 : co = 0
      · refine ⟨co, qs, ak, uk, mx, ms, xe, sg, fa, fb, hT, hk1, hM, Or.inl ⟨?_, ?_⟩⟩
        · unfold FX0_askedEnd xbind
          try dsimp only
          rw [hip, if_neg (by decide), hac]
          by_cases s1 : sh a = 0
          · by_cases s2 : nI a = gu
            · rw [if_pos s1, if_pos s2, if_pos (hka.trans h2), if_pos h3]
            · rw [if_pos s1, if_neg s2]
          · rw [if_neg s1, if_pos (hka.trans h2), if_pos h3]
        · unfold FX5_asks
          rw [hac, if_neg h1, if_pos h2, if_pos h3]
      · have eA : FX0_askedEnd (nI a) co (nI b) gu qs tr ak mx ms pl ex sh ld le op fa = zA0 a b co qs tr ak mx ms pl ex ld le op fa := by
          unfold FX0_askedEnd
          refine xb rfl ?_
          rw [hip, if_neg (by decide), hac]
          by_cases s1 : sh a = 0
          · by_cases s2 : nI a = gu
            · rw [if_pos s1, if_pos s2, if_pos (hka.trans h2), if_neg h3]
              rfl
            · exact absurd (hsh.mpr ⟨s1, s2⟩) h1
          · rw [if_neg s1, if_pos (hka.trans h2), if_neg h3]
            rfl
        have hk2 : ∀ k, k < 10 → upd uk a 1 k = 0 ∨ upd uk a 1 k = 1 := fun k hk => by
          by_cases c : k = a
          · rw [c, pk_us]; exact Or.inr rfl
          · rw [pk_un c]; exact hk1 k hk
        have hT2 : zT pl ex rd tr (upd ak a 1) ur (upd uk a 1) := ⟨hT.1, fun k hk => by
          by_cases c : k = a
          · rw [c, pk_us, pk_us]
          · rw [pk_un c, pk_un c]; exact hT.2.1 k hk, hT.2.2⟩
        rw [eA]
        rcases ztold hL fa fb (j := a) (g := nI b) ha (by rw [hbi]; omega) (by rw [nI_eq (by omega) (by omega)]; exact hab) with ⟨t1, t2⟩ | ⟨i0, t1, t2, t3, t4, t5⟩
        · refine ⟨co - 1, qs + 1, upd ak a 1, upd uk a 1, mx, ms, xe, sg, (FX1_endTowards pl ex ld le op fa (nI a) (nI b)).2, (FX5_toldExit pl ex rd ld ml cz fb (nI a) (nI b)).2, hT2, hk2, hM, Or.inl ⟨?_, ?_⟩⟩
          · unfold zA0 xbind2 xbind
            try dsimp only
            rw [t1, if_pos rfl, zcm, if_pos rfl]
          · unfold FX5_asks xbind2
            try dsimp only
            rw [hac, if_neg h1, if_pos h2, if_neg h3, t2, if_pos rfl, zac qs kq 1]
        · have h40 := t2.1
          have hxi := t2.2.2
          rw [show (4 * a + i0) / 4 = a from by omega, show (4 * a + i0) % 4 = i0 from by omega] at hxi
          have hM2 : zM pl ex (upd mx (10 * b + a) (nI i0)) (upd ms (10 * b + a) 3) (upd xe (10 * b + a) (nI i0)) (upd sg (10 * b + a) 3) := by
            refine zMu hM (k := 10 * b + a) (fun j hj => ⟨pk_un hj, pk_un hj, pk_un hj, pk_un hj⟩) ?_
            rw [pk_us, pk_us, pk_us, pk_us, show (10 * b + a) % 10 = a from by omega, nI_toInt (by omega), show (3 : Int32).toInt = 3 from rfl]
            exact ⟨⟨by decide, by decide⟩, rfl, rfl, ha, by omega, hxi⟩
          have hln : FX2_learn mx ms (nI b) (nI a) (nI i0) = (upd mx (10 * b + a) (nI i0), upd ms (10 * b + a) 3) := by
            unfold FX2_learn xbind
            try dsimp only
            rw [zspot (by omega) (by omega), if_neg (zm1 (by omega)), nI_clamp (by omega)]
          have hcz : cz (rd (4 * a + i0)).toNatClampNeg = 0 := Classical.byContradiction fun h0 => t3 ((hL.2.2.2.2.2.2.2.2.2.1 _ t2).2.2.2.2.2.1.mpr h0)
          have hct : FX5_canTake rd cz ur (nI (4 * a + i0)) = if ur (rd (4 * a + i0)).toNatClampNeg = 0 then 1 else 0 := by
            unfold FX5_canTake
            rw [nI_clamp (by omega), if_pos hcz]
          have hE4 : 4 * nI a + nI i0 = nI (4 * a + i0) := z4 a i0
          by_cases cc : ur (rd (4 * a + i0)).toNatClampNeg = 0
          · refine ⟨co - 1, qs + 1, upd ak a 1, upd uk a 1, _, _, _, _, (FX1_endTowards pl ex ld le op fa (nI a) (nI b)).2, (FX5_toldExit pl ex rd ld ml cz fb (nI a) (nI b)).2, hT2, hk2, hM2, Or.inr ⟨4 * a + i0, t2, by rw [hct, if_pos cc]; decide, ?_, ?_⟩⟩
            · unfold zA0 xbind2 xbind
              try dsimp only
              rw [t4, if_neg (zm1 (by omega)), zexit h40, show (4 * a + i0) % 4 = i0 from by omega, hln, zct hL hT.1 t2, hct, if_pos cc, if_neg (by decide)]
            · unfold FX5_asks xbind2 xbind FX4_remember
              try dsimp only
              rw [hac, if_neg h1, if_pos h2, if_neg h3, t5, if_neg (zm1 (by omega)), hE4, z10, nI_clamp (by omega), nI_clamp (by omega), if_pos cc, ztake5 hL t2, zac qs kq 1]
          · refine ⟨co - 1, qs + 1, upd ak a 1, upd uk a 1, _, _, _, _, (FX1_endTowards pl ex ld le op fa (nI a) (nI b)).2, (FX5_toldExit pl ex rd ld ml cz fb (nI a) (nI b)).2, hT2, hk2, hM2, Or.inl ⟨?_, ?_⟩⟩
            · unfold zA0 xbind2 xbind
              try dsimp only
              rw [t4, if_neg (zm1 (by omega)), zexit h40, show (4 * a + i0) % 4 = i0 from by omega, hln, zct hL hT.1 t2, hct, if_neg cc, if_pos rfl]
            · unfold FX5_asks xbind2 xbind FX4_remember
              try dsimp only
              rw [hac, if_neg h1, if_pos h2, if_neg h3, t5, if_neg (zm1 (by omega)), hE4, z10, nI_clamp (by omega), nI_clamp (by omega), if_neg cc, zac qs kq 1]
    · refine ⟨co, qs, ak, uk, mx, ms, xe, sg, fa, fb, hT, hk1, hM, Or.inl ⟨?_, ?_⟩⟩
      · have h2' : ¬ ak a = 0 := fun h => h2 (hka.symm.trans h)
        unfold FX0_askedEnd xbind
        try dsimp only
        rw [hip, if_neg (by decide), hac]
        by_cases s1 : sh a = 0
        · by_cases s2 : nI a = gu
          · rw [if_pos s1, if_pos s2, if_neg h2']
          · rw [if_pos s1, if_neg s2]
        · rw [if_neg s1, if_neg h2']
      · unfold FX5_asks
        rw [hac, if_neg h1, if_neg h2]
/-- the way learnt -/
theorem zlearn {pl : Int32} {ex : Nat → Int32} (hpl : 0 ≤ pl.toInt ∧ pl.toInt ≤ 10) (hex4 : ∀ k, k < 10 → 0 ≤ (ex k).toInt ∧ (ex k).toInt ≤ 4) {wl : Int32} {wy uy : Nat → Int32} {b : Nat} (hb : (b : Int) < pl.toInt) (hwl : wl.toInt ≤ 20) (hw : ∀ k : Nat, (k : Int) < wl.toInt → wy k = uy k ∧ ∃ e, wy k = nI e ∧ zE pl ex e) : ∀ (n n2 i : Nat) (mx ms xe sg : Nat → Int32), i ≤ 20 → wl.toInt < i + n → wl.toInt < i + n2 → zM pl ex mx ms xe sg → zM pl ex (LX0_rememberWay_a (nI b) wl wy n i mx ms).1 (LX0_rememberWay_a (nI b) wl wy n i mx ms).2 (LX5_learn_t (nI b) wl uy n2 i xe sg).1 (LX5_learn_t (nI b) wl uy n2 i xe sg).2 := by
  intro n
  induction n with
  | zero =>
    intro n2 i mx ms xe sg hi h1 h2 hM
    cases n2 with
    | zero => exact hM
    | succ n2 =>
      rw [LX5_learn_t, if_pos (by rw [xle, nI_toInt (by omega)]; omega)]
      exact hM
  | succ n ih =>
    intro n2 i mx ms xe sg hi h1 h2 hM
    by_cases c : wl ≤ nI i
    · rw [LX0_rememberWay_a, if_pos c]
      cases n2 with
      | zero => exact hM
      | succ n2 => rw [LX5_learn_t, if_pos c]; exact hM
    · cases n2 with
      | zero => exact absurd h2 (by rw [xle, nI_toInt (by omega)] at c; omega)
      | succ n2 =>
        have c' := c
        rw [xle, nI_toInt (by omega)] at c'
        obtain ⟨w1, e, w2, hz⟩ := hw i (by omega)
        have h40 := hz.1
        have hic : (nI i).toNatClampNeg = i := nI_clamp (by omega)
        have hp : e / 4 < 10 := by omega
        have e0 : LX0_rememberWay_a (nI b) wl wy (n + 1) i mx ms = LX0_rememberWay_a (nI b) wl wy n (i + 1) (FX2_confirm mx ms (nI b) (nI (e / 4)) (nI (e % 4))).1 (FX2_confirm mx ms (nI b) (nI (e / 4)) (nI (e % 4))).2 := by
          rw [LX0_rememberWay_a, if_neg c]
          unfold xbind
          try dsimp only
          rw [hic, w2, zexit h40, show FX3_placeOfEnd (nI e) = nI (e / 4) from zdvI h40]
        have e1 : LX5_learn_t (nI b) wl uy (n2 + 1) i xe sg = if xe (10 * b + e / 4) = nI (e % 4) then LX5_learn_t (nI b) wl uy n2 (i + 1) (upd xe (10 * b + e / 4) (nI (e % 4))) (upd sg (10 * b + e / 4) (if sg (10 * b + e / 4) + 3 < 9 then sg (10 * b + e / 4) + 3 else 9)) else LX5_learn_t (nI b) wl uy n2 (i + 1) (upd xe (10 * b + e / 4) (nI (e % 4))) (upd sg (10 * b + e / 4) 3) := by
          rw [LX5_learn_t, if_neg c]
          unfold xbind FX4_remembered FX4_remember
          try dsimp only
          rw [hic, ← w1, w2, zrm h40, zdvI h40, z10, nI_clamp (by omega)]
        rw [e0, e1]
        have hsp : FX2_spotOf (nI b) (nI (e / 4)) = nI (10 * b + e / 4) := zspot hp (by omega)
        have hln : FX2_learn mx ms (nI b) (nI (e / 4)) (nI (e % 4)) = (upd mx (10 * b + e / 4) (nI (e % 4)), upd ms (10 * b + e / 4) 3) := by
          unfold FX2_learn xbind
          try dsimp only
          rw [hsp, if_neg (zm1 (by omega)), nI_clamp (by omega)]
        have hmod : (10 * b + e / 4) % 10 = e / 4 := by omega
        have h3 : (3 : Int32).toInt = 3 := rfl
        have h0 : (0 : Int32).toInt = 0 := rfl
        have hnew : zM pl ex (upd mx (10 * b + e / 4) (nI (e % 4))) (upd ms (10 * b + e / 4) 3) (upd xe (10 * b + e / 4) (nI (e % 4))) (upd sg (10 * b + e / 4) 3) := by
          refine zMu hM (k := 10 * b + e / 4) (fun j hj => ⟨pk_un hj, pk_un hj, pk_un hj, pk_un hj⟩) ?_
          rw [pk_us, pk_us, pk_us, pk_us, hmod, nI_toInt (by omega), h3]
          exact ⟨⟨by decide, by decide⟩, rfl, rfl, hz.2.1, by omega, hz.2.2⟩
        rcases hM (10 * b + e / 4) (by omega) with ⟨m1, m2⟩ | ⟨m1, m2, m3, m4, m5, m6⟩
        · have ec : FX2_confirm mx ms (nI b) (nI (e / 4)) (nI (e % 4)) = (upd mx (10 * b + e / 4) (nI (e % 4)), upd ms (10 * b + e / 4) 3) := by
            unfold FX2_confirm xbind
            try dsimp only
            rw [hsp, if_neg (zm1 (by omega)), nI_clamp (by omega), if_pos (by rw [xle, m1, h0]; omega), hln]
          rw [ec, if_neg (by rw [m2]; exact fun h => zm1 (n := e % 4) (by omega) h.symm)]
          exact ih n2 (i + 1) _ _ _ _ (by omega) (by omega) (by omega) hnew
        · by_cases cm : mx (10 * b + e / 4) = nI (e % 4)
          · have ec : FX2_confirm mx ms (nI b) (nI (e / 4)) (nI (e % 4)) = (mx, upd ms (10 * b + e / 4) (if ms (10 * b + e / 4) + 3 < 9 then ms (10 * b + e / 4) + 3 else 9)) := by
              unfold FX2_confirm xbind
              try dsimp only
              rw [hsp, if_neg (zm1 (by omega)), nI_clamp (by omega), if_neg (by rw [xle, h0]; omega), if_pos cm]
            rw [ec, if_pos (m3.trans cm), m2]
            have hsum : (ms (10 * b + e / 4) + 3).toInt = (ms (10 * b + e / 4)).toInt + 3 := by rw [zadd (by rw [h3]; omega), h3]
            have hr9 : 1 ≤ (if ms (10 * b + e / 4) + 3 < 9 then ms (10 * b + e / 4) + 3 else 9 : Int32).toInt ∧ (if ms (10 * b + e / 4) + 3 < 9 then ms (10 * b + e / 4) + 3 else 9 : Int32).toInt ≤ 9 := by
              by_cases c9 : ms (10 * b + e / 4) + 3 < 9
              · rw [if_pos c9]
                rw [xltI, show (9 : Int32).toInt = 9 from rfl] at c9
                omega
              · rw [if_neg c9]; exact ⟨by decide, by decide⟩
            refine ih n2 (i + 1) _ _ _ _ (by omega) (by omega) (by omega) (zMu hM (k := 10 * b + e / 4) (fun j hj => ⟨rfl, pk_un hj, pk_un hj, pk_un hj⟩) ?_)
            dsimp only
            rw [pk_us, pk_us, pk_us, hmod]
            refine ⟨hr9, rfl, cm.symm, hz.2.1, m5, ?_⟩
            rw [hmod] at m6
            exact m6
          · have ec : FX2_confirm mx ms (nI b) (nI (e / 4)) (nI (e % 4)) = (upd mx (10 * b + e / 4) (nI (e % 4)), upd ms (10 * b + e / 4) 3) := by
              unfold FX2_confirm xbind
              try dsimp only
              rw [hsp, if_neg (zm1 (by omega)), nI_clamp (by omega), if_neg (by rw [xle, h0]; omega), if_neg cm, hln]
            rw [ec, if_neg (by rw [m3]; exact cm)]
            exact ih n2 (i + 1) _ _ _ _ (by omega) (by omega) (by omega) hnew
theorem zz20 : ∀ (n i : Nat) (f : Nat → Int32), i + n = 21 → i ≤ 20 → (∀ k, k < i → f k = 0) → ∀ k, k < 20 → LX4_begin_a n i f k = 0
  | 0, i, f, h, h1, h2 => absurd h1 (by omega)
  | n + 1, i, f, h, h1, h2 => by
    by_cases c : 20 ≤ nI i
    · rw [LX4_begin_a, if_pos c]
      rw [show (20 : Int32) = nI 20 from rfl, nI_leI (by decide) (by omega)] at c
      exact fun k hk => h2 k (by omega)
    · rw [LX4_begin_a, if_neg c, nI_clamp (by omega)]
      rw [show (20 : Int32) = nI 20 from rfl, nI_leI (by decide) (by omega)] at c
      refine zz20 n (i + 1) _ (by omega) (by omega) (fun k hk => ?_)
      by_cases c3 : k = i
      · rw [c3, pk_us]
      · rw [pk_un c3]; exact h2 k (by omega)
theorem zz10 : ∀ (n i : Nat) (f : Nat → Int32), i + n = 11 → i ≤ 10 → (∀ k, k < i → f k = 0) → ∀ k, k < 10 → LX4_begin_b n i f k = 0
  | 0, i, f, h, h1, h2 => absurd h1 (by omega)
  | n + 1, i, f, h, h1, h2 => by
    by_cases c : 10 ≤ nI i
    · rw [LX4_begin_b, if_pos c]
      rw [show (10 : Int32) = nI 10 from rfl, nI_leI (by decide) (by omega)] at c
      exact fun k hk => h2 k (by omega)
    · rw [LX4_begin_b, if_neg c, nI_clamp (by omega)]
      rw [show (10 : Int32) = nI 10 from rfl, nI_leI (by decide) (by omega)] at c
      refine zz10 n (i + 1) _ (by omega) (by omega) (fun k hk => ?_)
      by_cases c3 : k = i
      · rw [c3, pk_us]
      · rw [pk_un c3]; exact h2 k (by omega)
theorem zbeg (tr ak : Nat → Int32) (g : Int32) : ∃ z2 z5 : Nat → Int32, FX4_begin tr ak g = (g, 0, z2, z5) ∧ (∀ k, k < 20 → z2 k = 0) ∧ (∀ k, k < 10 → z5 k = 0) :=
  ⟨LX4_begin_a 21 0 tr, LX4_begin_b 11 0 ak, rfl, zz20 21 0 tr rfl (by omega) (fun k hk => absurd hk (by omega)), zz10 11 0 ak rfl (by omega) (fun k hk => absurd hk (by omega))⟩
theorem zendz (tr ak : Nat → Int32) : ∃ z2 z5 : Nat → Int32, FX4_end tr ak = (-1, 0, z2, z5) ∧ (∀ k, k < 20 → z2 k = 0) ∧ (∀ k, k < 10 → z5 k = 0) := by
  obtain ⟨z2, z5, h1, h2, h3⟩ := zbeg tr ak (-1)
  refine ⟨z2, z5, ?_, h2, h3⟩
  unfold FX4_end xbind
  try dsimp only
  rw [h1]
theorem ycnt0 {f : Nat → Int32} : ∀ n, (∀ k, k < n → f k = 0) → ycnt n f = 0
  | 0, _ => rfl
  | n + 1, h => by
    unfold ycnt
    rw [ycnt0 n (fun k hk => h k (by omega)), if_pos (h n (by omega))]
