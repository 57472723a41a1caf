/-! the checksum -/
theorem zmf (d : Int64) (b : Int32) : FX3_mixFlag d b = d * 31 + (FX5_one b).toInt64 := by
  unfold FX3_mixFlag FX5_one
  by_cases c : b = 0
  · rw [if_pos c, if_pos c]; rfl
  · rw [if_neg c, if_neg c]; rfl
theorem zone (b : Int32) : FX5_one (FX5_one b) = FX5_one b := by
  unfold FX5_one
  by_cases c : b = 0
  · rw [if_pos c, if_pos rfl]
  · rw [if_neg c, if_neg (by decide)]
theorem zdig_e {pl rs : Int32} {ex ld tw le op rd ml cz : Nat → Int32} (hL : zL pl rs ex ld tw le op rd ml cz) {go : Int32} {tr ur : Nat → Int32} (hT : ∀ e, zE pl ex e → (if go = -1 then 0 else if tr e = 0 then 0 else 1 : Int32) = FX5_one (ur (rd e).toNatClampNeg)) {p : Nat} (hp : (p : Int) < pl.toInt) : ∀ (n i : Nat) (d : Int64), i + n = 5 → (i : Int) ≤ (ex p).toInt → LX3_mixPlaces_e go tr pl ex ld le op (nI p) n i d = LX5_digest_e ex rd ld ml cz ur (nI p) n (4 * p + i) d
  | 0, i, d, h, h1 => rfl
  | n + 1, i, d, h, h1 => by
    have hpl := hL.1
    have hex4 := hL.2.1
    have hpc : (nI p).toNatClampNeg = p := nI_clamp (by omega)
    have hpi : (nI p).toInt = p := nI_toInt (by omega)
    have h4 := hex4 p (by omega)
    have hx : ex p = nI (ex p).toNatClampNeg := (znI h4.1).symm
    have hxn := znat h4.1
    have hb : 4 * nI p + ex p = nI (4 * p + (ex p).toNatClampNeg) := by rw [hx, z4, nI_clamp (by omega)]
    rw [LX3_mixPlaces_e, LX5_digest_e]
    unfold xbind FX3_exitsOfok FX3_mix
    try dsimp only
    rw [hpc, hb]
    by_cases c : ex p ≤ nI i
    · have c' := c
      rw [xle, nI_toInt (by omega)] at c'
      rw [if_pos c, if_pos (by rw [nI_leI (by omega) (by omega)]; omega)]
    · have c' := c
      rw [xle, nI_toInt (by omega)] at c'
      obtain ⟨hz, z1, z2, z3, z5, z6⟩ := zEi hpl hex4 hp (by omega : (i : Int) < (ex p).toInt)
      obtain ⟨v1, v2, v3, v4, v5, v6, v7⟩ := hL.2.2.2.2.2.2.2.2.2.1 _ hz
      have he : FX1_endAt pl ex (nI p) (nI i) = nI (4 * p + i) := zend' hp hpl (by omega) z3
      have e1 : FX3_leadsTook pl ex ld (nI p) (nI i) = ld (4 * p + i) := by
        show FX1_beyond ld (FX1_endAt pl ex (nI p) (nI i)) = _
        rw [he, zbey z6]
      have e2 : FX3_milesOfok pl ex le (nI p) (nI i) = le (4 * p + i) := by
        show FX1_milesAt le (FX1_endAt pl ex (nI p) (nI i)) = _
        rw [he, zmla z6]
      have e3 : FX3_isOpenok pl ex op (nI p) (nI i) = if op (4 * p + i) = 0 then 0 else 1 := by
        show FX1_opensAt op (FX1_endAt pl ex (nI p) (nI i)) = _
        rw [he, zopa z6]
      have e4 : FX3_isTriedok go tr pl ex (nI p) (nI i) = FX5_one (ur (rd (4 * p + i)).toNatClampNeg) := by
        rw [← hT _ hz]
        unfold FX3_isTriedok FX3_checkedEndok xbind
        try dsimp only
        by_cases cg : go = -1
        · rw [zun1 cg, if_pos rfl, if_pos cg]
        · rw [zun2 cg, if_neg cg, if_neg (by decide), he, zhtr z6]
          by_cases ct : tr (4 * p + i) = 0
          · rw [if_pos ct, if_pos rfl]
          · rw [if_neg ct, if_neg (by decide)]
      rw [if_neg c, if_neg (by rw [nI_leI (by omega) (by omega)]; omega), e1, e2, e3, e4, nI_clamp (by omega), zmf, zmf, v5, zone]
      by_cases co : op (4 * p + i) = 0
      · rw [if_pos co, if_neg (v6.mp co)]
        exact zdig_e hL hT hp n (i + 1) _ (by omega) (by omega)
      · rw [if_neg co, if_pos (Classical.byContradiction fun h => co (v6.mpr h))]
        exact zdig_e hL hT hp n (i + 1) _ (by omega) (by omega)
theorem zdig_p {pl rs : Int32} {ex ld tw le op rd ml cz : Nat → Int32} (hL : zL pl rs ex ld tw le op rd ml cz) {go : Int32} {tr ur sh : Nat → Int32} (hT : ∀ e, zE pl ex e → (if go = -1 then 0 else if tr e = 0 then 0 else 1 : Int32) = FX5_one (ur (rd e).toNatClampNeg)) : ∀ (n i : Nat) (d : Int64), i + n = 11 → (i : Int) ≤ pl.toInt → LX3_mixPlaces_p go tr pl ex sh ld le op n i d = LX5_digest_p pl ex rd ld ml cz sh ur n i d
  | 0, i, d, h, h1 => rfl
  | n + 1, i, d, h, h1 => by
    have hpl := hL.1
    have hex4 := hL.2.1
    have hic : (nI i).toNatClampNeg = i := nI_clamp (by omega)
    rw [LX3_mixPlaces_p, LX5_digest_p]
    by_cases c : pl ≤ nI i
    · rw [if_pos c, if_pos c]
    · have c' := c
      rw [xle, nI_toInt (by omega)] at c'
      rw [if_neg c, if_neg c]
      unfold xbind FX3_hasShepherdok FX3_exitsOfok FX3_mix
      try dsimp only
      have h4 := hex4 i (by omega)
      rw [hic, zmf, zdig_e hL hT (by omega) 5 0 _ rfl (by omega), Nat.add_zero]
      exact zdig_p hL hT n (i + 1) _ (by omega) (by omega)
theorem zdig_q {pl : Int32} {ex mx ms xe sg : Nat → Int32} (hpl : 0 ≤ pl.toInt ∧ pl.toInt ≤ 10) (hM : zM pl ex mx ms xe sg) {g : Nat} (hg : (g : Int) < pl.toInt) : ∀ (n i : Nat) (d : Int64), i + n = 11 → (i : Int) ≤ pl.toInt → LX3_mixMemory_q mx ms pl (nI g) n i d = LX5_digest_q pl xe sg (nI g) n i d
  | 0, i, d, h, h1 => rfl
  | n + 1, i, d, h, h1 => by
    rw [LX3_mixMemory_q, LX5_digest_q]
    by_cases c : pl ≤ nI i
    · rw [if_pos c, if_pos c]
    · have c' := c
      rw [xle, nI_toInt (by omega)] at c'
      rw [if_neg c, if_neg c]
      unfold xbind FX3_rememberedok FX3_strengthok FX3_mix xbind
      try dsimp only
      rw [zexf hM (by omega) (by omega), zstr hM (by omega) (by omega), z10, nI_clamp (by omega)]
      exact zdig_q hpl hM hg n (i + 1) _ (by omega) (by omega)
theorem zdig_g {pl : Int32} {ex mx ms xe sg : Nat → Int32} (hpl : 0 ≤ pl.toInt ∧ pl.toInt ≤ 10) (hM : zM pl ex mx ms xe sg) : ∀ (n i : Nat) (d : Int64), i + n = 11 → (i : Int) ≤ pl.toInt → LX3_mixMemory_g mx ms pl n i d = LX5_digest_g pl xe sg n i d
  | 0, i, d, h, h1 => rfl
  | n + 1, i, d, h, h1 => by
    rw [LX3_mixMemory_g, LX5_digest_g]
    by_cases c : pl ≤ nI i
    · rw [if_pos c, if_pos c]
    · have c' := c
      rw [xle, nI_toInt (by omega)] at c'
      rw [if_neg c, if_neg c]
      unfold xbind
      try dsimp only
      rw [zdig_q hpl hM (by omega) 11 0 d rfl hpl.1]
      exact zdig_g hpl hM n (i + 1) _ (by omega) (by omega)
theorem zdig_a (da : Nat → Int32) : LX5_digest_a da 11 0 1873 = (((((((((((1873 * 31 + (da 0).toInt64) * 31 + (da 1).toInt64) * 31 + (da 2).toInt64) * 31 + (da 3).toInt64) * 31 + (da 4).toInt64) * 31 + (da 5).toInt64) * 31 + (da 6).toInt64) * 31 + (da 7).toInt64) * 31 + (da 8).toInt64) * 31 + (da 9).toInt64)) := by
  have st : ∀ (n i : Nat) (d : Int64), i < 10 → LX5_digest_a da (n + 1) i d = LX5_digest_a da n (i + 1) (d * 31 + (da i).toInt64) := fun n i d h => by
    rw [LX5_digest_a, if_neg (by rw [show (10 : Int32) = nI 10 from rfl, nI_leI (by decide) (by omega)]; omega), nI_clamp (by omega)]
  rw [st 10 0 _ (by omega), st 9 _ _ (by omega), st 8 _ _ (by omega), st 7 _ _ (by omega), st 6 _ _ (by omega), st 5 _ _ (by omega), st 4 _ _ (by omega), st 3 _ _ (by omega), st 2 _ _ (by omega), st 1 _ _ (by omega), LX5_digest_a, if_pos (by decide)]
theorem zo_digest {N : Nat} {pl rs po pq go wl gu iv : Int32} {ex sh ld tw le op rd ml cz wy tr ak mx ms ur uk uy xe sg : Nat → Int32} (hI : zI N pl rs ex sh ld tw le op rd ml cz po pq go wl gu iv wy tr ak mx ms ur uk uy xe sg) (co wk db dn qs : Int32) : FX5_digest pl ex rd ld ml cz sh pq co go wl wk db dn iv qs ur xe sg = (FX3_digest po co go wl wk db dn iv qs tr mx ms pl ex sh ld le op, 0) := by
  have hpl := hI.1.1
  have hT : ∀ e, zE pl ex e → (if go = -1 then 0 else if tr e = 0 then 0 else 1 : Int32) = FX5_one (ur (rd e).toNatClampNeg) := fun e hz => by
    have hC := zI_C hI (by have := hz.2.1; omega)
    have r20 := xcl (hI.1.2.2.2.2.2.2.2.1 e hz.1)
    rcases hC.2.2.2.2 with h | h
    · rw [if_pos h.1, h.2.2 _ r20]; rfl
    · rw [if_neg (zgm h.1), h.2.2.1 e hz]
      rfl
  have w := zo_whereIs hI
  unfold FX5_digest xbind
  try dsimp only
  rw [zdig_a, ← zdig_p hI.1 hT 11 0 _ rfl hpl.1, ← zdig_g hpl (zI_M hI) 11 0 _ rfl hpl.1, ← w]
  rfl
