/-! the shortest way's miles, and the exit that a shepherd tells: the same on both sides -/
theorem zshort {pl rs : Int32} {ex ld tw le op rd ml cz : Nat → Int32} (hL : zL pl rs ex ld tw le op rd ml cz) (fa fb : Nat → Int32) {q g : Int32} (hq : 0 ≤ q.toInt ∧ q.toInt < pl.toInt) (hg : 0 ≤ g.toInt ∧ g.toInt < pl.toInt) : (FX1_shortest pl ld le op fa q g).1 = (FX5_milesBetween pl ex rd ld ml cz fb q g).1 := by
  have hpl := hL.1
  obtain ⟨F, f1, f2, f3, f4, f5, f6⟩ := zmeas hL fa fb hg
  have hqn := znat hq.1
  have a1 := f1 q.toNatClampNeg (by omega)
  have a2 := f2 q.toNatClampNeg (by omega)
  have e1 : FX1_shortest pl ld le op fa q g = if (1000000 : Int32) ≤ FX1_measure pl ld le op fa g q.toNatClampNeg then ((-1), FX1_measure pl ld le op fa g) else (FX1_measure pl ld le op fa g q.toNatClampNeg, FX1_measure pl ld le op fa g) := by
    unfold FX1_shortest xbind
    try dsimp only
    rw [zpl hq, if_neg (by decide)]
  have e2 : FX5_milesBetween pl ex rd ld ml cz fb q g = if FX5_measure pl ex rd ld ml cz fb g q.toNatClampNeg = 9999 then ((-1), FX5_measure pl ex rd ld ml cz fb g) else (FX5_measure pl ex rd ld ml cz fb g q.toNatClampNeg, FX5_measure pl ex rd ld ml cz fb g) := rfl
  rw [e1, e2]
  rcases f3 q.toNatClampNeg (by omega) with c | c
  · rw [if_pos (by rw [xle, a1, c]; decide), if_pos (by rw [xeqI, a2, c]; rfl)]
  · have h : zph (F q.toNatClampNeg) = (F q.toNatClampNeg : Nat) := if_neg (by omega)
    rw [if_neg (by rw [xle, a1, h, show (1000000 : Int32).toInt = 1000000 from rfl]; omega), if_neg (by rw [xeqI, a2, show (9999 : Int32).toInt = 9999 from rfl]; omega)]
    show FX1_measure pl ld le op fa g q.toNatClampNeg = FX5_measure pl ex rd ld ml cz fb g q.toNatClampNeg
    rw [xeqI, a1, a2, h]
theorem z4 (j i : Nat) : 4 * nI j + nI i = nI (4 * j + i) := by
  rw [show (4 : Int32) = nI 4 from rfl, pk_mul, nI_add]
theorem z4' (j i : Nat) : nI j * 4 + nI i = nI (4 * j + i) := by
  rw [show (4 : Int32) = nI 4 from rfl, pk_mul, nI_add, Nat.mul_comm]
theorem zEi {pl : Int32} {ex : Nat → Int32} {j i : Nat} (hpl : 0 ≤ pl.toInt ∧ pl.toInt ≤ 10) (hex4 : ∀ k, k < 10 → 0 ≤ (ex k).toInt ∧ (ex k).toInt ≤ 4) (hj : (j : Int) < pl.toInt) (hi : (i : Int) < (ex j).toInt) : zE pl ex (4 * j + i) ∧ (4 * j + i) / 4 = j ∧ (4 * j + i) % 4 = i ∧ i < 4 ∧ j < 10 ∧ 4 * j + i < 40 := by
  have h := hex4 j (by omega)
  have h1 : (4 * j + i) / 4 = j := by omega
  have h2 : (4 * j + i) % 4 = i := by omega
  refine ⟨⟨by omega, ?_, ?_⟩, h1, h2, by omega, by omega, by omega⟩
  · rw [h1]; exact hj
  · rw [h1, h2]; exact hi
/-- an open end's way in the reference's row -/
theorem zval {pl rs : Int32} {ex ld tw le op rd ml cz : Nat → Int32} (hL : zL pl rs ex ld tw le op rd ml cz) {g : Nat} {fa fb : Nat → Int32} {F : Nat → Nat} (hF : zF pl ex ld le op g fa fb F) {e : Nat} (hz : zE pl ex e) : (fb (ld e).toNatClampNeg + ml (rd e).toNatClampNeg).toInt = ((F (zq ld e) + zq le e : Nat) : Int) ∧ (le e + fa (ld e).toNatClampNeg).toInt = (zq le e : Nat) + zph (F (zq ld e)) ∧ 1 ≤ zq le e ∧ zq le e ≤ 9 := by
  obtain ⟨hpl, hex4, hex0, hld, htw, hop, hrs, hrd, hcz, hv, hnv⟩ := id hL
  obtain ⟨f1, f2, f3, f4, f5, f6⟩ := hF
  obtain ⟨v1, v2, v3, v4, v5, v6, v7⟩ := hv e hz
  have q1 : ((zq ld e : Nat) : Int) = (ld e).toInt := znat (hld e hz.1).1
  have w1 : ((zq le e : Nat) : Int) = (le e).toInt := znat (by omega)
  have a1 := f1 (zq ld e) (xcl (hld e hz.1))
  have a2 := f2 (zq ld e) (by omega)
  have n1 := f3 (zq ld e) (xcl (hld e hz.1))
  have p1 : zph (F (zq ld e)) ≤ 1000000 ∧ 0 ≤ zph (F (zq ld e)) := by
    unfold zph
    split <;> omega
  refine ⟨?_, ?_, by omega, by omega⟩
  · rw [zadd (by rw [a2, v5]; omega), a2, v5]; omega
  · rw [zadd (by rw [a1]; omega), a1]; omega
theorem ztf {pl rs : Int32} {ex ld tw le op rd ml cz : Nat → Int32} (hL : zL pl rs ex ld tw le op rd ml cz) {g j : Nat} {fa fb : Nat → Int32} {F : Nat → Nat} (hF : zF pl ex ld le op g fa fb F) (hj : (j : Int) < pl.toInt) : ∀ (n i : Nat) (bt lst : Int32), i + n = 5 → lst.toInt ≤ (F j : Nat) → LX5_toldExit_t ex rd ld ml cz fb (nI j) n i bt lst = (bt, lst)
  | 0, _, _, _, _, _ => rfl
  | n + 1, i, bt, lst, hi, h => by
    have hpl := hL.1
    have hex4 := hL.2.1
    have hjc : (nI j).toNatClampNeg = j := nI_clamp (by omega)
    by_cases c1 : ex (nI j).toNatClampNeg ≤ nI i
    · rw [LX5_toldExit_t, if_pos c1]
    · have c1' := c1
      rw [hjc, xle, nI_toInt (by omega)] at c1'
      obtain ⟨hz, z1, z2, z3, z5, z6⟩ := zEi hpl hex4 hj (by omega : (i : Int) < (ex j).toInt)
      have hc : (4 * nI j + nI i).toNatClampNeg = 4 * j + i := by rw [z4, nI_clamp (by omega)]
      by_cases c2 : cz (rd (4 * j + i)).toNatClampNeg = 0
      · have hv := (zval hL hF hz).1
        have hEb : zeo pl ex op (4 * j + i) = true := zeo_iff.mpr ⟨hz, fun h0 => ((hL.2.2.2.2.2.2.2.2.2.1 _ hz).2.2.2.2.2.1.mp h0) c2⟩
        have h5 := hF.2.2.2.2.1 _ hEb
        rw [z1] at h5
        rw [LX5_toldExit_t, if_neg c1, hc, if_pos c2, if_neg (by rw [xltI, hv]; omega)]
        exact ztf hL hF hj n (i + 1) bt lst (by omega) h
      · rw [LX5_toldExit_t, if_neg c1, hc, if_neg c2]
        exact ztf hL hF hj n (i + 1) bt lst (by omega) h
theorem ztn {pl rs : Int32} {ex ld tw le op rd ml cz : Nat → Int32} (hL : zL pl rs ex ld tw le op rd ml cz) {g j : Nat} {fa fb : Nat → Int32} {F : Nat → Nat} (hF : zF pl ex ld le op g fa fb F) (hj : (j : Int) < pl.toInt) (hD : F j < 9999) : ∀ (n i : Nat) (bt lst : Int32), i + n = 5 → (F j : Nat) < lst.toInt → (∃ i0 : Nat, i ≤ i0 ∧ (i0 : Int) < (ex j).toInt ∧ zeo pl ex op (4 * j + i0) = true ∧ F (zq ld (4 * j + i0)) + zq le (4 * j + i0) ≤ F j) → ∃ i0 : Nat, i0 < 4 ∧ zE pl ex (4 * j + i0) ∧ ¬ op (4 * j + i0) = 0 ∧ (LX5_toldExit_t ex rd ld ml cz fb (nI j) n i bt lst).1 = nI i0 ∧ LX1_endTowards_t ex ld le op fa (nI j) n i = (nI (4 * j + i0), fa)
  | 0, i, _, _, hi, _, ⟨i0, h1, h2, _⟩ => absurd h2 (by have := hL.2.1 j (by have := hL.1; omega); omega)
  | n + 1, i, bt, lst, hi, h, ⟨i0, h1, h2, h3, h4⟩ => by
    have hpl := hL.1
    have hex4 := hL.2.1
    have hjc : (nI j).toNatClampNeg = j := nI_clamp (by omega)
    have c1 : ¬ ex (nI j).toNatClampNeg ≤ nI i := by rw [hjc, xle, nI_toInt (by omega)]; omega
    obtain ⟨hz, z1, z2, z3, z5, z6⟩ := zEi hpl hex4 hj (by omega : (i : Int) < (ex j).toInt)
    have hc : (4 * nI j + nI i).toNatClampNeg = 4 * j + i := by rw [z4, nI_clamp (by omega)]
    have hci : (nI (4 * j + i)).toNatClampNeg = 4 * j + i := nI_clamp (by omega)
    have a1 := hF.1 j z5
    have a2 : zph (F j) = (F j : Nat) := if_neg (by omega)
    have n1 := hF.2.2.1 (zq ld (4 * j + i)) (xcl (hL.2.2.2.1 _ z6))
    by_cases c2 : op (4 * j + i) = 0
    · have c3 : ¬ cz (rd (4 * j + i)).toNatClampNeg = 0 := (hL.2.2.2.2.2.2.2.2.2.1 _ hz).2.2.2.2.2.1.mp c2
      have hne : i0 ≠ i := fun e => by rw [e] at h3; exact (zeo_iff.mp h3).2 c2
      obtain ⟨k0, k1, k2, k3, k4, k5⟩ := ztn hL hF hj hD n (i + 1) bt lst (by omega) h ⟨i0, by omega, h2, h3, h4⟩
      refine ⟨k0, k1, k2, k3, ?_, ?_⟩
      · rw [LX5_toldExit_t, if_neg c1, hc, if_neg c3]; exact k4
      · rw [LX1_endTowards_t, if_neg c1]
        unfold xbind FX1_milesBy
        try dsimp only
        rw [z4', hci, if_pos c2, hjc, if_neg (by rw [xeqI, a1, a2, show (1000000 : Int32).toInt = 1000000 from rfl]; omega)]
        exact k5
    · have c3 : cz (rd (4 * j + i)).toNatClampNeg = 0 := Classical.byContradiction fun h0 => c2 ((hL.2.2.2.2.2.2.2.2.2.1 _ hz).2.2.2.2.2.1.mpr h0)
      obtain ⟨v1, v2, v3, v4⟩ := zval hL hF hz
      have hEb : zeo pl ex op (4 * j + i) = true := zeo_iff.mpr ⟨hz, c2⟩
      have h5 := hF.2.2.2.2.1 _ hEb
      rw [z1] at h5
      by_cases c4 : F (zq ld (4 * j + i)) + zq le (4 * j + i) = F j
      · have a3 : zph (F (zq ld (4 * j + i))) = (F (zq ld (4 * j + i)) : Nat) := if_neg (by omega)
        refine ⟨i, z3, hz, c2, ?_, ?_⟩
        · rw [LX5_toldExit_t, if_neg c1, hc, if_pos c3, if_pos (by rw [xltI, v1]; omega), ztf hL hF hj n (i + 1) _ _ (by omega) (by rw [v1]; omega)]
        · rw [LX1_endTowards_t, if_neg c1]
          unfold xbind FX1_milesBy
          try dsimp only
          rw [z4', hci, if_neg c2, hjc, if_pos (by rw [xeqI, v2, a1, a2, a3]; omega)]
      · have hne : i0 ≠ i := fun e => by rw [e] at h4; omega
        have e5 : LX1_endTowards_t ex ld le op fa (nI j) (n + 1) i = LX1_endTowards_t ex ld le op fa (nI j) n (i + 1) := by
          rw [LX1_endTowards_t, if_neg c1]
          unfold xbind FX1_milesBy
          try dsimp only
          rw [z4', hci, if_neg c2, hjc, if_neg]
          rw [xeqI, v2, a1, a2]
          unfold zph
          split <;> omega
        rw [e5]
        by_cases c5 : F (zq ld (4 * j + i)) + zq le (4 * j + i) < lst.toInt
        · have e6 : LX5_toldExit_t ex rd ld ml cz fb (nI j) (n + 1) i bt lst = LX5_toldExit_t ex rd ld ml cz fb (nI j) n (i + 1) (nI i) (fb (ld (4 * j + i)).toNatClampNeg + ml (rd (4 * j + i)).toNatClampNeg) := by
            rw [LX5_toldExit_t, if_neg c1, hc, if_pos c3, if_pos (by rw [xltI, v1]; omega)]
          rw [e6]
          exact ztn hL hF hj hD n (i + 1) _ _ (by omega) (by rw [v1]; omega) ⟨i0, by omega, h2, h3, h4⟩
        · have e6 : LX5_toldExit_t ex rd ld ml cz fb (nI j) (n + 1) i bt lst = LX5_toldExit_t ex rd ld ml cz fb (nI j) n (i + 1) bt lst := by
            rw [LX5_toldExit_t, if_neg c1, hc, if_pos c3, if_neg (by rw [xltI, v1]; omega)]
          rw [e6]
          exact ztn hL hF hj hD n (i + 1) bt lst (by omega) h ⟨i0, by omega, h2, h3, h4⟩
/-- what the shepherd at place j tells -/
theorem ztold {pl rs : Int32} {ex ld tw le op rd ml cz : Nat → Int32} (hL : zL pl rs ex ld tw le op rd ml cz) (fa fb : Nat → Int32) {j : Nat} {g : Int32} (hj : (j : Int) < pl.toInt) (hg : 0 ≤ g.toInt ∧ g.toInt < pl.toInt) (hne : ¬ nI j = g) : ((FX1_endTowards pl ex ld le op fa (nI j) g).1 = -1 ∧ (FX5_toldExit pl ex rd ld ml cz fb (nI j) g).1 = -1) ∨ ∃ i0 : Nat, i0 < 4 ∧ zE pl ex (4 * j + i0) ∧ ¬ op (4 * j + i0) = 0 ∧ (FX1_endTowards pl ex ld le op fa (nI j) g).1 = nI (4 * j + i0) ∧ (FX5_toldExit pl ex rd ld ml cz fb (nI j) g).1 = nI i0 := by
  have hpl := hL.1
  obtain ⟨F, hF⟩ := zmeas hL fa fb hg
  have hjc : (nI j).toNatClampNeg = j := nI_clamp (by omega)
  have hji : (nI j).toInt = j := nI_toInt (by omega)
  have a1 := hF.1 j (by omega)
  have e1 : FX1_endTowards pl ex ld le op fa (nI j) g = if FX1_measure pl ld le op fa g (nI j).toNatClampNeg < 1000000 then LX1_endTowards_t ex ld le op (FX1_measure pl ld le op fa g) (nI j) 5 0 else ((-1), FX1_measure pl ld le op fa g) := by
    unfold FX1_endTowards xbind
    try dsimp only
    rw [zpl (by rw [hji]; omega), if_neg (by decide)]
  have e2 : (FX5_toldExit pl ex rd ld ml cz fb (nI j) g).1 = (LX5_toldExit_t ex rd ld ml cz (FX5_measure pl ex rd ld ml cz fb g) (nI j) 5 0 (-1) 9999).1 := rfl
  rw [e1, e2, hjc]
  by_cases c : F j < 9999
  · have a2 : zph (F j) = (F j : Nat) := if_neg (by omega)
    right
    rcases hF.2.2.2.1 j c with h1 | ⟨e, b1, b2, b3⟩
    · exact absurd (by rw [h1]; exact znI hg.1) hne
    · have hz := (zeo_iff.mp b1).1
      have he : e = 4 * j + e % 4 := by omega
      obtain ⟨i0, k1, k2, k3, k4, k5⟩ := ztn hL hF hj c 5 0 (-1) 9999 rfl (by rw [show (9999 : Int32).toInt = 9999 from rfl]; omega) ⟨e % 4, Nat.zero_le _, by rw [← b2]; exact hz.2.2, by rw [← he]; exact b1, by rw [← he]; exact b3⟩
      refine ⟨i0, k1, k2, k3, ?_, k4⟩
      rw [if_pos (by rw [xltI, a1, a2, show (1000000 : Int32).toInt = 1000000 from rfl]; omega), k5]
  · left
    have h9 : F j = 9999 := by have := hF.2.2.1 j (by omega); omega
    rw [if_neg (by rw [xltI, a1, h9]; decide), ztf hL hF hj 5 0 _ _ rfl (by rw [h9]; decide)]
    exact ⟨rfl, rfl⟩
