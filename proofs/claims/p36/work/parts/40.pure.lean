/-! out of 21.rlinks.lean.txt -/
/-! out of 22.state.lean.txt -/
theorem yq4 {q x : Int32} (hq : 0 ≤ q.toInt ∧ q.toInt < 10) (hx : 0 ≤ x.toInt ∧ x.toInt < 4) : (4 * q + x).toInt = q.toInt * 4 + x.toInt := by
  rw [Int32.mul_comm]; exact xq4 hq hx
theorem yq4in {q x : Int32} (hq : 0 ≤ q.toInt ∧ q.toInt < 10) (hx : 0 ≤ x.toInt ∧ x.toInt < 4) : 0 ≤ (4 * q + x).toInt ∧ (4 * q + x).toInt < 40 := by
  rw [Int32.mul_comm]; exact xq4in hq hx
theorem ym10 {g q : Int32} (hg : 0 ≤ g.toInt ∧ g.toInt < 10) (hq : 0 ≤ q.toInt ∧ q.toInt < 10) : (10 * g + q).toInt = g.toInt * 10 + q.toInt := by
  rw [Int32.mul_comm]; exact xm10 hg hq
theorem ym10in {g q : Int32} (hg : 0 ≤ g.toInt ∧ g.toInt < 10) (hq : 0 ≤ q.toInt ∧ q.toInt < 10) : 0 ≤ (10 * g + q).toInt ∧ (10 * g + q).toInt < 100 := by
  rw [ym10 hg hq]; omega
theorem yfz {f : Nat → Int32} {N : Nat} (h : ∀ k, k < N → f k = 0 ∨ f k = 1) (i : Nat) (hi : i < N) : fits .boolean (.int (f ((0 : Int32).toNatClampNeg + i))) = true := by
  rw [show (0 : Int32).toNatClampNeg = 0 from rfl, Nat.zero_add]
  rcases h i hi with e | e <;> rw [e] <;> rfl
def FX4_remembered (go : Int32) (xe : Nat → Int32) (q : Int32) : Int32 :=
  xe ((10 * go) + q).toNatClampNeg
def FX4_remember (go : Int32) (xe : Nat → Int32) (sg : Nat → Int32) (q : Int32) (x : Int32) (w : Int32) : (Nat → Int32) × (Nat → Int32) :=
  (upd xe ((10 * go) + q).toNatClampNeg x, upd sg ((10 * go) + q).toNatClampNeg w)
def LX4_begin_a : Nat → Nat → (Nat → Int32) → (Nat → Int32)
  | 0, i, tr => tr
  | n + 1, i, tr =>
    if 20 ≤ (nI i) then (tr) else (LX4_begin_a n (i + 1) (upd tr (nI i).toNatClampNeg 0))
def LX4_begin_b : Nat → Nat → (Nat → Int32) → (Nat → Int32)
  | 0, i, ak => ak
  | n + 1, i, ak =>
    if 10 ≤ (nI i) then (ak) else (LX4_begin_b n (i + 1) (upd ak (nI i).toNatClampNeg 0))
def FX4_begin (tr : Nat → Int32) (ak : Nat → Int32) (g : Int32) : (Int32) × (Int32) × (Nat → Int32) × (Nat → Int32) :=
  xbind (LX4_begin_a 21 0 tr) (fun z2 => xbind (LX4_begin_b 11 0 ak) (fun z5 => (g, 0, z2, z5)))
def FX4_end (tr : Nat → Int32) (ak : Nat → Int32) : (Int32) × (Int32) × (Nat → Int32) × (Nat → Int32) :=
  xbind (FX4_begin tr ak (-1)) (fun u1 => (u1.1, u1.2.1, u1.2.2.1, u1.2.2.2))
def FX4_become (tr : Nat → Int32) (ak : Nat → Int32) (wy : Nat → Int32) (xe : Nat → Int32) (sg : Nat → Int32) (vpo : Int32) (vco : Int32) (vgo : Int32) (vln : Int32) (vwk : Int32) (vdb : Int32) (vdn : Int32) (viv : Int32) (vqs : Int32) (vtr : Nat → Int32) (vak : Nat → Int32) (vwy : Nat → Int32) (vxe : Nat → Int32) (vsg : Nat → Int32) : (Int32) × (Int32) × (Int32) × (Int32) × (Int32) × (Int32) × (Int32) × (Int32) × (Int32) × (Nat → Int32) × (Nat → Int32) × (Nat → Int32) × (Nat → Int32) × (Nat → Int32) :=
  (vpo, vco, vgo, vln, vwk, vdb, vdn, viv, vqs, va_cpy vtr tr 0 0 20, va_cpy vak ak 0 0 10, va_cpy vwy wy 0 0 40, va_cpy vxe xe 0 0 100, va_cpy vsg sg 0 0 100)
/-! out of 23.refbase.lean.txt -/
def FX5_isIn (q : Int32) (lo : Int32) (hi : Int32) : Int32 :=
  if q < lo then (0) else (if hi < q then (0) else (1))
theorem pX5_isIn {q a b r : Int32} (h : r = FX5_isIn q a b) (c : ¬ r = 0) : a.toInt ≤ q.toInt ∧ q.toInt ≤ b.toInt := by
  subst h
  unfold FX5_isIn at c
  split at c
  · exact absurd rfl c
  · split at c
    · exact absurd rfl c
    · rename_i h1 h2
      rw [xltI] at h1 h2
      omega
theorem ynot {r : Int32} (h : r = 0) : narrow .boolean (.int r) = .int r := by subst h; rfl
theorem pX5_isIn01 {q a b r : Int32} (h : r = FX5_isIn q a b) : narrow .boolean (.int r) = .int r := by
  subst h
  refine xz01 ?_
  unfold FX5_isIn
  repeat' split
  all_goals first | exact Or.inl rfl | exact Or.inr rfl
def FX5_isPlace (pl : Int32) (q : Int32) : Int32 :=
  xbind (FX5_isIn q 0 (pl - 1)) (fun r2 => r2)
theorem xsub1 {x : Int32} (h : 0 ≤ x.toInt ∧ x.toInt ≤ 1000000) : (x - 1).toInt = x.toInt - 1 := by
  rw [Int32.toInt_sub, show (1 : Int32).toInt = 1 from rfl, Int.bmod_eq_of_le (by omega) (by omega)]
theorem pX5_isPlace {pl q r : Int32} (hpl : 0 ≤ pl.toInt ∧ pl.toInt ≤ 10) (h : r = FX5_isPlace pl q) (c : ¬ r = 0) : 0 ≤ q.toInt ∧ q.toInt < pl.toInt := by
  have h1 := pX5_isIn h c
  rw [xsub1 (by omega), show (0 : Int32).toInt = 0 from rfl] at h1
  omega
theorem pX5_isPlace10 {pl q r : Int32} (hpl : 0 ≤ pl.toInt ∧ pl.toInt ≤ 10) (h : r = FX5_isPlace pl q) (c : ¬ r = 0) : 0 ≤ q.toInt ∧ q.toInt < 10 := by
  have := pX5_isPlace hpl h c
  omega
def FX5_isExit (pl : Int32) (ex : Nat → Int32) (q : Int32) (x : Int32) : Int32 :=
  xbind (FX5_isPlace pl q) (fun r2 => if r2 = 0 then (0) else (xbind (FX5_isIn x 0 ((ex q.toNatClampNeg) - 1)) (fun r7 => if r7 = 0 then (0) else (1))))
def FX5_no (w : Int32) : Int32 × (Int32) :=
  (0, w)
def FX5_isNot (w : Int32) : Int32 × (Int32) :=
  (0, w)
def FX5_ok (w : Int32) : Int32 × (Int32) :=
  (w, 0)
def FX5_thrown (th : Int32) : Int32 :=
  th
def FX5_one (b : Int32) : Int32 :=
  if b = 0 then (0) else (1)
/-! out of 24.refland.lean.txt -/
theorem pX5_isExit {pl q x r : Int32} {ex : Nat → Int32} (hpl : 0 ≤ pl.toInt ∧ pl.toInt ≤ 10) (hex4 : ∀ k, k < 10 → 0 ≤ (ex k).toInt ∧ (ex k).toInt ≤ 4) (h : r = FX5_isExit pl ex q x) (c : ¬ r = 0) : (0 ≤ q.toInt ∧ q.toInt < 10) ∧ 0 ≤ x.toInt ∧ x.toInt < 4 ∧ x.toInt < (ex q.toNatClampNeg).toInt ∧ q.toInt < pl.toInt := by
  subst h
  unfold FX5_isExit at c
  dsimp only [xbind, xbind2] at c
  split at c
  · exact absurd rfl c
  · rename_i h1
    split at c
    · exact absurd rfl c
    · rename_i h2
      have h3 := pX5_isPlace10 hpl rfl h1
      have h5 := pX5_isPlace hpl rfl h1
      have h4 := hex4 _ (xcl h3)
      have h6 := pX5_isIn rfl h2
      rw [xsub1 (by omega), show (0 : Int32).toInt = 0 from rfl] at h6
      omega
theorem yd4 {x : Int32} (h : 0 ≤ x.toInt ∧ x.toInt < 40) : (x / 4).toInt = x.toInt / 4 := by
  obtain ⟨j, h1, h2, h3⟩ := xofI h.1
  rw [h2, show (4 : Int32) = nI 4 from rfl, pk_div h1 (by decide) (by decide), nI_toInt (by omega), nI_toInt (by omega)]
  omega
theorem yd4in {x : Int32} (h : 0 ≤ x.toInt ∧ x.toInt < 40) : 0 ≤ (x / 4).toInt ∧ (x / 4).toInt < 10 := by
  rw [yd4 h]; omega
theorem y4pl {pl : Int32} (h : 0 ≤ pl.toInt ∧ pl.toInt ≤ 10) : (4 * pl).toInt = 4 * pl.toInt := by
  obtain ⟨j, h1, h2, h3⟩ := xofI h.1
  rw [h2, show (4 : Int32) = nI 4 from rfl, pk_mul, nI_toInt (by omega), nI_toInt (by omega)]
  omega
theorem yi40 {pl : Int32} {i : Nat} (hpl : 0 ≤ pl.toInt ∧ pl.toInt ≤ 10) (hlo : ((i : Nat) : Int) ≤ (4 * pl : Int32).toInt) (h : ¬ 4 * pl ≤ nI i) : 0 ≤ (nI i).toInt ∧ (nI i).toInt < 40 := by
  have h2 := xlt2 hlo h
  rw [y4pl hpl] at h2
  omega
def FX5_turnRoad (pl : Int32) (ex : Nat → Int32) (rd : Nat → Int32) (cz : Nat → Int32) (q : Int32) (x : Int32) : Int32 × (Int32) × (Nat → Int32) :=
  xbind (FX5_isExit pl ex q x) (fun r2 => if r2 = 0 then (xbind2 (FX5_isNot 1) (fun r10 u9 => (r10, u9, cz))) else (if (cz (rd ((4 * q) + x).toNatClampNeg).toNatClampNeg) = 0 then (if ((upd cz (rd ((4 * q) + x).toNatClampNeg).toNatClampNeg 1) (rd ((4 * q) + x).toNatClampNeg).toNatClampNeg) = 0 then ((1, 0, upd cz (rd ((4 * q) + x).toNatClampNeg).toNatClampNeg 1)) else ((0, 0, upd cz (rd ((4 * q) + x).toNatClampNeg).toNatClampNeg 1))) else (if ((upd cz (rd ((4 * q) + x).toNatClampNeg).toNatClampNeg 0) (rd ((4 * q) + x).toNatClampNeg).toNatClampNeg) = 0 then ((1, 0, upd cz (rd ((4 * q) + x).toNatClampNeg).toNatClampNeg 0)) else ((0, 0, upd cz (rd ((4 * q) + x).toNatClampNeg).toNatClampNeg 0)))))
def FX5_turnShepherd (pl : Int32) (sh : Nat → Int32) (q : Int32) : Int32 × (Int32) × (Nat → Int32) :=
  xbind (FX5_isPlace pl q) (fun r2 => if r2 = 0 then (xbind2 (FX5_isNot 1) (fun r8 u7 => (r8, u7, sh))) else (if (sh q.toNatClampNeg) = 0 then (((upd sh q.toNatClampNeg 1) q.toNatClampNeg, 0, upd sh q.toNatClampNeg 1)) else (((upd sh q.toNatClampNeg 0) q.toNatClampNeg, 0, upd sh q.toNatClampNeg 0))))
def FX5_canTake (rd : Nat → Int32) (cz : Nat → Int32) (tr : Nat → Int32) (e1 : Int32) : Int32 :=
  if (cz (rd e1.toNatClampNeg).toNatClampNeg) = 0 then (if (tr (rd e1.toNatClampNeg).toNatClampNeg) = 0 then (1) else (0)) else (0)
def FX5_take (rd : Nat → Int32) (tt : Nat → Int32) (ml : Nat → Int32) (ln : Int32) (wk : Int32) (tr : Nat → Int32) (wy : Nat → Int32) (e1 : Int32) : (Int32) × (Int32) × (Int32) × (Nat → Int32) × (Nat → Int32) :=
  (tt e1.toNatClampNeg, ln + 1, wk + (ml (rd e1.toNatClampNeg).toNatClampNeg), upd tr (rd e1.toNatClampNeg).toNatClampNeg 1, upd wy ln.toNatClampNeg e1)
/-! out of 25.refmeasure.lean.txt -/
def LX5_measure_a (pl : Int32) (g : Int32) : Nat → Nat → (Nat → Int32) → (Nat → Int32)
  | 0, i, fa => fa
  | n + 1, i, fa =>
    if pl ≤ (nI i) then (fa) else (if (nI i) = g then (LX5_measure_a pl g n (i + 1) (upd fa (nI i).toNatClampNeg 0)) else (LX5_measure_a pl g n (i + 1) (upd fa (nI i).toNatClampNeg 9999)))
def LX5_measure_e (pl : Int32) (ex : Nat → Int32) (rd : Nat → Int32) (tt : Nat → Int32) (ml : Nat → Int32) (cz : Nat → Int32) : Nat → Nat → (Nat → Int32) → (Int32) → (Nat → Int32) × (Int32)
  | 0, i, fa, on => (fa, on)
  | n + 1, i, fa, on =>
    if (4 * pl) ≤ (nI i) then ((fa, on)) else (if (ex ((nI i) / 4).toNatClampNeg) ≤ ((nI i) - (nI i) / 4 * 4) then (LX5_measure_e pl ex rd tt ml cz n (i + 1) fa on) else (if (cz (rd (nI i).toNatClampNeg).toNatClampNeg) = 0 then (if ((fa (tt (nI i).toNatClampNeg).toNatClampNeg) + (ml (rd (nI i).toNatClampNeg).toNatClampNeg)) < (fa ((nI i) / 4).toNatClampNeg) then (LX5_measure_e pl ex rd tt ml cz n (i + 1) (upd fa ((nI i) / 4).toNatClampNeg ((fa (tt (nI i).toNatClampNeg).toNatClampNeg) + (ml (rd (nI i).toNatClampNeg).toNatClampNeg))) 1) else (LX5_measure_e pl ex rd tt ml cz n (i + 1) fa on)) else (LX5_measure_e pl ex rd tt ml cz n (i + 1) fa on)))
def LX5_measure_w (pl : Int32) (ex : Nat → Int32) (rd : Nat → Int32) (tt : Nat → Int32) (ml : Nat → Int32) (cz : Nat → Int32) : Nat → (Nat → Int32) → (Int32) → Nat × (Nat → Int32) × (Int32)
  | 0, fa, on => (1, fa, on)
  | n + 1, fa, on =>
    if on = 0 then ((0, fa, on)) else (xbind (LX5_measure_e pl ex rd tt ml cz 41 0 fa 0) (fun z6 => LX5_measure_w pl ex rd tt ml cz n z6.1 z6.2))
def yfuel : Nat := 42949672972
def ysum : Nat → (Nat → Int32) → Nat
  | 0, _ => 0
  | n + 1, f => ysum n f + ((f n).toInt + 2147483648).toNat
theorem ysum_le (f : Nat → Int32) : ∀ n, ysum n f ≤ n * 4294967296
  | 0 => Nat.le_refl 0
  | n + 1 => by
    have h := ysum_le f n
    have h1 := Int32.toInt_lt (f n)
    have h2 := Int32.le_toInt (f n)
    unfold ysum
    omega
theorem ysum_far (f : Nat → Int32) (k : Nat) (v : Int32) : ∀ n, n ≤ k → ysum n (upd f k v) = ysum n f
  | 0, _ => rfl
  | n + 1, h => by
    unfold ysum
    rw [ysum_far f k v n (by omega), upd, if_neg (by omega)]
theorem ysum_lt (f : Nat → Int32) (k : Nat) (v : Int32) (hv : v.toInt < (f k).toInt) : ∀ n, k < n → ysum n (upd f k v) < ysum n f
  | 0, h => absurd h (by omega)
  | n + 1, h => by
    unfold ysum
    by_cases e : k = n
    · subst e
      rw [ysum_far f k v k (Nat.le_refl k), upd, if_pos rfl]
      have h2 := Int32.le_toInt v
      omega
    · have := ysum_lt f k v hv n (by omega)
      rw [upd, if_neg (by omega)]
      omega
theorem yterm_e {pl : Int32} (hpl : 0 ≤ pl.toInt ∧ pl.toInt ≤ 10) (ex rd tt ml cz : Nat → Int32) : ∀ (n i : Nat) (fa : Nat → Int32) (on : Int32), ((i : Nat) : Int) ≤ (4 * pl : Int32).toInt →
    ((LX5_measure_e pl ex rd tt ml cz n i fa on).1 = fa ∧ (LX5_measure_e pl ex rd tt ml cz n i fa on).2 = on) ∨ ysum 10 (LX5_measure_e pl ex rd tt ml cz n i fa on).1 < ysum 10 fa
  | 0, _, _, _, _ => Or.inl ⟨rfl, rfl⟩
  | n + 1, i, fa, on, hlo => by
    unfold LX5_measure_e
    by_cases c1 : 4 * pl ≤ nI i
    · rw [if_pos c1]; exact Or.inl ⟨rfl, rfl⟩
    · rw [if_neg c1]
      by_cases c2 : ex (nI i / 4).toNatClampNeg ≤ nI i - nI i / 4 * 4
      · rw [if_pos c2]; exact yterm_e hpl ex rd tt ml cz n (i + 1) fa on (xlt hlo c1)
      · rw [if_neg c2]
        by_cases c3 : cz (rd (nI i).toNatClampNeg).toNatClampNeg = 0
        · rw [if_pos c3]
          by_cases c4 : fa (tt (nI i).toNatClampNeg).toNatClampNeg + ml (rd (nI i).toNatClampNeg).toNatClampNeg < fa (nI i / 4).toNatClampNeg
          · rw [if_pos c4]
            rw [xltI] at c4
            have h1 := ysum_lt fa _ _ c4 10 (xcl (yd4in (yi40 hpl hlo c1)))
            rcases yterm_e hpl ex rd tt ml cz n (i + 1) _ 1 (xlt hlo c1) with h | h
            · right; rw [h.1]; exact h1
            · right; exact Nat.lt_trans h h1
          · rw [if_neg c4]; exact yterm_e hpl ex rd tt ml cz n (i + 1) fa on (xlt hlo c1)
        · rw [if_neg c3]; exact yterm_e hpl ex rd tt ml cz n (i + 1) fa on (xlt hlo c1)
theorem yterm_w {pl : Int32} (hpl : 0 ≤ pl.toInt ∧ pl.toInt ≤ 10) (ex rd tt ml cz : Nat → Int32) : ∀ (n : Nat) (fa : Nat → Int32) (on : Int32), ysum 10 fa + 1 < n → (LX5_measure_w pl ex rd tt ml cz n fa on).1 = 0
  | 0, _, _, h => absurd h (by omega)
  | n + 1, fa, on, h => by
    unfold LX5_measure_w
    by_cases c1 : on = 0
    · rw [if_pos c1]
    · rw [if_neg c1]
      unfold xbind
      rcases yterm_e hpl ex rd tt ml cz 41 0 fa 0 (by rw [y4pl hpl]; omega) with h1 | h1
      · obtain ⟨k, hk⟩ : ∃ k, n = k + 1 := ⟨n - 1, by omega⟩
        subst hk
        unfold LX5_measure_w
        dsimp only
        rw [if_pos h1.2]
      · exact yterm_w hpl ex rd tt ml cz n _ _ (by omega)
theorem yterm {pl : Int32} {ex rd tt ml cz : Nat → Int32} (hpl : 0 ≤ pl.toInt ∧ pl.toInt ≤ 10) (fa : Nat → Int32) (on : Int32) : (LX5_measure_w pl ex rd tt ml cz yfuel fa on).1 = 0 :=
  yterm_w hpl ex rd tt ml cz yfuel fa on (by have := ysum_le fa 10; unfold yfuel; omega)
def FX5_measure (pl : Int32) (ex : Nat → Int32) (rd : Nat → Int32) (tt : Nat → Int32) (ml : Nat → Int32) (cz : Nat → Int32) (fa : Nat → Int32) (g : Int32) : (Nat → Int32) :=
  xbind (LX5_measure_a pl g 11 0 fa) (fun z3 => xbind (LX5_measure_w pl ex rd tt ml cz yfuel z3 1) (fun z8 => z8.2.1))
/-! out of 26.refsteps.lean.txt -/
theorem ye4 {ex : Nat → Int32} {q : Int32} {i : Nat} (hex4 : ∀ k, k < 10 → 0 ≤ (ex k).toInt ∧ (ex k).toInt ≤ 4) (hq : 0 ≤ q.toInt ∧ q.toInt < 10) (hlo : ((i : Nat) : Int) ≤ (ex q.toNatClampNeg).toInt) (h : ¬ ex q.toNatClampNeg ≤ nI i) : 0 ≤ (4 * q + nI i).toInt ∧ (4 * q + nI i).toInt < 40 := by
  have h2 := xlt2 hlo h
  have h4 := hex4 _ (xcl hq)
  exact yq4in hq (by omega)
theorem ysub1 {x : Int32} (h : 0 ≤ x.toInt ∧ x.toInt ≤ 40) (c : ¬ x = 0) : (x - 1).toInt = x.toInt - 1 ∧ 0 ≤ (x - 1).toInt ∧ (x - 1).toInt < 40 := by
  rw [xeqI, show (0 : Int32).toInt = 0 from rfl] at c
  rw [xsub1 (by omega)]
  omega
def LX5_toldExit_t (ex : Nat → Int32) (rd : Nat → Int32) (tt : Nat → Int32) (ml : Nat → Int32) (cz : Nat → Int32) (fa : Nat → Int32) (q : Int32) : Nat → Nat → (Int32) → (Int32) → (Int32) × (Int32)
  | 0, i, bt, lst => (bt, lst)
  | n + 1, i, bt, lst =>
    if (ex q.toNatClampNeg) ≤ (nI i) then ((bt, lst)) else (if (cz (rd ((4 * q) + (nI i)).toNatClampNeg).toNatClampNeg) = 0 then (if ((fa (tt ((4 * q) + (nI i)).toNatClampNeg).toNatClampNeg) + (ml (rd ((4 * q) + (nI i)).toNatClampNeg).toNatClampNeg)) < lst then (LX5_toldExit_t ex rd tt ml cz fa q n (i + 1) (nI i) ((fa (tt ((4 * q) + (nI i)).toNatClampNeg).toNatClampNeg) + (ml (rd ((4 * q) + (nI i)).toNatClampNeg).toNatClampNeg))) else (LX5_toldExit_t ex rd tt ml cz fa q n (i + 1) bt lst)) else (LX5_toldExit_t ex rd tt ml cz fa q n (i + 1) bt lst))
def FX5_toldExit (pl : Int32) (ex : Nat → Int32) (rd : Nat → Int32) (tt : Nat → Int32) (ml : Nat → Int32) (cz : Nat → Int32) (fa : Nat → Int32) (q : Int32) (g : Int32) : Int32 × (Nat → Int32) :=
  xbind (FX5_measure pl ex rd tt ml cz fa g) (fun u1 => xbind (LX5_toldExit_t ex rd tt ml cz u1 q 5 0 (-1) 9999) (fun z8 => (z8.1, u1)))
def FX5_milesBetween (pl : Int32) (ex : Nat → Int32) (rd : Nat → Int32) (tt : Nat → Int32) (ml : Nat → Int32) (cz : Nat → Int32) (fa : Nat → Int32) (q : Int32) (g : Int32) : Int32 × (Nat → Int32) :=
  xbind (FX5_measure pl ex rd tt ml cz fa g) (fun u1 => if (u1 q.toNatClampNeg) = 9999 then (((-1), u1)) else ((u1 q.toNatClampNeg, u1)))
def LX5_triesNext_t (ex : Nat → Int32) (rd : Nat → Int32) (tt : Nat → Int32) (ml : Nat → Int32) (cz : Nat → Int32) (po : Int32) (ln : Int32) (wk : Int32) (tr : Nat → Int32) (wy : Nat → Int32) (qq : Int32) : Nat → Nat → Int32 × (Int32) × (Int32) × (Int32) × (Nat → Int32) × (Nat → Int32)
  | 0, i => (0, po, ln, wk, tr, wy)
  | n + 1, i =>
    if (ex qq.toNatClampNeg) ≤ (nI i) then ((0, po, ln, wk, tr, wy)) else (xbind (FX5_canTake rd cz tr ((4 * qq) + (nI i))) (fun r3 => if r3 = 0 then (LX5_triesNext_t ex rd tt ml cz po ln wk tr wy qq n (i + 1)) else (xbind (FX5_take rd tt ml ln wk tr wy ((4 * qq) + (nI i))) (fun u7 => (1, u7.1, u7.2.1, u7.2.2.1, u7.2.2.2.1, u7.2.2.2.2)))))
def FX5_triesNext (ex : Nat → Int32) (rd : Nat → Int32) (tt : Nat → Int32) (ml : Nat → Int32) (cz : Nat → Int32) (po : Int32) (ln : Int32) (wk : Int32) (tr : Nat → Int32) (wy : Nat → Int32) : Int32 × (Int32) × (Int32) × (Int32) × (Nat → Int32) × (Nat → Int32) :=
  LX5_triesNext_t ex rd tt ml cz po ln wk tr wy po 5 0
def FX5_doublesBack (rd : Nat → Int32) (ml : Nat → Int32) (po : Int32) (ln : Int32) (wk : Int32) (db : Int32) (wy : Nat → Int32) : Int32 × (Int32) × (Int32) × (Int32) × (Int32) :=
  if ln = 0 then ((0, po, ln, wk, db)) else ((1, (wy (ln - 1).toNatClampNeg) / 4, ln - 1, wk + (ml (rd (wy (ln - 1).toNatClampNeg).toNatClampNeg).toNatClampNeg), db + (ml (rd (wy (ln - 1).toNatClampNeg).toNatClampNeg).toNatClampNeg)))
/-! out of 27.reffacts.lean.txt -/
def YI (po ln : Int32) (wy : Nat → Int32) : Prop := (0 ≤ po.toInt ∧ po.toInt < 10) ∧ (0 ≤ ln.toInt ∧ ln.toInt ≤ 40) ∧ ∀ k, k < 40 → 0 ≤ (wy k).toInt ∧ (wy k).toInt < 40
theorem yinc {x : Int32} (h : 0 ≤ x.toInt ∧ x.toInt < 1000000) : (x + 1).toInt = x.toInt + 1 := by
  rw [Int32.toInt_add, show (1 : Int32).toInt = 1 from rfl, Int.bmod_eq_of_le (by omega) (by omega)]
theorem pX5_take {rd : Nat → Int32} {tt : Nat → Int32} {ml : Nat → Int32} {ln : Int32} {wk : Int32} {tr : Nat → Int32} {wy : Nat → Int32} {e1 : Int32} {u : (Int32) × (Int32) × (Int32) × (Nat → Int32) × (Nat → Int32)} (htt : ∀ k, k < 40 → 0 ≤ (tt k).toInt ∧ (tt k).toInt < 10) (he : 0 ≤ e1.toInt ∧ e1.toInt < 40) (hln : 0 ≤ ln.toInt ∧ ln.toInt < 40) (hwy : ∀ k, k < 40 → 0 ≤ (wy k).toInt ∧ (wy k).toInt < 40) (h : u = FX5_take rd tt ml ln wk tr wy e1) : YI u.1 u.2.1 u.2.2.2.2 := by
  rw [h]
  unfold FX5_take
  refine ⟨htt _ (xcl he), ?_, fun k hk => ?_⟩
  · dsimp only
    rw [yinc (by omega)]; omega
  · dsimp only
    unfold upd
    split
    · exact he
    · exact hwy k hk
def PTn (ln : Int32) (wy : Nat → Int32) (z : Int32 × ((Int32) × (Int32) × (Int32) × (Nat → Int32) × (Nat → Int32))) : Prop := YI z.2.1 z.2.2.1 z.2.2.2.2.2 ∧ (z.1 = 0 → z.2.2.1 = ln ∧ z.2.2.2.2.2 = wy)
theorem pX5_triesNext_t {ex rd tt ml cz tr wy : Nat → Int32} {po ln wk qq : Int32} (hex4 : ∀ k, k < 10 → 0 ≤ (ex k).toInt ∧ (ex k).toInt ≤ 4) (htt : ∀ k, k < 40 → 0 ≤ (tt k).toInt ∧ (tt k).toInt < 10) (hpo : 0 ≤ po.toInt ∧ po.toInt < 10) (hqq : 0 ≤ qq.toInt ∧ qq.toInt < 10) (hln : 0 ≤ ln.toInt ∧ ln.toInt < 40) (hwy : ∀ k, k < 40 → 0 ≤ (wy k).toInt ∧ (wy k).toInt < 40) : ∀ (n i : Nat), ((i : Nat) : Int) ≤ (ex qq.toNatClampNeg).toInt →
    PTn ln wy (LX5_triesNext_t ex rd tt ml cz po ln wk tr wy qq n i)
  | 0, _, _ => ⟨⟨hpo, ⟨hln.1, Int.le_of_lt hln.2⟩, hwy⟩, fun _ => ⟨rfl, rfl⟩⟩
  | n + 1, i, hlo => by
    unfold LX5_triesNext_t
    refine xiteP (P := PTn ln wy) (fun _ => ⟨⟨hpo, ⟨hln.1, Int.le_of_lt hln.2⟩, hwy⟩, fun _ => ⟨rfl, rfl⟩⟩) (fun c => ?_)
    refine xbP (P := PTn ln wy) (fun r _ => ?_)
    refine xiteP (P := PTn ln wy) (fun _ => pX5_triesNext_t hex4 htt hpo hqq hln hwy n (i + 1) (xlt hlo c)) (fun _ => ?_)
    refine xbP (P := PTn ln wy) (fun u hu => ?_)
    exact ⟨pX5_take htt (ye4 hex4 hqq hlo c) hln hwy hu, fun h => absurd h (by decide : ¬ (1 : Int32) = 0)⟩
theorem pX5_triesNext {ex : Nat → Int32} {rd : Nat → Int32} {tt : Nat → Int32} {ml : Nat → Int32} {cz : Nat → Int32} {po : Int32} {ln : Int32} {wk : Int32} {tr : Nat → Int32} {wy : Nat → Int32} {r : Int32} {u : (Int32) × (Int32) × (Int32) × (Nat → Int32) × (Nat → Int32)} (hex4 : ∀ k, k < 10 → 0 ≤ (ex k).toInt ∧ (ex k).toInt ≤ 4) (htt : ∀ k, k < 40 → 0 ≤ (tt k).toInt ∧ (tt k).toInt < 10) (hpo : 0 ≤ po.toInt ∧ po.toInt < 10) (hln : 0 ≤ ln.toInt ∧ ln.toInt < 40) (hwy : ∀ k, k < 40 → 0 ≤ (wy k).toInt ∧ (wy k).toInt < 40) (h : r = (FX5_triesNext ex rd tt ml cz po ln wk tr wy).1 ∧ u = (FX5_triesNext ex rd tt ml cz po ln wk tr wy).2) : YI u.1 u.2.1 u.2.2.2.2 ∧ (r = 0 → u.2.1 = ln ∧ u.2.2.2.2 = wy) := by
  rw [h.1, h.2]
  exact pX5_triesNext_t hex4 htt hpo hpo hln hwy 5 0 (hex4 _ (xcl hpo)).1
theorem pX5_doublesBack {rd : Nat → Int32} {ml : Nat → Int32} {po : Int32} {ln : Int32} {wk : Int32} {db : Int32} {wy : Nat → Int32} {r : Int32} {u : (Int32) × (Int32) × (Int32) × (Int32)} (hpo : 0 ≤ po.toInt ∧ po.toInt < 10) (hlm : 0 ≤ ln.toInt ∧ ln.toInt ≤ 40) (hwy : ∀ k, k < 40 → 0 ≤ (wy k).toInt ∧ (wy k).toInt < 40) (h : r = (FX5_doublesBack rd ml po ln wk db wy).1 ∧ u = (FX5_doublesBack rd ml po ln wk db wy).2) : YI u.1 u.2.1 wy := by
  rw [h.2]
  unfold FX5_doublesBack
  by_cases c : ln = 0
  · rw [if_pos c]; exact ⟨hpo, hlm, hwy⟩
  · rw [if_neg c]
    have h1 := (ysub1 hlm c).2
    exact ⟨yd4in (hwy _ (xcl h1)), ⟨h1.1, by dsimp only; omega⟩, hwy⟩
theorem pX5_toldExit_t {ex rd tt ml cz fa : Nat → Int32} {q : Int32} (hex4 : (ex q.toNatClampNeg).toInt ≤ 4) : ∀ (n i : Nat) (bt lst : Int32), ((i : Nat) : Int) ≤ (ex q.toNatClampNeg).toInt → (bt = -1 ∨ (0 ≤ bt.toInt ∧ bt.toInt < 4)) →
    ((LX5_toldExit_t ex rd tt ml cz fa q n i bt lst).1 = -1 ∨ (0 ≤ ((LX5_toldExit_t ex rd tt ml cz fa q n i bt lst).1).toInt ∧ ((LX5_toldExit_t ex rd tt ml cz fa q n i bt lst).1).toInt < 4))
  | 0, _, _, _, _, hb => hb
  | n + 1, i, bt, lst, hlo, hb => by
    unfold LX5_toldExit_t
    by_cases c1 : ex q.toNatClampNeg ≤ nI i
    · rw [if_pos c1]; exact hb
    · rw [if_neg c1]
      by_cases c2 : cz (rd (4 * q + nI i).toNatClampNeg).toNatClampNeg = 0
      · rw [if_pos c2]
        by_cases c3 : fa (tt (4 * q + nI i).toNatClampNeg).toNatClampNeg + ml (rd (4 * q + nI i).toNatClampNeg).toNatClampNeg < lst
        · rw [if_pos c3]
          have h2 := xlt2 hlo c1
          exact pX5_toldExit_t hex4 n (i + 1) _ _ (xlt hlo c1) (Or.inr (by omega))
        · rw [if_neg c3]; exact pX5_toldExit_t hex4 n (i + 1) _ _ (xlt hlo c1) hb
      · rw [if_neg c2]; exact pX5_toldExit_t hex4 n (i + 1) _ _ (xlt hlo c1) hb
theorem pX5_toldExit {pl : Int32} {ex : Nat → Int32} {rd : Nat → Int32} {tt : Nat → Int32} {ml : Nat → Int32} {cz : Nat → Int32} {fa : Nat → Int32} {q : Int32} {g : Int32} {r : Int32} (hex4 : ∀ k, k < 10 → 0 ≤ (ex k).toInt ∧ (ex k).toInt ≤ 4) (hq : 0 ≤ q.toInt ∧ q.toInt < 10) (h : r = (FX5_toldExit pl ex rd tt ml cz fa q g).1) (c : ¬ r = -1) : 0 ≤ r.toInt ∧ r.toInt < 4 := by
  have h4 := hex4 _ (xcl hq)
  rw [h] at c ⊢
  unfold FX5_toldExit at c ⊢
  unfold xbind at c ⊢
  rcases pX5_toldExit_t (rd := rd) (tt := tt) (ml := ml) (cz := cz) (fa := FX5_measure pl ex rd tt ml cz fa g) h4.2 5 0 (-1) 9999 h4.1 (Or.inl rfl) with h1 | h1
  · exact absurd h1 c
  · exact h1
theorem yrem {go q r : Int32} {xe : Nat → Int32} (hxe : ∀ k, k < 100 → -1 ≤ (xe k).toInt ∧ (xe k).toInt < 4) (hgo : 0 ≤ go.toInt ∧ go.toInt < 10) (hq : 0 ≤ q.toInt ∧ q.toInt < 10) (h : r = FX4_remembered go xe q) (c : ¬ r = -1) : 0 ≤ r.toInt ∧ r.toInt < 4 := by
  rw [xeqI, show (-1 : Int32).toInt = -1 from rfl] at c
  have h1 := hxe _ (xcl (ym10in hgo hq))
  rw [h] at c ⊢
  unfold FX4_remembered at c ⊢
  omega

/-! out of 28.refasks.lean.txt -/
def FX5_asks (pl : Int32) (ex : Nat → Int32) (rd : Nat → Int32) (tt : Nat → Int32) (ml : Nat → Int32) (cz : Nat → Int32) (sh : Nat → Int32) (fa : Nat → Int32) (po : Int32) (co : Int32) (go : Int32) (ln : Int32) (wk : Int32) (qs : Int32) (tr : Nat → Int32) (ak : Nat → Int32) (wy : Nat → Int32) (xe : Nat → Int32) (sg : Nat → Int32) : Int32 × (Int32) × (Int32) × (Int32) × (Int32) × (Int32) × (Nat → Int32) × (Nat → Int32) × (Nat → Int32) × (Nat → Int32) × (Nat → Int32) × (Nat → Int32) :=
  if (sh po.toNatClampNeg) = 0 then ((0, po, co, ln, wk, qs, tr, ak, wy, xe, sg, fa)) else (if (ak po.toNatClampNeg) = 0 then (if co = 0 then ((0, po, co, ln, wk, qs, tr, ak, wy, xe, sg, fa)) else (xbind2 (FX5_toldExit pl ex rd tt ml cz fa po go) (fun r5 u4 => if r5 = (-1) then ((0, po, co - 1, ln, wk, qs + 1, tr, upd ak po.toNatClampNeg 1, wy, xe, sg, u4)) else (xbind (FX4_remember go xe sg po r5 3) (fun u9 => if (tr (rd ((4 * po) + r5).toNatClampNeg).toNatClampNeg) = 0 then (xbind (FX5_take rd tt ml ln wk tr wy ((4 * po) + r5)) (fun u14 => (1, u14.1, co - 1, u14.2.1, u14.2.2.1, qs + 1, u14.2.2.2.1, upd ak po.toNatClampNeg 1, u14.2.2.2.2, u9.1, u9.2, u4))) else ((0, po, co - 1, ln, wk, qs + 1, tr, upd ak po.toNatClampNeg 1, wy, u9.1, u9.2, u4))))))) else ((0, po, co, ln, wk, qs, tr, ak, wy, xe, sg, fa)))
def LX5_learn_t (go : Int32) (ln : Int32) (wy : Nat → Int32) : Nat → Nat → (Nat → Int32) → (Nat → Int32) → (Nat → Int32) × (Nat → Int32)
  | 0, i, xe, sg => (xe, sg)
  | n + 1, i, xe, sg =>
    if ln ≤ (nI i) then ((xe, sg)) else (xbind (FX4_remembered go xe ((wy (nI i).toNatClampNeg) / 4)) (fun r3 => if r3 = ((wy (nI i).toNatClampNeg) - (wy (nI i).toNatClampNeg) / 4 * 4) then (xbind (FX4_remember go xe sg ((wy (nI i).toNatClampNeg) / 4) ((wy (nI i).toNatClampNeg) - (wy (nI i).toNatClampNeg) / 4 * 4) (if (sg ((10 * go) + ((wy (nI i).toNatClampNeg) / 4)).toNatClampNeg) + 3 < 9 then (sg ((10 * go) + ((wy (nI i).toNatClampNeg) / 4)).toNatClampNeg) + 3 else 9)) (fun u11 => LX5_learn_t go ln wy n (i + 1) u11.1 u11.2)) else (xbind (FX4_remember go xe sg ((wy (nI i).toNatClampNeg) / 4) ((wy (nI i).toNatClampNeg) - (wy (nI i).toNatClampNeg) / 4 * 4) 3) (fun u7 => LX5_learn_t go ln wy n (i + 1) u7.1 u7.2))))
def FX5_learn (go : Int32) (ln : Int32) (wy : Nat → Int32) (xe : Nat → Int32) (sg : Nat → Int32) : (Nat → Int32) × (Nat → Int32) :=
  xbind (LX5_learn_t go ln wy 41 0 xe sg) (fun z15 => (z15.1, z15.2))
/-! out of 29.refstep.lean.txt -/
def PAsk (ln : Int32) (z : Int32 × ((Int32) × (Int32) × (Int32) × (Int32) × (Int32) × (Nat → Int32) × (Nat → Int32) × (Nat → Int32) × (Nat → Int32) × (Nat → Int32) × (Nat → Int32))) : Prop := YI z.2.1 z.2.2.2.1 z.2.2.2.2.2.2.2.2.1 ∧ (z.1 = 0 → z.2.2.2.1 = ln)
theorem pX5_asks {pl : Int32} {ex : Nat → Int32} {rd : Nat → Int32} {tt : Nat → Int32} {ml : Nat → Int32} {cz : Nat → Int32} {sh : Nat → Int32} {fa : Nat → Int32} {po : Int32} {co : Int32} {go : Int32} {ln : Int32} {wk : Int32} {qs : Int32} {tr : Nat → Int32} {ak : Nat → Int32} {wy : Nat → Int32} {xe : Nat → Int32} {sg : Nat → Int32} {r : Int32} {u : (Int32) × (Int32) × (Int32) × (Int32) × (Int32) × (Nat → Int32) × (Nat → Int32) × (Nat → Int32) × (Nat → Int32) × (Nat → Int32) × (Nat → Int32)} (hex4 : ∀ k, k < 10 → 0 ≤ (ex k).toInt ∧ (ex k).toInt ≤ 4) (htt : ∀ k, k < 40 → 0 ≤ (tt k).toInt ∧ (tt k).toInt < 10) (hpo : 0 ≤ po.toInt ∧ po.toInt < 10) (hln : 0 ≤ ln.toInt ∧ ln.toInt < 40) (hwy : ∀ k, k < 40 → 0 ≤ (wy k).toInt ∧ (wy k).toInt < 40) (h : r = (FX5_asks pl ex rd tt ml cz sh fa po co go ln wk qs tr ak wy xe sg).1 ∧ u = (FX5_asks pl ex rd tt ml cz sh fa po co go ln wk qs tr ak wy xe sg).2) : YI u.1 u.2.2.1 u.2.2.2.2.2.2.2.1 ∧ (r = 0 → u.2.2.1 = ln) := by
  rw [h.1, h.2]
  clear h
  refine (?_ : PAsk ln (FX5_asks pl ex rd tt ml cz sh fa po co go ln wk qs tr ak wy xe sg))
  unfold FX5_asks
  repeat' first | with_reducible refine xbP (P := PAsk ln) (fun _ _ => ?_) | with_reducible refine xb2P (P := PAsk ln) (fun _ _ _ _ => ?_) | with_reducible refine xiteP (P := PAsk ln) (fun _ => ?_) (fun _ => ?_)
  all_goals unfold PAsk
  all_goals dsimp only
  all_goals first | exact ⟨⟨hpo, ⟨hln.1, Int.le_of_lt hln.2⟩, hwy⟩, fun _ => rfl⟩ | exact ⟨pX5_take htt (yq4in hpo (pX5_toldExit hex4 hpo (by assumption) (by assumption))) hln hwy (by assumption), fun h => absurd h (by decide)⟩
def FX5_stepOn (pl : Int32) (ex : Nat → Int32) (rd : Nat → Int32) (tt : Nat → Int32) (ml : Nat → Int32) (cz : Nat → Int32) (sh : Nat → Int32) (fa : Nat → Int32) (po : Int32) (co : Int32) (go : Int32) (ln : Int32) (wk : Int32) (db : Int32) (dn : Int32) (iv : Int32) (qs : Int32) (tr : Nat → Int32) (ak : Nat → Int32) (wy : Nat → Int32) (xe : Nat → Int32) (sg : Nat → Int32) : Int32 × (Int32) × (Int32) × (Int32) × (Int32) × (Int32) × (Int32) × (Int32) × (Int32) × (Int32) × (Nat → Int32) × (Nat → Int32) × (Nat → Int32) × (Nat → Int32) × (Nat → Int32) × (Nat → Int32) :=
  xbind (FX4_remembered go xe po) (fun r2 => if r2 = (-1) then (xbind2 (FX5_asks pl ex rd tt ml cz sh fa po co go ln wk qs tr ak wy xe sg) (fun r7 u6 => if r7 = 0 then (xbind2 (FX5_triesNext ex rd tt ml cz u6.1 u6.2.2.1 u6.2.2.2.1 u6.2.2.2.2.2.1 u6.2.2.2.2.2.2.2.1) (fun r21 u20 => if r21 = 0 then (xbind2 (FX5_doublesBack rd ml u20.1 u20.2.1 u20.2.2.1 db u20.2.2.2.2) (fun r35 u34 => if r35 = 0 then (xbind (FX4_end u20.2.2.2.1 u6.2.2.2.2.2.2.1) (fun u48 => (0, u34.1, u6.2.1, u48.1, u48.2.1, u34.2.2.1, u34.2.2.2, dn, iv + 1, u6.2.2.2.2.1, u48.2.2.1, u48.2.2.2, u20.2.2.2.2, u6.2.2.2.2.2.2.2.2.1, u6.2.2.2.2.2.2.2.2.2.1, u6.2.2.2.2.2.2.2.2.2.2))) else (if u34.1 = go then (xbind (FX5_learn go u34.2.1 u20.2.2.2.2 u6.2.2.2.2.2.2.2.2.1 u6.2.2.2.2.2.2.2.2.2.1) (fun u40 => xbind (FX4_end u20.2.2.2.1 u6.2.2.2.2.2.2.1) (fun u44 => (1, u34.1, u6.2.1, u44.1, u44.2.1, u34.2.2.1, u34.2.2.2, dn + 1, iv, u6.2.2.2.2.1, u44.2.2.1, u44.2.2.2, u20.2.2.2.2, u40.1, u40.2, u6.2.2.2.2.2.2.2.2.2.2)))) else ((1, u34.1, u6.2.1, go, u34.2.1, u34.2.2.1, u34.2.2.2, dn, iv, u6.2.2.2.2.1, u20.2.2.2.1, u6.2.2.2.2.2.2.1, u20.2.2.2.2, u6.2.2.2.2.2.2.2.2.1, u6.2.2.2.2.2.2.2.2.2.1, u6.2.2.2.2.2.2.2.2.2.2))))) else (if u20.1 = go then (xbind (FX5_learn go u20.2.1 u20.2.2.2.2 u6.2.2.2.2.2.2.2.2.1 u6.2.2.2.2.2.2.2.2.2.1) (fun u26 => xbind (FX4_end u20.2.2.2.1 u6.2.2.2.2.2.2.1) (fun u30 => (1, u20.1, u6.2.1, u30.1, u30.2.1, u20.2.2.1, db, dn + 1, iv, u6.2.2.2.2.1, u30.2.2.1, u30.2.2.2, u20.2.2.2.2, u26.1, u26.2, u6.2.2.2.2.2.2.2.2.2.2)))) else ((1, u20.1, u6.2.1, go, u20.2.1, u20.2.2.1, db, dn, iv, u6.2.2.2.2.1, u20.2.2.2.1, u6.2.2.2.2.2.2.1, u20.2.2.2.2, u6.2.2.2.2.2.2.2.2.1, u6.2.2.2.2.2.2.2.2.2.1, u6.2.2.2.2.2.2.2.2.2.2))))) else (if u6.1 = go then (xbind (FX5_learn go u6.2.2.1 u6.2.2.2.2.2.2.2.1 u6.2.2.2.2.2.2.2.2.1 u6.2.2.2.2.2.2.2.2.2.1) (fun u12 => xbind (FX4_end u6.2.2.2.2.2.1 u6.2.2.2.2.2.2.1) (fun u16 => (1, u6.1, u6.2.1, u16.1, u16.2.1, u6.2.2.2.1, db, dn + 1, iv, u6.2.2.2.2.1, u16.2.2.1, u16.2.2.2, u6.2.2.2.2.2.2.2.1, u12.1, u12.2, u6.2.2.2.2.2.2.2.2.2.2)))) else ((1, u6.1, u6.2.1, go, u6.2.2.1, u6.2.2.2.1, db, dn, iv, u6.2.2.2.2.1, u6.2.2.2.2.2.1, u6.2.2.2.2.2.2.1, u6.2.2.2.2.2.2.2.1, u6.2.2.2.2.2.2.2.2.1, u6.2.2.2.2.2.2.2.2.2.1, u6.2.2.2.2.2.2.2.2.2.2))))) else (xbind (FX5_canTake rd cz tr ((4 * po) + r2)) (fun r53 => if r53 = 0 then (xbind2 (FX5_asks pl ex rd tt ml cz sh fa po co go ln wk qs tr ak wy xe sg) (fun r58 u57 => if r58 = 0 then (xbind2 (FX5_triesNext ex rd tt ml cz u57.1 u57.2.2.1 u57.2.2.2.1 u57.2.2.2.2.2.1 u57.2.2.2.2.2.2.2.1) (fun r72 u71 => if r72 = 0 then (xbind2 (FX5_doublesBack rd ml u71.1 u71.2.1 u71.2.2.1 db u71.2.2.2.2) (fun r86 u85 => if r86 = 0 then (xbind (FX4_end u71.2.2.2.1 u57.2.2.2.2.2.2.1) (fun u99 => (0, u85.1, u57.2.1, u99.1, u99.2.1, u85.2.2.1, u85.2.2.2, dn, iv + 1, u57.2.2.2.2.1, u99.2.2.1, u99.2.2.2, u71.2.2.2.2, u57.2.2.2.2.2.2.2.2.1, u57.2.2.2.2.2.2.2.2.2.1, u57.2.2.2.2.2.2.2.2.2.2))) else (if u85.1 = go then (xbind (FX5_learn go u85.2.1 u71.2.2.2.2 u57.2.2.2.2.2.2.2.2.1 u57.2.2.2.2.2.2.2.2.2.1) (fun u91 => xbind (FX4_end u71.2.2.2.1 u57.2.2.2.2.2.2.1) (fun u95 => (1, u85.1, u57.2.1, u95.1, u95.2.1, u85.2.2.1, u85.2.2.2, dn + 1, iv, u57.2.2.2.2.1, u95.2.2.1, u95.2.2.2, u71.2.2.2.2, u91.1, u91.2, u57.2.2.2.2.2.2.2.2.2.2)))) else ((1, u85.1, u57.2.1, go, u85.2.1, u85.2.2.1, u85.2.2.2, dn, iv, u57.2.2.2.2.1, u71.2.2.2.1, u57.2.2.2.2.2.2.1, u71.2.2.2.2, u57.2.2.2.2.2.2.2.2.1, u57.2.2.2.2.2.2.2.2.2.1, u57.2.2.2.2.2.2.2.2.2.2))))) else (if u71.1 = go then (xbind (FX5_learn go u71.2.1 u71.2.2.2.2 u57.2.2.2.2.2.2.2.2.1 u57.2.2.2.2.2.2.2.2.2.1) (fun u77 => xbind (FX4_end u71.2.2.2.1 u57.2.2.2.2.2.2.1) (fun u81 => (1, u71.1, u57.2.1, u81.1, u81.2.1, u71.2.2.1, db, dn + 1, iv, u57.2.2.2.2.1, u81.2.2.1, u81.2.2.2, u71.2.2.2.2, u77.1, u77.2, u57.2.2.2.2.2.2.2.2.2.2)))) else ((1, u71.1, u57.2.1, go, u71.2.1, u71.2.2.1, db, dn, iv, u57.2.2.2.2.1, u71.2.2.2.1, u57.2.2.2.2.2.2.1, u71.2.2.2.2, u57.2.2.2.2.2.2.2.2.1, u57.2.2.2.2.2.2.2.2.2.1, u57.2.2.2.2.2.2.2.2.2.2))))) else (if u57.1 = go then (xbind (FX5_learn go u57.2.2.1 u57.2.2.2.2.2.2.2.1 u57.2.2.2.2.2.2.2.2.1 u57.2.2.2.2.2.2.2.2.2.1) (fun u63 => xbind (FX4_end u57.2.2.2.2.2.1 u57.2.2.2.2.2.2.1) (fun u67 => (1, u57.1, u57.2.1, u67.1, u67.2.1, u57.2.2.2.1, db, dn + 1, iv, u57.2.2.2.2.1, u67.2.2.1, u67.2.2.2, u57.2.2.2.2.2.2.2.1, u63.1, u63.2, u57.2.2.2.2.2.2.2.2.2.2)))) else ((1, u57.1, u57.2.1, go, u57.2.2.1, u57.2.2.2.1, db, dn, iv, u57.2.2.2.2.1, u57.2.2.2.2.2.1, u57.2.2.2.2.2.2.1, u57.2.2.2.2.2.2.2.1, u57.2.2.2.2.2.2.2.2.1, u57.2.2.2.2.2.2.2.2.2.1, u57.2.2.2.2.2.2.2.2.2.2))))) else (xbind (FX5_take rd tt ml ln wk tr wy ((4 * po) + r2)) (fun u103 => if u103.1 = go then (xbind (FX5_learn go u103.2.1 u103.2.2.2.2 xe sg) (fun u108 => xbind (FX4_end u103.2.2.2.1 ak) (fun u112 => (1, u103.1, co, u112.1, u112.2.1, u103.2.2.1, db, dn + 1, iv, qs, u112.2.2.1, u112.2.2.2, u103.2.2.2.2, u108.1, u108.2, fa)))) else ((1, u103.1, co, go, u103.2.1, u103.2.2.1, db, dn, iv, qs, u103.2.2.2.1, ak, u103.2.2.2.2, xe, sg, fa)))))))
/-! out of 30.refinv.lean.txt -/
def ycnt : Nat → (Nat → Int32) → Nat
  | 0, _ => 0
  | n + 1, f => ycnt n f + if f n = 0 then 0 else 1
theorem ycnt_le (f : Nat → Int32) : ∀ n, ycnt n f ≤ n
  | 0 => Nat.le_refl 0
  | n + 1 => by
    have h := ycnt_le f n
    unfold ycnt
    split <;> omega
theorem ycnt_far (f : Nat → Int32) (k : Nat) (v : Int32) : ∀ n, n ≤ k → ycnt n (upd f k v) = ycnt n f
  | 0, _ => rfl
  | n + 1, h => by
    unfold ycnt
    rw [ycnt_far f k v n (by omega), show upd f k v n = f n from if_neg (by omega)]
theorem ycnt_upd (f : Nat → Int32) (k : Nat) (h0 : f k = 0) : ∀ n, k < n → ycnt n (upd f k 1) = ycnt n f + 1
  | 0, h => absurd h (by omega)
  | n + 1, h => by
    unfold ycnt
    by_cases e : k = n
    · subst e
      rw [ycnt_far f k 1 k (Nat.le_refl k), show upd f k 1 k = 1 from if_pos rfl, if_neg (by decide), if_pos h0]
    · have := ycnt_upd f k h0 n (by omega)
      rw [this]
      rw [show upd f k 1 n = f n from if_neg (by omega)]
      omega
def YJ (po ln : Int32) (tr wy : Nat → Int32) : Prop := (0 ≤ po.toInt ∧ po.toInt < 10) ∧ (0 ≤ ln.toInt ∧ ln.toInt ≤ (ycnt 20 tr : Nat)) ∧ ∀ k, k < 40 → 0 ≤ (wy k).toInt ∧ (wy k).toInt < 40
def YX (xe : Nat → Int32) : Prop := ∀ k, k < 100 → -1 ≤ (xe k).toInt ∧ (xe k).toInt < 4
def YK (po go ln : Int32) (tr wy xe : Nat → Int32) : Prop := YJ po ln tr wy ∧ (go = -1 ∨ (0 ≤ go.toInt ∧ go.toInt < 10)) ∧ YX xe
theorem yj40 {ln : Int32} {tr : Nat → Int32} (h : 0 ≤ ln.toInt ∧ ln.toInt ≤ (ycnt 20 tr : Nat)) : 0 ≤ ln.toInt ∧ ln.toInt ≤ 40 := by
  have := ycnt_le tr 20
  omega
theorem yjln {ln : Int32} {tr : Nat → Int32} (h : 0 ≤ ln.toInt ∧ ln.toInt ≤ (ycnt 20 tr : Nat)) : 0 ≤ ln.toInt ∧ ln.toInt < 40 := by
  have := ycnt_le tr 20
  omega
theorem yj_take {po : Int32} {rd : Nat → Int32} {tt : Nat → Int32} {ml : Nat → Int32} {ln : Int32} {wk : Int32} {tr : Nat → Int32} {wy : Nat → Int32} {e1 : Int32} {u : (Int32) × (Int32) × (Int32) × (Nat → Int32) × (Nat → Int32)} (htt : ∀ k, k < 40 → 0 ≤ (tt k).toInt ∧ (tt k).toInt < 10) (hrd : ∀ k, k < 40 → 0 ≤ (rd k).toInt ∧ (rd k).toInt < 20) (he : 0 ≤ e1.toInt ∧ e1.toInt < 40) (hj : YJ po ln tr wy) (h0 : tr (rd e1.toNatClampNeg).toNatClampNeg = 0) (h : u = FX5_take rd tt ml ln wk tr wy e1) : YJ u.1 u.2.1 u.2.2.2.1 u.2.2.2.2 := by
  have h1 := pX5_take htt he (yjln hj.2.1) hj.2.2 h
  refine ⟨h1.1, ⟨h1.2.1.1, ?_⟩, h1.2.2⟩
  rw [h]
  unfold FX5_take
  dsimp only
  have h2 := yjln hj.2.1
  rw [ycnt_upd tr _ h0 20 (xcl (hrd _ (xcl he))), yinc (by omega)]
  have := hj.2.1
  omega
theorem pX5_canTake {rd cz tr : Nat → Int32} {e1 r : Int32} (h : r = FX5_canTake rd cz tr e1) (c : ¬ r = 0) : tr (rd e1.toNatClampNeg).toNatClampNeg = 0 ∧ cz (rd e1.toNatClampNeg).toNatClampNeg = 0 := by
  rw [h] at c
  unfold FX5_canTake at c
  split at c
  · split at c
    · rename_i h1 h2; exact ⟨h2, h1⟩
    · exact absurd rfl c
  · exact absurd rfl c
def PTj (z : Int32 × ((Int32) × (Int32) × (Int32) × (Nat → Int32) × (Nat → Int32))) : Prop := YJ z.2.1 z.2.2.1 z.2.2.2.2.1 z.2.2.2.2.2
theorem yj_tries_t {ex rd tt ml cz tr wy : Nat → Int32} {po ln wk qq : Int32} (hex4 : ∀ k, k < 10 → 0 ≤ (ex k).toInt ∧ (ex k).toInt ≤ 4) (htt : ∀ k, k < 40 → 0 ≤ (tt k).toInt ∧ (tt k).toInt < 10) (hrd : ∀ k, k < 40 → 0 ≤ (rd k).toInt ∧ (rd k).toInt < 20) (hqq : 0 ≤ qq.toInt ∧ qq.toInt < 10) (hj : YJ po ln tr wy) : ∀ (n i : Nat), ((i : Nat) : Int) ≤ (ex qq.toNatClampNeg).toInt →
    PTj (LX5_triesNext_t ex rd tt ml cz po ln wk tr wy qq n i)
  | 0, _, _ => hj
  | n + 1, i, hlo => by
    unfold LX5_triesNext_t
    refine xiteP (P := PTj) (fun _ => hj) (fun c => ?_)
    refine xbP (P := PTj) (fun r hr => ?_)
    refine xiteP (P := PTj) (fun _ => yj_tries_t hex4 htt hrd hqq hj n (i + 1) (xlt hlo c)) (fun c2 => ?_)
    refine xbP (P := PTj) (fun u hu => ?_)
    exact yj_take htt hrd (ye4 hex4 hqq hlo c) hj (pX5_canTake hr c2).1 hu
theorem yj_tries {ex : Nat → Int32} {rd : Nat → Int32} {tt : Nat → Int32} {ml : Nat → Int32} {cz : Nat → Int32} {po : Int32} {ln : Int32} {wk : Int32} {tr : Nat → Int32} {wy : Nat → Int32} {u : (Int32) × (Int32) × (Int32) × (Nat → Int32) × (Nat → Int32)} (hex4 : ∀ k, k < 10 → 0 ≤ (ex k).toInt ∧ (ex k).toInt ≤ 4) (htt : ∀ k, k < 40 → 0 ≤ (tt k).toInt ∧ (tt k).toInt < 10) (hrd : ∀ k, k < 40 → 0 ≤ (rd k).toInt ∧ (rd k).toInt < 20) (hj : YJ po ln tr wy) (h : u = (FX5_triesNext ex rd tt ml cz po ln wk tr wy).2) : YJ u.1 u.2.1 u.2.2.2.1 u.2.2.2.2 := by
  rw [h]
  exact yj_tries_t hex4 htt hrd hj.1 hj 5 0 (hex4 _ (xcl hj.1)).1
theorem yj_db {rd : Nat → Int32} {ml : Nat → Int32} {po : Int32} {ln : Int32} {wk : Int32} {db : Int32} {wy : Nat → Int32} {tr : Nat → Int32} {u : (Int32) × (Int32) × (Int32) × (Int32)} (hj : YJ po ln tr wy) (h : u = (FX5_doublesBack rd ml po ln wk db wy).2) : YJ u.1 u.2.1 tr wy := by
  have h1 := pX5_doublesBack hj.1 (yj40 hj.2.1) hj.2.2 ⟨rfl, h⟩
  refine ⟨h1.1, ⟨h1.2.1.1, ?_⟩, hj.2.2⟩
  rw [h]
  unfold FX5_doublesBack
  by_cases c : ln = 0
  · rw [if_pos c]; exact hj.2.1.2
  · rw [if_neg c]
    dsimp only
    rw [(ysub1 (yj40 hj.2.1) c).1]
    have := hj.2.1
    omega
theorem yj_end {po ln : Int32} {tr wy tr0 ak0 : Nat → Int32} {u : (Int32) × (Int32) × (Nat → Int32) × (Nat → Int32)} (hj : YJ po ln tr wy) (h : u = FX4_end tr0 ak0) : YJ po u.2.1 u.2.2.1 wy := by
  rw [h]
  refine ⟨hj.1, ?_, hj.2.2⟩
  show 0 ≤ (0 : Int32).toInt ∧ (0 : Int32).toInt ≤ _
  rw [show (0 : Int32).toInt = 0 from rfl]
  omega
theorem yj_end1 {tr0 ak0 : Nat → Int32} {u : (Int32) × (Int32) × (Nat → Int32) × (Nat → Int32)} (h : u = FX4_end tr0 ak0) : u.1 = -1 := by
  rw [h]; rfl
theorem yx_upd {xe : Nat → Int32} {k : Nat} {v : Int32} (hx : YX xe) (hv : -1 ≤ v.toInt ∧ v.toInt < 4) : YX (upd xe k v) := by
  intro j hj
  unfold upd
  split
  · exact hv
  · exact hx j hj
theorem ymod4 {x : Int32} (h : 0 ≤ x.toInt ∧ x.toInt < 40) : (x - x / 4 * 4).toInt = x.toInt % 4 := by
  obtain ⟨j, h1, h2, h3⟩ := xofI h.1
  have e : x - x / 4 * 4 = nI (j % 4) := by
    rw [h2, show (4 : Int32) = nI 4 from rfl, pk_div h1 (by decide) (by decide), pk_mul]
    rw [xeqI, Int32.toInt_sub, nI_toInt (by omega), nI_toInt (by omega), nI_toInt (by omega), Int.bmod_eq_of_le (by omega) (by omega)]
    omega
  rw [e, nI_toInt (by omega)]
  omega
theorem yx_learn_t {go ln : Int32} {wy : Nat → Int32} (hln : ln.toInt ≤ 40) (hwy : ∀ k, k < 40 → 0 ≤ (wy k).toInt ∧ (wy k).toInt < 40) : ∀ (n i : Nat) (xe sg : Nat → Int32), ((i : Nat) : Int) ≤ ln.toInt → YX xe → YX (LX5_learn_t go ln wy n i xe sg).1
  | 0, _, _, _, _, hx => hx
  | n + 1, i, xe, sg, hlo, hx => by
    unfold LX5_learn_t
    by_cases c : ln ≤ nI i
    · rw [if_pos c]; exact hx
    · rw [if_neg c]
      have h9 := hwy _ (xcl (xnIB hlo c hln))
      have h8 := ymod4 h9
      unfold xbind
      dsimp only
      split
      · exact yx_learn_t hln hwy n (i + 1) _ _ (xlt hlo c) (yx_upd hx (by omega))
      · exact yx_learn_t hln hwy n (i + 1) _ _ (xlt hlo c) (yx_upd hx (by omega))
theorem yx_learn {go ln : Int32} {wy xe sg : Nat → Int32} {u : (Nat → Int32) × (Nat → Int32)} (hgo : 0 ≤ go.toInt ∧ go.toInt < 10) (hlm : 0 ≤ ln.toInt ∧ ln.toInt ≤ 40) (hwy : ∀ k, k < 40 → 0 ≤ (wy k).toInt ∧ (wy k).toInt < 40) (hx : YX xe) (h : u = FX5_learn go ln wy xe sg) : YX u.1 := by
  rw [h]
  exact yx_learn_t hlm.2 hwy 41 0 xe sg hlm.1 hx
def PAj (z : Int32 × ((Int32) × (Int32) × (Int32) × (Int32) × (Int32) × (Nat → Int32) × (Nat → Int32) × (Nat → Int32) × (Nat → Int32) × (Nat → Int32) × (Nat → Int32))) : Prop := YJ z.2.1 z.2.2.2.1 z.2.2.2.2.2.2.1 z.2.2.2.2.2.2.2.2.1 ∧ YX z.2.2.2.2.2.2.2.2.2.1
theorem yj_asks {pl : Int32} {ex : Nat → Int32} {rd : Nat → Int32} {tt : Nat → Int32} {ml : Nat → Int32} {cz : Nat → Int32} {sh : Nat → Int32} {fa : Nat → Int32} {po : Int32} {co : Int32} {go : Int32} {ln : Int32} {wk : Int32} {qs : Int32} {tr : Nat → Int32} {ak : Nat → Int32} {wy : Nat → Int32} {xe : Nat → Int32} {sg : Nat → Int32} {r : Int32} {u : (Int32) × (Int32) × (Int32) × (Int32) × (Int32) × (Nat → Int32) × (Nat → Int32) × (Nat → Int32) × (Nat → Int32) × (Nat → Int32) × (Nat → Int32)} (hex4 : ∀ k, k < 10 → 0 ≤ (ex k).toInt ∧ (ex k).toInt ≤ 4) (htt : ∀ k, k < 40 → 0 ≤ (tt k).toInt ∧ (tt k).toInt < 10) (hrd : ∀ k, k < 40 → 0 ≤ (rd k).toInt ∧ (rd k).toInt < 20) (hgo : 0 ≤ go.toInt ∧ go.toInt < 10) (hj : YJ po ln tr wy) (hx : YX xe) (_ : r = (FX5_asks pl ex rd tt ml cz sh fa po co go ln wk qs tr ak wy xe sg).1) (h : u = (FX5_asks pl ex rd tt ml cz sh fa po co go ln wk qs tr ak wy xe sg).2) : YJ u.1 u.2.2.1 u.2.2.2.2.2.1 u.2.2.2.2.2.2.2.1 ∧ YX u.2.2.2.2.2.2.2.2.1 := by
  rw [h]
  clear h
  refine (?_ : PAj (FX5_asks pl ex rd tt ml cz sh fa po co go ln wk qs tr ak wy xe sg))
  unfold FX5_asks
  refine xiteP (P := PAj) (fun _ => ⟨hj, hx⟩) (fun _ => ?_)
  refine xiteP (P := PAj) (fun _ => ?_) (fun _ => ⟨hj, hx⟩)
  refine xiteP (P := PAj) (fun _ => ⟨hj, hx⟩) (fun _ => ?_)
  refine xb2P (P := PAj) (fun r1 u1 h1 _ => ?_)
  refine xiteP (P := PAj) (fun _ => ⟨hj, hx⟩) (fun c => ?_)
  have h4 := pX5_toldExit hex4 hj.1 h1 c
  refine xbP (P := PAj) (fun u2 h2 => ?_)
  have hx2 : YX u2.1 := by rw [h2]; exact yx_upd hx (by omega)
  refine xiteP (P := PAj) (fun c0 => ?_) (fun _ => ⟨hj, hx2⟩)
  refine xbP (P := PAj) (fun u3 h3 => ?_)
  exact ⟨yj_take htt hrd (yq4in hj.1 h4) hj c0 h3, hx2⟩
theorem ykgo {po go ln : Int32} {tr wy xe : Nat → Int32} (h : YK po go ln tr wy xe) (c : ¬ go = -1) : 0 ≤ go.toInt ∧ go.toInt < 10 :=
  h.2.1.resolve_left c
def PSO (z : Int32 × ((Int32) × (Int32) × (Int32) × (Int32) × (Int32) × (Int32) × (Int32) × (Int32) × (Int32) × (Nat → Int32) × (Nat → Int32) × (Nat → Int32) × (Nat → Int32) × (Nat → Int32) × (Nat → Int32))) : Prop := YK z.2.1 z.2.2.2.1 z.2.2.2.2.1 z.2.2.2.2.2.2.2.2.2.2.1 z.2.2.2.2.2.2.2.2.2.2.2.2.1 z.2.2.2.2.2.2.2.2.2.2.2.2.2.1
theorem pX5_stepOn {pl : Int32} {ex : Nat → Int32} {rd : Nat → Int32} {tt : Nat → Int32} {ml : Nat → Int32} {cz : Nat → Int32} {sh : Nat → Int32} {fa : Nat → Int32} {po : Int32} {co : Int32} {go : Int32} {ln : Int32} {wk : Int32} {db : Int32} {dn : Int32} {iv : Int32} {qs : Int32} {tr : Nat → Int32} {ak : Nat → Int32} {wy : Nat → Int32} {xe : Nat → Int32} {sg : Nat → Int32} {r : Int32} {u : (Int32) × (Int32) × (Int32) × (Int32) × (Int32) × (Int32) × (Int32) × (Int32) × (Int32) × (Nat → Int32) × (Nat → Int32) × (Nat → Int32) × (Nat → Int32) × (Nat → Int32) × (Nat → Int32)} (hex4 : ∀ k, k < 10 → 0 ≤ (ex k).toInt ∧ (ex k).toInt ≤ 4) (htt : ∀ k, k < 40 → 0 ≤ (tt k).toInt ∧ (tt k).toInt < 10) (hrd : ∀ k, k < 40 → 0 ≤ (rd k).toInt ∧ (rd k).toInt < 20) (hgo : 0 ≤ go.toInt ∧ go.toInt < 10) (hj : YJ po ln tr wy) (hxe : YX xe) (h : r = (FX5_stepOn pl ex rd tt ml cz sh fa po co go ln wk db dn iv qs tr ak wy xe sg).1 ∧ u = (FX5_stepOn pl ex rd tt ml cz sh fa po co go ln wk db dn iv qs tr ak wy xe sg).2) : YK u.1 u.2.2.1 u.2.2.2.1 u.2.2.2.2.2.2.2.2.2.1 u.2.2.2.2.2.2.2.2.2.2.2.1 u.2.2.2.2.2.2.2.2.2.2.2.2.1 := by
  rw [h.2]
  clear h
  refine (?_ : PSO (FX5_stepOn pl ex rd tt ml cz sh fa po co go ln wk db dn iv qs tr ak wy xe sg))
  unfold FX5_stepOn
  refine xbP (P := PSO) (fun r2 h2 => ?_)
  refine xiteP (P := PSO) (fun c2 => ?_) (fun c2 => xbP (P := PSO) (fun r3 h3 => xiteP (P := PSO) (fun c3 => ?_) (fun c3 => xbP (P := PSO) (fun u3 h4 => ?_))))
  · refine xb2P (P := PSO) (fun r7 u6 h7 h6 => ?_)
    have A1 := yj_asks hex4 htt hrd hgo hj hxe h7 h6
    refine xiteP (P := PSO) (fun c7 => ?_) (fun c7 => ?_)
    · refine xb2P (P := PSO) (fun r8 u8 h8 h9 => ?_)
      have T1 := yj_tries hex4 htt hrd A1.1 h9
      refine xiteP (P := PSO) (fun c8 => ?_) (fun c8 => ?_)
      · refine xb2P (P := PSO) (fun r9 u9 h10 h11 => ?_)
        have D1 := yj_db T1 h11
        refine xiteP (P := PSO) (fun c9 => xbP (P := PSO) (fun _ he => ?_)) (fun c9 => ?_)
        · exact ⟨yj_end D1 he, Or.inl (yj_end1 he), A1.2⟩
        · refine xiteP (P := PSO) (fun _ => xbP (P := PSO) (fun _ hl => xbP (P := PSO) (fun _ he => ?_))) (fun _ => ?_)
          · exact ⟨yj_end D1 he, Or.inl (yj_end1 he), yx_learn hgo (yj40 D1.2.1) D1.2.2 A1.2 hl⟩
          · exact ⟨D1, Or.inr hgo, A1.2⟩
      · refine xiteP (P := PSO) (fun _ => xbP (P := PSO) (fun _ hl => xbP (P := PSO) (fun _ he => ?_))) (fun _ => ?_)
        · exact ⟨yj_end T1 he, Or.inl (yj_end1 he), yx_learn hgo (yj40 T1.2.1) T1.2.2 A1.2 hl⟩
        · exact ⟨T1, Or.inr hgo, A1.2⟩
    · refine xiteP (P := PSO) (fun _ => xbP (P := PSO) (fun _ hl => xbP (P := PSO) (fun _ he => ?_))) (fun _ => ?_)
      · exact ⟨yj_end A1.1 he, Or.inl (yj_end1 he), yx_learn hgo (yj40 A1.1.2.1) A1.1.2.2 A1.2 hl⟩
      · exact ⟨A1.1, Or.inr hgo, A1.2⟩
  · refine xb2P (P := PSO) (fun r7 u6 h7 h6 => ?_)
    have A1 := yj_asks hex4 htt hrd hgo hj hxe h7 h6
    refine xiteP (P := PSO) (fun c7 => ?_) (fun c7 => ?_)
    · refine xb2P (P := PSO) (fun r8 u8 h8 h9 => ?_)
      have T1 := yj_tries hex4 htt hrd A1.1 h9
      refine xiteP (P := PSO) (fun c8 => ?_) (fun c8 => ?_)
      · refine xb2P (P := PSO) (fun r9 u9 h10 h11 => ?_)
        have D1 := yj_db T1 h11
        refine xiteP (P := PSO) (fun c9 => xbP (P := PSO) (fun _ he => ?_)) (fun c9 => ?_)
        · exact ⟨yj_end D1 he, Or.inl (yj_end1 he), A1.2⟩
        · refine xiteP (P := PSO) (fun _ => xbP (P := PSO) (fun _ hl => xbP (P := PSO) (fun _ he => ?_))) (fun _ => ?_)
          · exact ⟨yj_end D1 he, Or.inl (yj_end1 he), yx_learn hgo (yj40 D1.2.1) D1.2.2 A1.2 hl⟩
          · exact ⟨D1, Or.inr hgo, A1.2⟩
      · refine xiteP (P := PSO) (fun _ => xbP (P := PSO) (fun _ hl => xbP (P := PSO) (fun _ he => ?_))) (fun _ => ?_)
        · exact ⟨yj_end T1 he, Or.inl (yj_end1 he), yx_learn hgo (yj40 T1.2.1) T1.2.2 A1.2 hl⟩
        · exact ⟨T1, Or.inr hgo, A1.2⟩
    · refine xiteP (P := PSO) (fun _ => xbP (P := PSO) (fun _ hl => xbP (P := PSO) (fun _ he => ?_))) (fun _ => ?_)
      · exact ⟨yj_end A1.1 he, Or.inl (yj_end1 he), yx_learn hgo (yj40 A1.1.2.1) A1.1.2.2 A1.2 hl⟩
      · exact ⟨A1.1, Or.inr hgo, A1.2⟩
  · have J1 := yj_take htt hrd (yq4in hj.1 (yrem hxe hgo hj.1 h2 c2)) hj (pX5_canTake h3 c3).1 h4
    refine xiteP (P := PSO) (fun _ => xbP (P := PSO) (fun _ hl => xbP (P := PSO) (fun _ he => ?_))) (fun _ => ?_)
    · exact ⟨yj_end J1 he, Or.inl (yj_end1 he), yx_learn hgo (yj40 J1.2.1) J1.2.2 hxe hl⟩
    · exact ⟨J1, Or.inr hgo, hxe⟩

/-! out of 31.refruns.lean.txt -/
def LX5_stepsOn_t (pl : Int32) (ex : Nat → Int32) (rd : Nat → Int32) (tt : Nat → Int32) (ml : Nat → Int32) (cz : Nat → Int32) (sh : Nat → Int32) (nst : Int32) : Nat → Nat → (Int32) → (Int32) → (Int32) → (Int32) → (Int32) → (Int32) → (Int32) → (Int32) → (Int32) → (Nat → Int32) → (Nat → Int32) → (Nat → Int32) → (Nat → Int32) → (Nat → Int32) → (Nat → Int32) → Nat × (Int32) × (Int32) × (Int32) × (Int32) × (Int32) × (Int32) × (Int32) × (Int32) × (Int32) × (Nat → Int32) × (Nat → Int32) × (Nat → Int32) × (Nat → Int32) × (Nat → Int32) × (Nat → Int32)
  | 0, i, po, co, go, ln, wk, db, dn, iv, qs, tr, ak, wy, xe, sg, fa => (i, po, co, go, ln, wk, db, dn, iv, qs, tr, ak, wy, xe, sg, fa)
  | n + 1, i, po, co, go, ln, wk, db, dn, iv, qs, tr, ak, wy, xe, sg, fa =>
    if nst ≤ (nI i) then ((i, po, co, go, ln, wk, db, dn, iv, qs, tr, ak, wy, xe, sg, fa)) else (if go = (-1) then ((i, po, co, go, ln, wk, db, dn, iv, qs, tr, ak, wy, xe, sg, fa)) else (xbind2 (FX5_stepOn pl ex rd tt ml cz sh fa po co go ln wk db dn iv qs tr ak wy xe sg) (fun r4 u3 => if r4 = 0 then ((i, u3.1, u3.2.1, u3.2.2.1, u3.2.2.2.1, u3.2.2.2.2.1, u3.2.2.2.2.2.1, u3.2.2.2.2.2.2.1, u3.2.2.2.2.2.2.2.1, u3.2.2.2.2.2.2.2.2.1, u3.2.2.2.2.2.2.2.2.2.1, u3.2.2.2.2.2.2.2.2.2.2.1, u3.2.2.2.2.2.2.2.2.2.2.2.1, u3.2.2.2.2.2.2.2.2.2.2.2.2.1, u3.2.2.2.2.2.2.2.2.2.2.2.2.2.1, u3.2.2.2.2.2.2.2.2.2.2.2.2.2.2)) else (LX5_stepsOn_t pl ex rd tt ml cz sh nst n (i + 1) u3.1 u3.2.1 u3.2.2.1 u3.2.2.2.1 u3.2.2.2.2.1 u3.2.2.2.2.2.1 u3.2.2.2.2.2.2.1 u3.2.2.2.2.2.2.2.1 u3.2.2.2.2.2.2.2.2.1 u3.2.2.2.2.2.2.2.2.2.1 u3.2.2.2.2.2.2.2.2.2.2.1 u3.2.2.2.2.2.2.2.2.2.2.2.1 u3.2.2.2.2.2.2.2.2.2.2.2.2.1 u3.2.2.2.2.2.2.2.2.2.2.2.2.2.1 u3.2.2.2.2.2.2.2.2.2.2.2.2.2.2))))
def FX5_stepsOn (pl : Int32) (ex : Nat → Int32) (rd : Nat → Int32) (tt : Nat → Int32) (ml : Nat → Int32) (cz : Nat → Int32) (sh : Nat → Int32) (fa : Nat → Int32) (po : Int32) (co : Int32) (go : Int32) (ln : Int32) (wk : Int32) (db : Int32) (dn : Int32) (iv : Int32) (qs : Int32) (tr : Nat → Int32) (ak : Nat → Int32) (wy : Nat → Int32) (xe : Nat → Int32) (sg : Nat → Int32) (nst : Int32) : Int32 × (Int32) × (Int32) × (Int32) × (Int32) × (Int32) × (Int32) × (Int32) × (Int32) × (Int32) × (Nat → Int32) × (Nat → Int32) × (Nat → Int32) × (Nat → Int32) × (Nat → Int32) × (Nat → Int32) :=
  xbind (LX5_stepsOn_t pl ex rd tt ml cz sh nst 10000 0 po co go ln wk db dn iv qs tr ak wy xe sg fa) (fun z8 => (nI z8.1, z8.2.1, z8.2.2.1, z8.2.2.2.1, z8.2.2.2.2.1, z8.2.2.2.2.2.1, z8.2.2.2.2.2.2.1, z8.2.2.2.2.2.2.2.1, z8.2.2.2.2.2.2.2.2.1, z8.2.2.2.2.2.2.2.2.2.1, z8.2.2.2.2.2.2.2.2.2.2.1, z8.2.2.2.2.2.2.2.2.2.2.2.1, z8.2.2.2.2.2.2.2.2.2.2.2.2.1, z8.2.2.2.2.2.2.2.2.2.2.2.2.2.1, z8.2.2.2.2.2.2.2.2.2.2.2.2.2.2.1, z8.2.2.2.2.2.2.2.2.2.2.2.2.2.2.2))
/-! out of 32.refops.lean.txt -/
def FX5_pay (co : Int32) (x : Int32) : Int32 × (Int32) × (Int32) :=
  xbind (FX5_isIn x 1 99) (fun r2 => if r2 = 0 then (xbind2 (FX5_no 1) (fun r7 u6 => (r7, u6, co))) else ((if co + x < 99 then co + x else 99, 0, if co + x < 99 then co + x else 99)))
def FX5_start (po : Int32) (go : Int32) (ln : Int32) (dn : Int32) (tr : Nat → Int32) (ak : Nat → Int32) (g : Int32) : (Int32) × (Int32) × (Int32) × (Nat → Int32) × (Nat → Int32) :=
  if g = po then ((go, ln, dn + 1, tr, ak)) else (xbind (FX4_begin tr ak g) (fun u2 => (u2.1, u2.2.1, dn, u2.2.2.1, u2.2.2.2)))
def FX5_beginErrand (pl : Int32) (ex : Nat → Int32) (rd : Nat → Int32) (tt : Nat → Int32) (ml : Nat → Int32) (cz : Nat → Int32) (fa : Nat → Int32) (po : Int32) (go : Int32) (ln : Int32) (dn : Int32) (tr : Nat → Int32) (ak : Nat → Int32) (g : Int32) : Int32 × (Int32) × (Int32) × (Int32) × (Int32) × (Nat → Int32) × (Nat → Int32) × (Nat → Int32) :=
  xbind (FX5_isPlace pl g) (fun r2 => if r2 = 0 then (xbind2 (FX5_no 1) (fun r20 u19 => (r20, u19, go, ln, dn, tr, ak, fa))) else (if go = (-1) then (xbind (FX5_start po go ln dn tr ak g) (fun u7 => xbind2 (FX5_milesBetween pl ex rd tt ml cz fa po g) (fun r12 u11 => (r12, 0, u7.1, u7.2.1, u7.2.2.1, u7.2.2.2.1, u7.2.2.2.2, u11)))) else (xbind2 (FX5_no 2) (fun r16 u15 => (r16, u15, go, ln, dn, tr, ak, fa)))))
def FX5_goOn (pl : Int32) (ex : Nat → Int32) (rd : Nat → Int32) (tt : Nat → Int32) (ml : Nat → Int32) (cz : Nat → Int32) (sh : Nat → Int32) (fa : Nat → Int32) (po : Int32) (co : Int32) (go : Int32) (ln : Int32) (wk : Int32) (db : Int32) (dn : Int32) (iv : Int32) (qs : Int32) (tr : Nat → Int32) (ak : Nat → Int32) (wy : Nat → Int32) (xe : Nat → Int32) (sg : Nat → Int32) (nst : Int32) : Int32 × (Int32) × (Int32) × (Int32) × (Int32) × (Int32) × (Int32) × (Int32) × (Int32) × (Int32) × (Int32) × (Nat → Int32) × (Nat → Int32) × (Nat → Int32) × (Nat → Int32) × (Nat → Int32) × (Nat → Int32) :=
  xbind (FX5_isIn nst 1 100) (fun r2 => if r2 = 0 then (xbind2 (FX5_no 1) (fun r16 u15 => (r16, u15, po, co, go, ln, wk, db, dn, iv, qs, tr, ak, wy, xe, sg, fa))) else (if go = (-1) then (xbind2 (FX5_no 2) (fun r12 u11 => (r12, u11, po, co, go, ln, wk, db, dn, iv, qs, tr, ak, wy, xe, sg, fa))) else (xbind2 (FX5_stepsOn pl ex rd tt ml cz sh fa po co go ln wk db dn iv qs tr ak wy xe sg nst) (fun r8 u7 => (r8, 0, u7.1, u7.2.1, u7.2.2.1, u7.2.2.2.1, u7.2.2.2.2.1, u7.2.2.2.2.2.1, u7.2.2.2.2.2.2.1, u7.2.2.2.2.2.2.2.1, u7.2.2.2.2.2.2.2.2.1, u7.2.2.2.2.2.2.2.2.2.1, u7.2.2.2.2.2.2.2.2.2.2.1, u7.2.2.2.2.2.2.2.2.2.2.2.1, u7.2.2.2.2.2.2.2.2.2.2.2.2.1, u7.2.2.2.2.2.2.2.2.2.2.2.2.2.1, u7.2.2.2.2.2.2.2.2.2.2.2.2.2.2)))))
def FX5_giveUp (go : Int32) (ln : Int32) (tr : Nat → Int32) (ak : Nat → Int32) : Int32 × (Int32) × (Int32) × (Int32) × (Nat → Int32) × (Nat → Int32) :=
  if go = (-1) then (xbind2 (FX5_no 1) (fun r7 u6 => (r7, u6, go, ln, tr, ak))) else (xbind (FX4_end tr ak) (fun u2 => (ln, 0, u2.1, u2.2.1, u2.2.2.1, u2.2.2.2)))
def LX5_night_t : Nat → Nat → (Int32) → (Nat → Int32) → (Nat → Int32) → (Int32) × (Nat → Int32) × (Nat → Int32)
  | 0, i, many, xe, sg => (many, xe, sg)
  | n + 1, i, many, xe, sg =>
    if 100 ≤ (nI i) then ((many, xe, sg)) else (if (xe (nI i).toNatClampNeg) = (-1) then (LX5_night_t n (i + 1) many xe sg) else (if ((upd sg (nI i).toNatClampNeg ((sg (nI i).toNatClampNeg) - 1)) (nI i).toNatClampNeg) ≤ 0 then (LX5_night_t n (i + 1) (many + 1) (upd xe (nI i).toNatClampNeg (-1)) (upd sg (nI i).toNatClampNeg ((sg (nI i).toNatClampNeg) - 1))) else (LX5_night_t n (i + 1) many xe (upd sg (nI i).toNatClampNeg ((sg (nI i).toNatClampNeg) - 1)))))
def FX5_night (xe : Nat → Int32) (sg : Nat → Int32) : Int32 × (Nat → Int32) × (Nat → Int32) :=
  xbind (LX5_night_t 101 0 0 xe sg) (fun z4 => (z4.1, z4.2.1, z4.2.2))
def LX5_sleep_t (nn : Int32) : Nat → Nat → (Int32) → (Nat → Int32) → (Nat → Int32) → (Int32) × (Nat → Int32) × (Nat → Int32)
  | 0, i, many, xe, sg => (many, xe, sg)
  | n + 1, i, many, xe, sg =>
    if nn ≤ (nI i) then ((many, xe, sg)) else (xbind2 (FX5_night xe sg) (fun r8 u7 => LX5_sleep_t nn n (i + 1) (many + r8) u7.1 u7.2))
def FX5_sleep (xe : Nat → Int32) (sg : Nat → Int32) (nn : Int32) : Int32 × (Int32) × (Nat → Int32) × (Nat → Int32) :=
  xbind (FX5_isIn nn 1 9) (fun r2 => if r2 = 0 then (xbind2 (FX5_no 1) (fun r14 u13 => (r14, u13, xe, sg))) else (xbind (LX5_sleep_t nn 10 0 0 xe sg) (fun z11 => (z11.1, 0, z11.2.1, z11.2.2))))
theorem yadd_p {pl q r : Int32} (hpl : 0 ≤ pl.toInt ∧ pl.toInt ≤ 10) (h : r = FX5_isPlace pl q) (c : ¬ r = 0) : 0 < pl.toInt := by
  have := pX5_isPlace hpl h c
  omega

/-! out of 33.refreads.lean.txt -/
def FX5_places (pl : Int32) : Int32 × (Int32) :=
  xbind2 (FX5_ok pl) (fun r2 u1 => (r2, u1))
def FX5_whereIs (po : Int32) : Int32 × (Int32) :=
  xbind2 (FX5_ok po) (fun r2 u1 => (r2, u1))
def FX5_coins (co : Int32) : Int32 × (Int32) :=
  xbind2 (FX5_ok co) (fun r2 u1 => (r2, u1))
def FX5_goal (go : Int32) : Int32 × (Int32) :=
  xbind2 (FX5_ok go) (fun r2 u1 => (r2, u1))
def FX5_wayLength (ln : Int32) : Int32 × (Int32) :=
  xbind2 (FX5_ok ln) (fun r2 u1 => (r2, u1))
def FX5_milesWalked (wk : Int32) : Int32 × (Int32) :=
  xbind2 (FX5_ok wk) (fun r2 u1 => (r2, u1))
def FX5_milesDoubled (db : Int32) : Int32 × (Int32) :=
  xbind2 (FX5_ok db) (fun r2 u1 => (r2, u1))
def FX5_errandsDone (dn : Int32) : Int32 × (Int32) :=
  xbind2 (FX5_ok dn) (fun r2 u1 => (r2, u1))
def FX5_errandsInVain (iv : Int32) : Int32 × (Int32) :=
  xbind2 (FX5_ok iv) (fun r2 u1 => (r2, u1))
def FX5_asked (qs : Int32) : Int32 × (Int32) :=
  xbind2 (FX5_ok qs) (fun r2 u1 => (r2, u1))
def FX5_exitsOf (pl : Int32) (ex : Nat → Int32) (q : Int32) : Int32 × (Int32) :=
  xbind (FX5_isPlace pl q) (fun r2 => if r2 = 0 then (xbind2 (FX5_no 1) (fun r7 u6 => (r7, u6))) else ((ex q.toNatClampNeg, 0)))
def FX5_leadsTo (pl : Int32) (ex : Nat → Int32) (tt : Nat → Int32) (q : Int32) (x : Int32) : Int32 × (Int32) :=
  xbind (FX5_isExit pl ex q x) (fun r2 => if r2 = 0 then (xbind2 (FX5_no 1) (fun r7 u6 => (r7, u6))) else ((tt ((4 * q) + x).toNatClampNeg, 0)))
def FX5_milesOf (pl : Int32) (ex : Nat → Int32) (rd : Nat → Int32) (ml : Nat → Int32) (q : Int32) (x : Int32) : Int32 × (Int32) :=
  xbind (FX5_isExit pl ex q x) (fun r2 => if r2 = 0 then (xbind2 (FX5_no 1) (fun r7 u6 => (r7, u6))) else ((ml (rd ((4 * q) + x).toNatClampNeg).toNatClampNeg, 0)))
def FX5_isOpen (pl : Int32) (ex : Nat → Int32) (rd : Nat → Int32) (cz : Nat → Int32) (q : Int32) (x : Int32) : Int32 × (Int32) :=
  xbind (FX5_isExit pl ex q x) (fun r2 => if r2 = 0 then (xbind2 (FX5_isNot 1) (fun r7 u6 => (r7, u6))) else (if (cz (rd ((4 * q) + x).toNatClampNeg).toNatClampNeg) = 0 then ((1, 0)) else ((0, 0))))
def FX5_hasShepherd (pl : Int32) (sh : Nat → Int32) (q : Int32) : Int32 × (Int32) :=
  xbind (FX5_isPlace pl q) (fun r2 => if r2 = 0 then (xbind2 (FX5_isNot 1) (fun r7 u6 => (r7, u6))) else ((sh q.toNatClampNeg, 0)))
def FX5_distance (pl : Int32) (ex : Nat → Int32) (rd : Nat → Int32) (tt : Nat → Int32) (ml : Nat → Int32) (cz : Nat → Int32) (fa : Nat → Int32) (q : Int32) (g : Int32) : Int32 × (Int32) × (Nat → Int32) :=
  xbind (FX5_isPlace pl q) (fun r2 => if r2 = 0 then (xbind2 (FX5_no 1) (fun r7 u6 => (r7, u6, fa))) else (xbind (FX5_isPlace pl g) (fun r11 => if r11 = 0 then (xbind2 (FX5_no 1) (fun r16 u15 => (r16, u15, fa))) else (xbind2 (FX5_milesBetween pl ex rd tt ml cz fa q g) (fun r20 u19 => (r20, 0, u19))))))
def FX5_isTried (pl : Int32) (ex : Nat → Int32) (rd : Nat → Int32) (tr : Nat → Int32) (q : Int32) (x : Int32) : Int32 × (Int32) :=
  xbind (FX5_isExit pl ex q x) (fun r2 => if r2 = 0 then (xbind2 (FX5_isNot 1) (fun r7 u6 => (r7, u6))) else ((tr (rd ((4 * q) + x).toNatClampNeg).toNatClampNeg, 0)))
def FX5_remembered (pl : Int32) (xe : Nat → Int32) (g : Int32) (q : Int32) : Int32 × (Int32) :=
  xbind (FX5_isPlace pl g) (fun r2 => if r2 = 0 then (xbind2 (FX5_no 1) (fun r7 u6 => (r7, u6))) else (xbind (FX5_isPlace pl q) (fun r11 => if r11 = 0 then (xbind2 (FX5_no 1) (fun r16 u15 => (r16, u15))) else ((xe ((10 * g) + q).toNatClampNeg, 0)))))
def FX5_strengthOf (xe : Nat → Int32) (sg : Nat → Int32) (k : Int32) : Int32 :=
  if (xe k.toNatClampNeg) = (-1) then (0) else (sg k.toNatClampNeg)
def FX5_strength (pl : Int32) (xe : Nat → Int32) (sg : Nat → Int32) (g : Int32) (q : Int32) : Int32 × (Int32) :=
  xbind (FX5_isPlace pl g) (fun r2 => if r2 = 0 then (xbind2 (FX5_no 1) (fun r7 u6 => (r7, u6))) else (xbind (FX5_isPlace pl q) (fun r11 => if r11 = 0 then (xbind2 (FX5_no 1) (fun r16 u15 => (r16, u15))) else (xbind (FX5_strengthOf xe sg ((10 * g) + q)) (fun r20 => (r20, 0))))))
theorem yxr {xe : Nat → Int32} {g q : Int32} (hxe : ∀ k, k < 100 → -1 ≤ (xe k).toInt ∧ (xe k).toInt < 4) (hg : 0 ≤ g.toInt ∧ g.toInt < 10) (hq : 0 ≤ q.toInt ∧ q.toInt < 10) (c : ¬ xe (10 * g + q).toNatClampNeg = -1) : 0 ≤ (xe (10 * g + q).toNatClampNeg).toInt ∧ (xe (10 * g + q).toNatClampNeg).toInt < 4 :=
  yrem (r := xe (10 * g + q).toNatClampNeg) hxe hg hq rfl c
def LX5_knows_t (rd : Nat → Int32) (tt : Nat → Int32) (cz : Nat → Int32) (xe : Nat → Int32) (g : Int32) : Nat → Nat → (Int32) → Int32
  | 0, i, qa => (0)
  | n + 1, i, qa =>
    if 10 ≤ (nI i) then (if qa = g then (1) else (0)) else (if qa = g then (1) else (if (xe ((10 * g) + qa).toNatClampNeg) = (-1) then (0) else (if (cz (rd ((4 * qa) + (xe ((10 * g) + qa).toNatClampNeg)).toNatClampNeg).toNatClampNeg) = 0 then (LX5_knows_t rd tt cz xe g n (i + 1) (tt ((4 * qa) + (xe ((10 * g) + qa).toNatClampNeg)).toNatClampNeg)) else (0))))
def FX5_knows (rd : Nat → Int32) (tt : Nat → Int32) (cz : Nat → Int32) (po : Int32) (xe : Nat → Int32) (g : Int32) : Int32 :=
  LX5_knows_t rd tt cz xe g 11 0 po
theorem LX5_knows_01 {rd : Nat → Int32} {tt : Nat → Int32} {cz : Nat → Int32} {xe : Nat → Int32} {g : Int32} : ∀ (n i : Nat) (qa : Int32), LX5_knows_t rd tt cz xe g n i qa = 0 ∨ LX5_knows_t rd tt cz xe g n i qa = 1
  | 0, _, _ => Or.inl rfl
  | n + 1, i, qa => by
    unfold LX5_knows_t
    repeat' split
    all_goals first | exact Or.inl rfl | exact Or.inr rfl | exact LX5_knows_01 n (i + 1) _
theorem FX5_knows_01 {rd : Nat → Int32} {tt : Nat → Int32} {cz : Nat → Int32} {po : Int32} {xe : Nat → Int32} {g : Int32} {r : Int32} (h : r = FX5_knows rd tt cz po xe g) : narrow .boolean (.int r) = .int r := by
  subst h
  exact xz01 (LX5_knows_01 11 0 po)
def FX5_knowsWay (pl : Int32) (rd : Nat → Int32) (tt : Nat → Int32) (cz : Nat → Int32) (po : Int32) (xe : Nat → Int32) (g : Int32) : Int32 × (Int32) :=
  xbind (FX5_isPlace pl g) (fun r2 => if r2 = 0 then (xbind2 (FX5_isNot 1) (fun r7 u6 => (r7, u6))) else (xbind (FX5_knows rd tt cz po xe g) (fun r11 => (r11, 0))))
/-! out of 34.refroads.lean.txt -/
def FX5_addPlace (pl : Int32) (po : Int32) : Int32 × (Int32) × (Int32) × (Int32) :=
  if pl = 10 then (xbind2 (FX5_no 1) (fun r4 u3 => (r4, u3, pl, po))) else (if pl = 0 then (((pl + 1) - 1, 0, pl + 1, 0)) else (((pl + 1) - 1, 0, pl + 1, po)))
def ysx : Nat → (Nat → Int32) → Int
  | 0, _ => 0
  | n + 1, f => ysx n f + (f n).toInt
theorem ysx_le {f : Nat → Int32} {a b : Nat} (hab : a ≠ b) (ha : (f a).toInt ≤ 3) (hb : (f b).toInt ≤ 3) : ∀ n, (∀ k, k < n → (f k).toInt ≤ 4) → ysx n f + (if a < n then 1 else 0) + (if b < n then 1 else 0) ≤ 4 * n
  | 0, _ => by
    rw [if_neg (by omega), if_neg (by omega)]
    unfold ysx
    omega
  | n + 1, h => by
    have h1 := ysx_le hab ha hb n (fun k hk => h k (by omega))
    have h2 := h n (by omega)
    unfold ysx
    by_cases e1 : a = n
    · subst e1
      rw [if_neg (by omega)] at h1
      rw [if_pos (by omega)]
      by_cases e3 : b < a
      · rw [if_pos e3] at h1; rw [if_pos (by omega)]; omega
      · rw [if_neg e3] at h1; rw [if_neg (by omega)]; omega
    · by_cases e2 : b = n
      · subst e2
        rw [if_neg (by omega : ¬ b < b)] at h1
        rw [if_pos (by omega : b < b + 1)]
        by_cases e3 : a < b
        · rw [if_pos e3] at h1; rw [if_pos (by omega)]; omega
        · rw [if_neg e3] at h1; rw [if_neg (by omega)]; omega
      · have q1 : (if a < n + 1 then (1 : Int) else 0) = if a < n then 1 else 0 := by
          by_cases e3 : a < n
          · rw [if_pos e3, if_pos (by omega)]
          · rw [if_neg e3, if_neg (by omega)]
        have q2 : (if b < n + 1 then (1 : Int) else 0) = if b < n then 1 else 0 := by
          by_cases e3 : b < n
          · rw [if_pos e3, if_pos (by omega)]
          · rw [if_neg e3, if_neg (by omega)]
        rw [q1, q2]
        omega
theorem yfree {ex : Nat → Int32} {q : Int32} (hex4 : ∀ k, k < 10 → 0 ≤ (ex k).toInt ∧ (ex k).toInt ≤ 4) (hq : 0 ≤ q.toInt ∧ q.toInt < 10) (c : ¬ ex q.toNatClampNeg = 4) : 0 ≤ (ex q.toNatClampNeg).toInt ∧ (ex q.toNatClampNeg).toInt < 4 := by
  have := hex4 _ (xcl hq)
  rw [xeqI, show (4 : Int32).toInt = 4 from rfl] at c
  omega
theorem ynat {q w : Int32} (hq : 0 ≤ q.toInt ∧ q.toInt < 10) (hw : 0 ≤ w.toInt ∧ w.toInt < 10) (c : ¬ q = w) : q.toNatClampNeg ≠ w.toNatClampNeg := by
  intro h
  obtain ⟨j, h1, h2, h3⟩ := xofI hq.1
  obtain ⟨k, k1, k2, k3⟩ := xofI hw.1
  apply c
  have e1 : q.toNatClampNeg = j := by show q.toInt.toNat = j; omega
  have e2 : w.toNatClampNeg = k := by show w.toInt.toNat = k; omega
  rw [h2, k2, ← e1, ← e2, h]
theorem yrs {ex : Nat → Int32} {rs q w : Int32} (hex4 : ∀ k, k < 10 → 0 ≤ (ex k).toInt ∧ (ex k).toInt ≤ 4) (hrs : 0 ≤ rs.toInt ∧ 2 * rs.toInt = ysx 10 ex) (hq : 0 ≤ q.toInt ∧ q.toInt < 10) (hw : 0 ≤ w.toInt ∧ w.toInt < 10) (c : ¬ q = w) (c1 : ¬ ex q.toNatClampNeg = 4) (c2 : ¬ ex w.toNatClampNeg = 4) : 0 ≤ rs.toInt ∧ rs.toInt < 20 := by
  have h1 := yfree hex4 hq c1
  have h2 := yfree hex4 hw c2
  have h3 := ysx_le (ynat hq hw c) (by omega) (by omega) 10 (fun k hk => (hex4 k hk).2)
  rw [if_pos (xcl hq), if_pos (xcl hw)] at h3
  omega
def FX5_addExit (rs : Int32) (ex : Nat → Int32) (rd : Nat → Int32) (tt : Nat → Int32) (q : Int32) (w : Int32) : (Nat → Int32) × (Nat → Int32) × (Nat → Int32) :=
  (upd ex q.toNatClampNeg ((ex q.toNatClampNeg) + 1), upd rd ((4 * q) + (ex q.toNatClampNeg)).toNatClampNeg rs, upd tt ((4 * q) + (ex q.toNatClampNeg)).toNatClampNeg w)
theorem pX5_addExit {rs : Int32} {ex : Nat → Int32} {rd : Nat → Int32} {tt : Nat → Int32} {q : Int32} {w : Int32} {u : (Nat → Int32) × (Nat → Int32) × (Nat → Int32)} (h : u = FX5_addExit rs ex rd tt q w) (k : Nat) (hk : q.toNatClampNeg ≠ k) : u.1 k = ex k := by
  rw [h]
  unfold FX5_addExit
  exact if_neg (Ne.symm hk)
def FX5_addRoad (pl : Int32) (rs : Int32) (ex : Nat → Int32) (rd : Nat → Int32) (tt : Nat → Int32) (ml : Nat → Int32) (cz : Nat → Int32) (tr : Nat → Int32) (q : Int32) (w : Int32) (x : Int32) : Int32 × (Int32) × (Int32) × (Nat → Int32) × (Nat → Int32) × (Nat → Int32) × (Nat → Int32) × (Nat → Int32) × (Nat → Int32) :=
  xbind (FX5_isPlace pl q) (fun r2 => if r2 = 0 then (xbind2 (FX5_no 1) (fun r7 u6 => (r7, u6, rs, ex, rd, tt, ml, cz, tr))) else (xbind (FX5_isPlace pl w) (fun r11 => if r11 = 0 then (xbind2 (FX5_no 1) (fun r48 u47 => (r48, u47, rs, ex, rd, tt, ml, cz, tr))) else (if q = w then (xbind2 (FX5_no 2) (fun r17 u16 => (r17, u16, rs, ex, rd, tt, ml, cz, tr))) else (xbind (FX5_isIn x 1 9) (fun r21 => if r21 = 0 then (xbind2 (FX5_no 2) (fun r44 u43 => (r44, u43, rs, ex, rd, tt, ml, cz, tr))) else (if (ex q.toNatClampNeg) = 4 then (xbind2 (FX5_no 3) (fun r27 u26 => (r27, u26, rs, ex, rd, tt, ml, cz, tr))) else (if (ex w.toNatClampNeg) = 4 then (xbind2 (FX5_no 3) (fun r40 u39 => (r40, u39, rs, ex, rd, tt, ml, cz, tr))) else (xbind (FX5_addExit rs ex rd tt q w) (fun u31 => xbind (FX5_addExit rs u31.1 u31.2.1 u31.2.2 w q) (fun u35 => ((u35.1 q.toNatClampNeg) - 1, 0, rs + 1, u35.1, u35.2.1, u35.2.2, upd ml rs.toNatClampNeg x, upd cz rs.toNatClampNeg 0, upd tr rs.toNatClampNeg 0))))))))))))
/-! out of 35.refwalks.lean.txt -/
theorem ycnt_congr {f g : Nat → Int32} : ∀ n, (∀ k, k < n → f k = g k) → ycnt n f = ycnt n g
  | 0, _ => rfl
  | n + 1, h => by
    unfold ycnt
    rw [ycnt_congr n (fun k hk => h k (by omega)), h n (by omega)]
theorem ycpy {f g : Nat → Int32} {N : Nat} : ∀ k, k < N → va_cpy f g 0 0 N k = f k := by
  intro k hk
  unfold va_cpy
  rw [if_pos (by omega)]
  congr 1
  omega
theorem pX4_become {tr : Nat → Int32} {ak : Nat → Int32} {wy : Nat → Int32} {xe : Nat → Int32} {sg : Nat → Int32} {vpo : Int32} {vco : Int32} {vgo : Int32} {vln : Int32} {vwk : Int32} {vdb : Int32} {vdn : Int32} {viv : Int32} {vqs : Int32} {vtr : Nat → Int32} {vak : Nat → Int32} {vwy : Nat → Int32} {vxe : Nat → Int32} {vsg : Nat → Int32} {u : (Int32) × (Int32) × (Int32) × (Int32) × (Int32) × (Int32) × (Int32) × (Int32) × (Int32) × (Nat → Int32) × (Nat → Int32) × (Nat → Int32) × (Nat → Int32) × (Nat → Int32)} (hk : YK vpo vgo vln vtr vwy vxe) (h : u = FX4_become tr ak wy xe sg vpo vco vgo vln vwk vdb vdn viv vqs vtr vak vwy vxe vsg) : YK u.1 u.2.2.1 u.2.2.2.1 u.2.2.2.2.2.2.2.2.2.1 u.2.2.2.2.2.2.2.2.2.2.2.1 u.2.2.2.2.2.2.2.2.2.2.2.2.1 := by
  rw [h]
  unfold FX4_become
  refine ⟨⟨hk.1.1, ⟨hk.1.2.1.1, ?_⟩, ?_⟩, hk.2.1, ?_⟩
  · dsimp only
    rw [ycnt_congr 20 (fun k hk => ycpy (f := vtr) k hk)]
    exact hk.1.2.1.2
  · intro k h40
    dsimp only
    rw [ycpy (f := vwy) k h40]
    exact hk.1.2.2 k h40
  · intro k h100
    dsimp only
    rw [ycpy (f := vxe) k h100]
    exact hk.2.2 k h100
theorem pX5_start {po : Int32} {go : Int32} {ln : Int32} {dn : Int32} {tr : Nat → Int32} {ak : Nat → Int32} {g : Int32} {wy xe : Nat → Int32} {u : (Int32) × (Int32) × (Int32) × (Nat → Int32) × (Nat → Int32)} (hk : YK po go ln tr wy xe) (hg : 0 ≤ g.toInt ∧ g.toInt < 10) (h : u = FX5_start po go ln dn tr ak g) : YK po u.1 u.2.1 u.2.2.2.1 wy xe := by
  rw [h]
  unfold FX5_start
  by_cases c : g = po
  · rw [if_pos c]; exact hk
  · rw [if_neg c]
    refine ⟨⟨hk.1.1, ?_, hk.1.2.2⟩, Or.inr hg, hk.2.2⟩
    show 0 ≤ (0 : Int32).toInt ∧ (0 : Int32).toInt ≤ _
    rw [show (0 : Int32).toInt = 0 from rfl]
    omega
def FX5_walkTo (pl : Int32) (ex : Nat → Int32) (rd : Nat → Int32) (tt : Nat → Int32) (ml : Nat → Int32) (cz : Nat → Int32) (sh : Nat → Int32) (fa : Nat → Int32) (po : Int32) (co : Int32) (go : Int32) (ln : Int32) (wk : Int32) (db : Int32) (dn : Int32) (iv : Int32) (qs : Int32) (tr : Nat → Int32) (ak : Nat → Int32) (wy : Nat → Int32) (xe : Nat → Int32) (sg : Nat → Int32) (vtr : Nat → Int32) (vak : Nat → Int32) (vwy : Nat → Int32) (vxe : Nat → Int32) (vsg : Nat → Int32) (g : Int32) : Int32 × (Int32) × (Int32) × (Int32) × (Int32) × (Int32) × (Int32) × (Int32) × (Int32) × (Int32) × (Nat → Int32) × (Nat → Int32) × (Nat → Int32) × (Nat → Int32) × (Nat → Int32) × (Nat → Int32) :=
  xbind (FX4_become vtr vak vwy vxe vsg po co go ln wk db dn iv qs tr ak wy xe sg) (fun u1 => xbind (FX5_start u1.1 u1.2.2.1 u1.2.2.2.1 u1.2.2.2.2.2.2.1 u1.2.2.2.2.2.2.2.2.2.1 u1.2.2.2.2.2.2.2.2.2.2.1 g) (fun u5 => xbind2 (FX5_stepsOn pl ex rd tt ml cz sh fa u1.1 u1.2.1 u5.1 u5.2.1 u1.2.2.2.2.1 u1.2.2.2.2.2.1 u5.2.2.1 u1.2.2.2.2.2.2.2.1 u1.2.2.2.2.2.2.2.2.1 u5.2.2.2.1 u5.2.2.2.2 u1.2.2.2.2.2.2.2.2.2.2.2.1 u1.2.2.2.2.2.2.2.2.2.2.2.2.1 u1.2.2.2.2.2.2.2.2.2.2.2.2.2 9999) (fun r10 u9 => if u9.2.2.2.2.2.2.2.1 ≤ iv then ((u9.2.2.2.2.1 - wk, u9.1, u9.2.1, u9.2.2.1, u9.2.2.2.1, u9.2.2.2.2.1, u9.2.2.2.2.2.1, u9.2.2.2.2.2.2.1, u9.2.2.2.2.2.2.2.1, u9.2.2.2.2.2.2.2.2.1, u9.2.2.2.2.2.2.2.2.2.1, u9.2.2.2.2.2.2.2.2.2.2.1, u9.2.2.2.2.2.2.2.2.2.2.2.1, u9.2.2.2.2.2.2.2.2.2.2.2.2.1, u9.2.2.2.2.2.2.2.2.2.2.2.2.2.1, u9.2.2.2.2.2.2.2.2.2.2.2.2.2.2)) else (((-1), u9.1, u9.2.1, u9.2.2.1, u9.2.2.2.1, u9.2.2.2.2.1, u9.2.2.2.2.2.1, u9.2.2.2.2.2.2.1, u9.2.2.2.2.2.2.2.1, u9.2.2.2.2.2.2.2.2.1, u9.2.2.2.2.2.2.2.2.2.1, u9.2.2.2.2.2.2.2.2.2.2.1, u9.2.2.2.2.2.2.2.2.2.2.2.1, u9.2.2.2.2.2.2.2.2.2.2.2.2.1, u9.2.2.2.2.2.2.2.2.2.2.2.2.2.1, u9.2.2.2.2.2.2.2.2.2.2.2.2.2.2)))))
def FX5_wouldWalk (pl : Int32) (ex : Nat → Int32) (rd : Nat → Int32) (tt : Nat → Int32) (ml : Nat → Int32) (cz : Nat → Int32) (sh : Nat → Int32) (fa : Nat → Int32) (po : Int32) (co : Int32) (go : Int32) (ln : Int32) (wk : Int32) (db : Int32) (dn : Int32) (iv : Int32) (qs : Int32) (tr : Nat → Int32) (ak : Nat → Int32) (wy : Nat → Int32) (xe : Nat → Int32) (sg : Nat → Int32) (vpo : Int32) (vco : Int32) (vgo : Int32) (vln : Int32) (vwk : Int32) (vdb : Int32) (vdn : Int32) (viv : Int32) (vqs : Int32) (vtr : Nat → Int32) (vak : Nat → Int32) (vwy : Nat → Int32) (vxe : Nat → Int32) (vsg : Nat → Int32) (g : Int32) : Int32 × (Int32) × (Int32) × (Int32) × (Int32) × (Int32) × (Int32) × (Int32) × (Int32) × (Int32) × (Int32) × (Nat → Int32) × (Nat → Int32) × (Nat → Int32) × (Nat → Int32) × (Nat → Int32) × (Nat → Int32) :=
  xbind (FX5_isPlace pl g) (fun r2 => if r2 = 0 then (xbind2 (FX5_no 1) (fun r16 u15 => (r16, u15, vpo, vco, vgo, vln, vwk, vdb, vdn, viv, vqs, vtr, vak, vwy, vxe, vsg, fa))) else (if go = (-1) then (xbind2 (FX5_walkTo pl ex rd tt ml cz sh fa po co go ln wk db dn iv qs tr ak wy xe sg vtr vak vwy vxe vsg g) (fun r8 u7 => (r8, 0, u7.1, u7.2.1, u7.2.2.1, u7.2.2.2.1, u7.2.2.2.2.1, u7.2.2.2.2.2.1, u7.2.2.2.2.2.2.1, u7.2.2.2.2.2.2.2.1, u7.2.2.2.2.2.2.2.2.1, u7.2.2.2.2.2.2.2.2.2.1, u7.2.2.2.2.2.2.2.2.2.2.1, u7.2.2.2.2.2.2.2.2.2.2.2.1, u7.2.2.2.2.2.2.2.2.2.2.2.2.1, u7.2.2.2.2.2.2.2.2.2.2.2.2.2.1, u7.2.2.2.2.2.2.2.2.2.2.2.2.2.2))) else (xbind2 (FX5_no 2) (fun r12 u11 => (r12, u11, vpo, vco, vgo, vln, vwk, vdb, vdn, viv, vqs, vtr, vak, vwy, vxe, vsg, fa)))))
def LX5_helper_t (pl : Int32) (ex : Nat → Int32) (rd : Nat → Int32) (tt : Nat → Int32) (ml : Nat → Int32) (cz : Nat → Int32) (po : Int32) (co : Int32) (go : Int32) (ln : Int32) (wk : Int32) (db : Int32) (dn : Int32) (iv : Int32) (qs : Int32) (tr : Nat → Int32) (ak : Nat → Int32) (wy : Nat → Int32) (xe : Nat → Int32) (sg : Nat → Int32) (g : Int32) : Nat → Nat → (Int32) → (Int32) → (Int32) → (Int32) → (Int32) → (Int32) → (Int32) → (Int32) → (Int32) → (Int32) → (Int32) → (Nat → Int32) → (Nat → Int32) → (Nat → Int32) → (Nat → Int32) → (Nat → Int32) → (Nat → Int32) → (Nat → Int32) → (Int32) × (Int32) × (Int32) × (Int32) × (Int32) × (Int32) × (Int32) × (Int32) × (Int32) × (Int32) × (Int32) × (Nat → Int32) × (Nat → Int32) × (Nat → Int32) × (Nat → Int32) × (Nat → Int32) × (Nat → Int32) × (Nat → Int32)
  | 0, i, bt, lst, vpo, vco, vgo, vln, vwk, vdb, vdn, viv, vqs, vtr, vak, vwy, vxe, vsg, fa, sh => (bt, lst, vpo, vco, vgo, vln, vwk, vdb, vdn, viv, vqs, vtr, vak, vwy, vxe, vsg, fa, sh)
  | n + 1, i, bt, lst, vpo, vco, vgo, vln, vwk, vdb, vdn, viv, vqs, vtr, vak, vwy, vxe, vsg, fa, sh =>
    if pl ≤ (nI i) then ((bt, lst, vpo, vco, vgo, vln, vwk, vdb, vdn, viv, vqs, vtr, vak, vwy, vxe, vsg, fa, sh)) else (if (sh (nI i).toNatClampNeg) = 0 then (xbind2 (FX5_walkTo pl ex rd tt ml cz (upd sh (nI i).toNatClampNeg 1) fa po co go ln wk db dn iv qs tr ak wy xe sg vtr vak vwy vxe vsg g) (fun r9 u8 => if r9 = (-1) then (LX5_helper_t pl ex rd tt ml cz po co go ln wk db dn iv qs tr ak wy xe sg g n (i + 1) bt lst u8.1 u8.2.1 u8.2.2.1 u8.2.2.2.1 u8.2.2.2.2.1 u8.2.2.2.2.2.1 u8.2.2.2.2.2.2.1 u8.2.2.2.2.2.2.2.1 u8.2.2.2.2.2.2.2.2.1 u8.2.2.2.2.2.2.2.2.2.1 u8.2.2.2.2.2.2.2.2.2.2.1 u8.2.2.2.2.2.2.2.2.2.2.2.1 u8.2.2.2.2.2.2.2.2.2.2.2.2.1 u8.2.2.2.2.2.2.2.2.2.2.2.2.2.1 u8.2.2.2.2.2.2.2.2.2.2.2.2.2.2 (upd (upd sh (nI i).toNatClampNeg 1) (nI i).toNatClampNeg 0)) else (if r9 < lst then (LX5_helper_t pl ex rd tt ml cz po co go ln wk db dn iv qs tr ak wy xe sg g n (i + 1) (nI i) r9 u8.1 u8.2.1 u8.2.2.1 u8.2.2.2.1 u8.2.2.2.2.1 u8.2.2.2.2.2.1 u8.2.2.2.2.2.2.1 u8.2.2.2.2.2.2.2.1 u8.2.2.2.2.2.2.2.2.1 u8.2.2.2.2.2.2.2.2.2.1 u8.2.2.2.2.2.2.2.2.2.2.1 u8.2.2.2.2.2.2.2.2.2.2.2.1 u8.2.2.2.2.2.2.2.2.2.2.2.2.1 u8.2.2.2.2.2.2.2.2.2.2.2.2.2.1 u8.2.2.2.2.2.2.2.2.2.2.2.2.2.2 (upd (upd sh (nI i).toNatClampNeg 1) (nI i).toNatClampNeg 0)) else (LX5_helper_t pl ex rd tt ml cz po co go ln wk db dn iv qs tr ak wy xe sg g n (i + 1) bt lst u8.1 u8.2.1 u8.2.2.1 u8.2.2.2.1 u8.2.2.2.2.1 u8.2.2.2.2.2.1 u8.2.2.2.2.2.2.1 u8.2.2.2.2.2.2.2.1 u8.2.2.2.2.2.2.2.2.1 u8.2.2.2.2.2.2.2.2.2.1 u8.2.2.2.2.2.2.2.2.2.2.1 u8.2.2.2.2.2.2.2.2.2.2.2.1 u8.2.2.2.2.2.2.2.2.2.2.2.2.1 u8.2.2.2.2.2.2.2.2.2.2.2.2.2.1 u8.2.2.2.2.2.2.2.2.2.2.2.2.2.2 (upd (upd sh (nI i).toNatClampNeg 1) (nI i).toNatClampNeg 0))))) else (LX5_helper_t pl ex rd tt ml cz po co go ln wk db dn iv qs tr ak wy xe sg g n (i + 1) bt lst vpo vco vgo vln vwk vdb vdn viv vqs vtr vak vwy vxe vsg fa sh))
def FX5_helper (pl : Int32) (ex : Nat → Int32) (rd : Nat → Int32) (tt : Nat → Int32) (ml : Nat → Int32) (cz : Nat → Int32) (sh : Nat → Int32) (fa : Nat → Int32) (po : Int32) (co : Int32) (go : Int32) (ln : Int32) (wk : Int32) (db : Int32) (dn : Int32) (iv : Int32) (qs : Int32) (tr : Nat → Int32) (ak : Nat → Int32) (wy : Nat → Int32) (xe : Nat → Int32) (sg : Nat → Int32) (vtr : Nat → Int32) (vak : Nat → Int32) (vwy : Nat → Int32) (vxe : Nat → Int32) (vsg : Nat → Int32) (g : Int32) : Int32 × (Int32) × (Int32) × (Int32) × (Int32) × (Int32) × (Int32) × (Int32) × (Int32) × (Int32) × (Nat → Int32) × (Nat → Int32) × (Nat → Int32) × (Nat → Int32) × (Nat → Int32) × (Nat → Int32) × (Nat → Int32) :=
  xbind2 (FX5_walkTo pl ex rd tt ml cz sh fa po co go ln wk db dn iv qs tr ak wy xe sg vtr vak vwy vxe vsg g) (fun r2 u1 => if r2 = (-1) then (xbind (LX5_helper_t pl ex rd tt ml cz po co go ln wk db dn iv qs tr ak wy xe sg g 11 0 (-1) 9999 u1.1 u1.2.1 u1.2.2.1 u1.2.2.2.1 u1.2.2.2.2.1 u1.2.2.2.2.2.1 u1.2.2.2.2.2.2.1 u1.2.2.2.2.2.2.2.1 u1.2.2.2.2.2.2.2.2.1 u1.2.2.2.2.2.2.2.2.2.1 u1.2.2.2.2.2.2.2.2.2.2.1 u1.2.2.2.2.2.2.2.2.2.2.2.1 u1.2.2.2.2.2.2.2.2.2.2.2.2.1 u1.2.2.2.2.2.2.2.2.2.2.2.2.2.1 u1.2.2.2.2.2.2.2.2.2.2.2.2.2.2 sh) (fun z16 => (z16.1, z16.2.2.1, z16.2.2.2.1, z16.2.2.2.2.1, z16.2.2.2.2.2.1, z16.2.2.2.2.2.2.1, z16.2.2.2.2.2.2.2.1, z16.2.2.2.2.2.2.2.2.1, z16.2.2.2.2.2.2.2.2.2.1, z16.2.2.2.2.2.2.2.2.2.2.1, z16.2.2.2.2.2.2.2.2.2.2.2.1, z16.2.2.2.2.2.2.2.2.2.2.2.2.1, z16.2.2.2.2.2.2.2.2.2.2.2.2.2.1, z16.2.2.2.2.2.2.2.2.2.2.2.2.2.2.1, z16.2.2.2.2.2.2.2.2.2.2.2.2.2.2.2.1, z16.2.2.2.2.2.2.2.2.2.2.2.2.2.2.2.2.1, z16.2.2.2.2.2.2.2.2.2.2.2.2.2.2.2.2.2))) else (xbind (LX5_helper_t pl ex rd tt ml cz po co go ln wk db dn iv qs tr ak wy xe sg g 11 0 (-1) r2 u1.1 u1.2.1 u1.2.2.1 u1.2.2.2.1 u1.2.2.2.2.1 u1.2.2.2.2.2.1 u1.2.2.2.2.2.2.1 u1.2.2.2.2.2.2.2.1 u1.2.2.2.2.2.2.2.2.1 u1.2.2.2.2.2.2.2.2.2.1 u1.2.2.2.2.2.2.2.2.2.2.1 u1.2.2.2.2.2.2.2.2.2.2.2.1 u1.2.2.2.2.2.2.2.2.2.2.2.2.1 u1.2.2.2.2.2.2.2.2.2.2.2.2.2.1 u1.2.2.2.2.2.2.2.2.2.2.2.2.2.2 sh) (fun z14 => (z14.1, z14.2.2.1, z14.2.2.2.1, z14.2.2.2.2.1, z14.2.2.2.2.2.1, z14.2.2.2.2.2.2.1, z14.2.2.2.2.2.2.2.1, z14.2.2.2.2.2.2.2.2.1, z14.2.2.2.2.2.2.2.2.2.1, z14.2.2.2.2.2.2.2.2.2.2.1, z14.2.2.2.2.2.2.2.2.2.2.2.1, z14.2.2.2.2.2.2.2.2.2.2.2.2.1, z14.2.2.2.2.2.2.2.2.2.2.2.2.2.1, z14.2.2.2.2.2.2.2.2.2.2.2.2.2.2.1, z14.2.2.2.2.2.2.2.2.2.2.2.2.2.2.2.1, z14.2.2.2.2.2.2.2.2.2.2.2.2.2.2.2.2.1, z14.2.2.2.2.2.2.2.2.2.2.2.2.2.2.2.2.2))))
def FX5_bestShepherd (pl : Int32) (ex : Nat → Int32) (rd : Nat → Int32) (tt : Nat → Int32) (ml : Nat → Int32) (cz : Nat → Int32) (sh : Nat → Int32) (fa : Nat → Int32) (po : Int32) (co : Int32) (go : Int32) (ln : Int32) (wk : Int32) (db : Int32) (dn : Int32) (iv : Int32) (qs : Int32) (tr : Nat → Int32) (ak : Nat → Int32) (wy : Nat → Int32) (xe : Nat → Int32) (sg : Nat → Int32) (vpo : Int32) (vco : Int32) (vgo : Int32) (vln : Int32) (vwk : Int32) (vdb : Int32) (vdn : Int32) (viv : Int32) (vqs : Int32) (vtr : Nat → Int32) (vak : Nat → Int32) (vwy : Nat → Int32) (vxe : Nat → Int32) (vsg : Nat → Int32) (g : Int32) : Int32 × (Int32) × (Int32) × (Int32) × (Int32) × (Int32) × (Int32) × (Int32) × (Int32) × (Int32) × (Int32) × (Nat → Int32) × (Nat → Int32) × (Nat → Int32) × (Nat → Int32) × (Nat → Int32) × (Nat → Int32) × (Nat → Int32) :=
  xbind (FX5_isPlace pl g) (fun r2 => if r2 = 0 then (xbind2 (FX5_no 1) (fun r16 u15 => (r16, u15, vpo, vco, vgo, vln, vwk, vdb, vdn, viv, vqs, vtr, vak, vwy, vxe, vsg, fa, sh))) else (if go = (-1) then (xbind2 (FX5_helper pl ex rd tt ml cz sh fa po co go ln wk db dn iv qs tr ak wy xe sg vtr vak vwy vxe vsg g) (fun r8 u7 => (r8, 0, u7.1, u7.2.1, u7.2.2.1, u7.2.2.2.1, u7.2.2.2.2.1, u7.2.2.2.2.2.1, u7.2.2.2.2.2.2.1, u7.2.2.2.2.2.2.2.1, u7.2.2.2.2.2.2.2.2.1, u7.2.2.2.2.2.2.2.2.2.1, u7.2.2.2.2.2.2.2.2.2.2.1, u7.2.2.2.2.2.2.2.2.2.2.2.1, u7.2.2.2.2.2.2.2.2.2.2.2.2.1, u7.2.2.2.2.2.2.2.2.2.2.2.2.2.1, u7.2.2.2.2.2.2.2.2.2.2.2.2.2.2.1, u7.2.2.2.2.2.2.2.2.2.2.2.2.2.2.2))) else (xbind2 (FX5_no 2) (fun r12 u11 => (r12, u11, vpo, vco, vgo, vln, vwk, vdb, vdn, viv, vqs, vtr, vak, vwy, vxe, vsg, fa, sh)))))
/-! out of 36.dlinks.lean.txt -/
/-! out of 37.refdigest.lean.txt -/
theorem ybnd {ex : Nat → Int32} {q : Int32} (hex4 : ∀ k, k < 10 → 0 ≤ (ex k).toInt ∧ (ex k).toInt ≤ 4) (hq : 0 ≤ q.toInt ∧ q.toInt < 10) : (4 * q + ex q.toNatClampNeg).toInt = 4 * q.toInt + (ex q.toNatClampNeg).toInt := by
  have h4 := hex4 _ (xcl hq)
  obtain ⟨j, h1, h2, h3⟩ := xofI hq.1
  obtain ⟨k, k1, k2, k3⟩ := xofI h4.1
  rw [k3]
  rw [k2, h2, show (4 : Int32) = nI 4 from rfl, pk_mul, nI_add, nI_toInt (by omega), nI_toInt (by omega)]
  omega
theorem ybi {ex : Nat → Int32} {q : Int32} {i : Nat} (hex4 : ∀ k, k < 10 → 0 ≤ (ex k).toInt ∧ (ex k).toInt ≤ 4) (hq : 0 ≤ q.toInt ∧ q.toInt < 10) (hlo : ((i : Nat) : Int) ≤ (4 * q + ex q.toNatClampNeg : Int32).toInt) (h : ¬ 4 * q + ex q.toNatClampNeg ≤ nI i) : 0 ≤ (nI i).toInt ∧ (nI i).toInt < 40 := by
  have h2 := xlt2 hlo h
  have h4 := hex4 _ (xcl hq)
  rw [ybnd hex4 hq] at h2
  omega
theorem y4i (i : Nat) : 4 * nI i = nI (4 * i) := by rw [show (4 : Int32) = nI 4 from rfl, pk_mul]
def LX5_digest_a (da : Nat → Int32) : Nat → Nat → (Int64) → (Int64)
  | 0, i, d => d
  | n + 1, i, d =>
    if 10 ≤ (nI i) then (d) else (LX5_digest_a da n (i + 1) ((d * 31) + ((da (nI i).toNatClampNeg).toInt64)))
def LX5_digest_e (ex : Nat → Int32) (rd : Nat → Int32) (tt : Nat → Int32) (ml : Nat → Int32) (cz : Nat → Int32) (tr : Nat → Int32) (pp : Int32) : Nat → Nat → (Int64) → (Int64)
  | 0, i, d => d
  | n + 1, i, d =>
    if ((4 * pp) + (ex pp.toNatClampNeg)) ≤ (nI i) then (d) else (if (cz (rd (nI i).toNatClampNeg).toNatClampNeg) = 0 then (xbind (FX5_one 1) (fun r21 => xbind (FX5_one (tr (rd (nI i).toNatClampNeg).toNatClampNeg)) (fun r25 => LX5_digest_e ex rd tt ml cz tr pp n (i + 1) ((((((((d * 31) + ((tt (nI i).toNatClampNeg).toInt64)) * 31) + ((ml (rd (nI i).toNatClampNeg).toNatClampNeg).toInt64)) * 31) + r21.toInt64) * 31) + r25.toInt64)))) else (xbind (FX5_one 0) (fun r13 => xbind (FX5_one (tr (rd (nI i).toNatClampNeg).toNatClampNeg)) (fun r17 => LX5_digest_e ex rd tt ml cz tr pp n (i + 1) ((((((((d * 31) + ((tt (nI i).toNatClampNeg).toInt64)) * 31) + ((ml (rd (nI i).toNatClampNeg).toNatClampNeg).toInt64)) * 31) + r13.toInt64) * 31) + r17.toInt64)))))
def LX5_digest_p (pl : Int32) (ex : Nat → Int32) (rd : Nat → Int32) (tt : Nat → Int32) (ml : Nat → Int32) (cz : Nat → Int32) (sh : Nat → Int32) (tr : Nat → Int32) : Nat → Nat → (Int64) → (Int64)
  | 0, i, d => d
  | n + 1, i, d =>
    if pl ≤ (nI i) then (d) else (xbind (FX5_one (sh (nI i).toNatClampNeg)) (fun r7 => xbind (LX5_digest_e ex rd tt ml cz tr (nI i) 5 (4 * i) ((((d * 31) + r7.toInt64) * 31) + ((ex (nI i).toNatClampNeg).toInt64))) (fun z10 => LX5_digest_p pl ex rd tt ml cz sh tr n (i + 1) z10)))
def LX5_digest_q (pl : Int32) (xe : Nat → Int32) (sg : Nat → Int32) (gg : Int32) : Nat → Nat → (Int64) → (Int64)
  | 0, i, d => d
  | n + 1, i, d =>
    if pl ≤ (nI i) then (d) else (xbind (FX5_strengthOf xe sg ((10 * gg) + (nI i))) (fun r17 => LX5_digest_q pl xe sg gg n (i + 1) ((((d * 31) + ((xe ((10 * gg) + (nI i)).toNatClampNeg).toInt64)) * 31) + r17.toInt64)))
def LX5_digest_g (pl : Int32) (xe : Nat → Int32) (sg : Nat → Int32) : Nat → Nat → (Int64) → (Int64)
  | 0, i, d => d
  | n + 1, i, d =>
    if pl ≤ (nI i) then (d) else (xbind (LX5_digest_q pl xe sg (nI i) 11 0 d) (fun z15 => LX5_digest_g pl xe sg n (i + 1) z15))
def FX5_digest (pl : Int32) (ex : Nat → Int32) (rd : Nat → Int32) (tt : Nat → Int32) (ml : Nat → Int32) (cz : Nat → Int32) (sh : Nat → Int32) (po : Int32) (co : Int32) (go : Int32) (ln : Int32) (wk : Int32) (db : Int32) (dn : Int32) (iv : Int32) (qs : Int32) (tr : Nat → Int32) (xe : Nat → Int32) (sg : Nat → Int32) : Int64 × (Int32) :=
  xbind (LX5_digest_a (upd (upd (upd (upd (upd (upd (upd (upd (upd (upd (fun _ => 0) (0 : Int32).toNatClampNeg pl) (1 : Int32).toNatClampNeg po) (2 : Int32).toNatClampNeg co) (3 : Int32).toNatClampNeg go) (4 : Int32).toNatClampNeg ln) (5 : Int32).toNatClampNeg wk) (6 : Int32).toNatClampNeg db) (7 : Int32).toNatClampNeg dn) (8 : Int32).toNatClampNeg iv) (9 : Int32).toNatClampNeg qs) 11 0 1873) (fun z3 => xbind (LX5_digest_p pl ex rd tt ml cz sh tr 11 0 z3) (fun z12 => xbind (LX5_digest_g pl xe sg 11 0 z12) (fun z17 => (z17, 0))))
/-! out of 38.clinks.lean.txt -/
/-! out of 39.refctors.lean.txt -/
def LX4_init_t : Nat → Nat → (Nat → Int32) → (Nat → Int32)
  | 0, i, xe => xe
  | n + 1, i, xe =>
    if 100 ≤ (nI i) then (xe) else (LX4_init_t n (i + 1) (upd xe (nI i).toNatClampNeg (-1)))
/-! out of 40.lawkit.lean.txt -/
def yc1 {γ : Type} (a : Nat × Unit) (h : Nat → γ) (b : γ) : γ := if a.1 = 0 then b else h a.1
def yc2 {α γ : Type} (a : Nat × α) (h : Nat → γ) (f : α → γ) : γ := if a.1 = 0 then f a.2 else h a.1
def yc3 {α β γ : Type} (a : Nat × α × β) (h : Nat → γ) (f : α → β → γ) : γ := if a.1 = 0 then f a.2.1 a.2.2 else h a.1
theorem yt1 {γ : Type} {a : Nat × Unit} {h : Nat → γ} {b c : γ} (hp : a.1 = 0) (e : b = c) : yc1 a h b = c := by rw [yc1, if_pos hp]; exact e
theorem yt2 {α γ : Type} {a : Nat × α} {h : Nat → γ} {f : α → γ} {r : α} {c : γ} (hp : a.1 = 0 ∧ r = a.2) (e : f r = c) : yc2 a h f = c := by rw [yc2, if_pos hp.1, ← hp.2]; exact e
theorem yt3 {α β γ : Type} {a : Nat × α × β} {h : Nat → γ} {f : α → β → γ} {r : α} {u : β} {c : γ} (hp : a.1 = 0 ∧ r = a.2.1 ∧ u = a.2.2) (e : f r u = c) : yc3 a h f = c := by rw [yc3, if_pos hp.1, ← hp.2.1, ← hp.2.2]; exact e
theorem yh1 {γ : Type} {a : Nat × Unit} {h : Nat → γ} {b c : γ} {k : Nat} (hp : a.1 = k) (h0 : k ≠ 0) (e : h k = c) : yc1 a h b = c := by rw [yc1, if_neg (by rw [hp]; exact h0), hp]; exact e
theorem yh2 {α γ : Type} {a : Nat × α} {h : Nat → γ} {f : α → γ} {c : γ} {k : Nat} (hp : a.1 = k) (h0 : k ≠ 0) (e : h k = c) : yc2 a h f = c := by rw [yc2, if_neg (by rw [hp]; exact h0), hp]; exact e
theorem yh3 {α β γ : Type} {a : Nat × α × β} {h : Nat → γ} {f : α → β → γ} {c : γ} {k : Nat} (hp : a.1 = k) (h0 : k ≠ 0) (e : h k = c) : yc3 a h f = c := by rw [yc3, if_neg (by rw [hp]; exact h0), hp]; exact e
theorem ycase {E : String} (h : xcode E ≠ 0) : E = xIO ∨ E = xIA ∨ E = xIS := by
  unfold xcode at h
  by_cases h1 : E = xIO
  · exact Or.inl h1
  · by_cases h2 : E = xIA
    · exact Or.inr (Or.inl h2)
    · by_cases h3 : E = xIS
      · exact Or.inr (Or.inr h3)
      · rw [if_neg h1, if_neg h2, if_neg h3] at h; exact absurd rfl h
/-! out of 41.wlinks.lean.txt -/
/-! out of 42.wraps.lean.txt -/
def FL_addRoad (pl : Int32) (ex : Nat → Int32) (ld : Nat → Int32) (tw : Nat → Int32) (le : Nat → Int32) (op : Nat → Int32) (a : Int32) (b : Int32) (n : Int32) (ot : Nat → Int64) : Int32 × (Nat → Int32) × (Nat → Int32) × (Nat → Int32) × (Nat → Int32) × (Nat → Int32) × (Nat → Int64) :=
  yc3 (FX3_addRoad pl ex ld tw le op a b n) (fun k => if k = 1 then ((1, ex, ld, tw, le, op, ot)) else if k = 2 then ((2, ex, ld, tw, le, op, ot)) else ((3, ex, ld, tw, le, op, ot))) (fun r2 u1 => (0, u1.1, u1.2.1, u1.2.2.1, u1.2.2.2.1, u1.2.2.2.2, vp_updL ot (0 : Int32).toNatClampNeg r2.toInt64))
/-! out of 43.codes.lean.txt -/
def PC {γ : Type} (k1 k2 : Nat) (z : Nat × γ) : Prop := z.1 = 0 ∨ z.1 = k1 ∨ z.1 = k2
theorem pcL {γ : Type} {k1 k2 : Nat} {z : Nat × γ} (h : PC k1 k1 z) : PC k1 k2 z := by
  rcases h with h | h | h
  · exact Or.inl h
  · exact Or.inr (Or.inl h)
  · exact Or.inr (Or.inl h)
theorem pcR {γ : Type} {k1 k2 : Nat} {z : Nat × γ} (h : PC k2 k2 z) : PC k1 k2 z := by
  rcases h with h | h | h
  · exact Or.inl h
  · exact Or.inr (Or.inr h)
  · exact Or.inr (Or.inr h)
theorem pc1 {γ : Type} {k1 k2 : Nat} {a : Nat × Unit} {d : γ} {b : Nat × γ} (ha : PC k1 k2 a) (hb : PC k1 k2 b) : PC k1 k2 (xbt1 a d b) := by
  unfold xbt1
  split
  · exact hb
  · exact ha
theorem pc2 {α γ : Type} {k1 k2 : Nat} {a : Nat × α} {d : γ} {f : α → Nat × γ} (ha : PC k1 k2 a) (hb : ∀ r, PC k1 k2 (f r)) : PC k1 k2 (xbt2 a d f) := by
  unfold xbt2
  split
  · exact hb _
  · exact ha
theorem pc3 {α β γ : Type} {k1 k2 : Nat} {a : Nat × α × β} {d : γ} {f : α → β → Nat × γ} (ha : PC k1 k2 a) (hb : ∀ r u, PC k1 k2 (f r u)) : PC k1 k2 (xbt3 a d f) := by
  unfold xbt3
  split
  · exact hb _ _
  · exact ha
theorem pcb {α γ : Type} {k1 k2 : Nat} {a : α} {f : α → Nat × γ} (hb : ∀ r, PC k1 k2 (f r)) : PC k1 k2 (xbind a f) := hb _
theorem pcb2 {α β γ : Type} {k1 k2 : Nat} {a : α × β} {f : α → β → Nat × γ} (hb : ∀ r u, PC k1 k2 (f r u)) : PC k1 k2 (xbind2 a f) := hb _ _
theorem pcz {γ : Type} {k1 k2 : Nat} {d : γ} : PC k1 k2 (0, d) := Or.inl rfl
theorem pck1 {γ : Type} {k1 k2 : Nat} {d : γ} : PC k1 k2 (k1, d) := Or.inr (Or.inl rfl)
theorem pck2 {γ : Type} {k1 k2 : Nat} {d : γ} : PC k1 k2 (k2, d) := Or.inr (Or.inr rfl)
theorem cdX3_checkPlace {pl : Int32} {q : Int32} : PC 1 1 (FX3_checkPlace pl q) := by
  unfold FX3_checkPlace
  repeat' first | with_reducible refine pc1 ?_ ?_ | with_reducible refine pc2 ?_ (fun _ => ?_) | with_reducible refine pc3 ?_ (fun _ _ => ?_) | with_reducible refine pcb (fun _ => ?_) | with_reducible refine pcb2 (fun _ _ => ?_) | with_reducible refine xiteP (P := PC 1 1) (fun _ => ?_) (fun _ => ?_)
  all_goals first | with_reducible exact pcz | with_reducible exact pck1 | with_reducible exact pck2
theorem cdX3_checkedEnd {pl : Int32} {ex : Nat → Int32} {q : Int32} {x : Int32} : PC 1 1 (FX3_checkedEnd pl ex q x) := by
  unfold FX3_checkedEnd
  repeat' first | with_reducible refine pc1 ?_ ?_ | with_reducible refine pc2 ?_ (fun _ => ?_) | with_reducible refine pc3 ?_ (fun _ _ => ?_) | with_reducible refine pcb (fun _ => ?_) | with_reducible refine pcb2 (fun _ _ => ?_) | with_reducible refine xiteP (P := PC 1 1) (fun _ => ?_) (fun _ => ?_)
  all_goals first | with_reducible exact pcz | with_reducible exact pck1 | with_reducible exact pck2 | with_reducible exact pcL cdX3_checkPlace | with_reducible exact pcR cdX3_checkPlace | with_reducible exact cdX3_checkPlace
theorem cdX3_checkRange {q : Int32} {x : Int32} : PC 2 2 (FX3_checkRange q x) := by
  unfold FX3_checkRange
  repeat' first | with_reducible refine pc1 ?_ ?_ | with_reducible refine pc2 ?_ (fun _ => ?_) | with_reducible refine pc3 ?_ (fun _ _ => ?_) | with_reducible refine pcb (fun _ => ?_) | with_reducible refine pcb2 (fun _ _ => ?_) | with_reducible refine xiteP (P := PC 2 2) (fun _ => ?_) (fun _ => ?_)
  all_goals first | with_reducible exact pcz | with_reducible exact pck1 | with_reducible exact pck2 | with_reducible exact pcL cdX3_checkPlace | with_reducible exact pcL cdX3_checkedEnd | with_reducible exact pcR cdX3_checkPlace | with_reducible exact pcR cdX3_checkedEnd | with_reducible exact cdX3_checkPlace | with_reducible exact cdX3_checkedEnd
theorem cdX3_checkIdle {go : Int32} : PC 3 3 (FX3_checkIdle go) := by
  unfold FX3_checkIdle
  repeat' first | with_reducible refine pc1 ?_ ?_ | with_reducible refine pc2 ?_ (fun _ => ?_) | with_reducible refine pc3 ?_ (fun _ _ => ?_) | with_reducible refine pcb (fun _ => ?_) | with_reducible refine pcb2 (fun _ _ => ?_) | with_reducible refine xiteP (P := PC 3 3) (fun _ => ?_) (fun _ => ?_)
  all_goals first | with_reducible exact pcz | with_reducible exact pck1 | with_reducible exact pck2 | with_reducible exact pcL cdX3_checkPlace | with_reducible exact pcL cdX3_checkedEnd | with_reducible exact pcL cdX3_checkRange | with_reducible exact pcR cdX3_checkPlace | with_reducible exact pcR cdX3_checkedEnd | with_reducible exact pcR cdX3_checkRange | with_reducible exact cdX3_checkPlace | with_reducible exact cdX3_checkedEnd | with_reducible exact cdX3_checkRange
theorem cdX3_checkUnderway {go : Int32} : PC 3 3 (FX3_checkUnderway go) := by
  unfold FX3_checkUnderway
  repeat' first | with_reducible refine pc1 ?_ ?_ | with_reducible refine pc2 ?_ (fun _ => ?_) | with_reducible refine pc3 ?_ (fun _ _ => ?_) | with_reducible refine pcb (fun _ => ?_) | with_reducible refine pcb2 (fun _ _ => ?_) | with_reducible refine xiteP (P := PC 3 3) (fun _ => ?_) (fun _ => ?_)
  all_goals first | with_reducible exact pcz | with_reducible exact pck1 | with_reducible exact pck2 | with_reducible exact pcL cdX3_checkPlace | with_reducible exact pcL cdX3_checkedEnd | with_reducible exact pcL cdX3_checkRange | with_reducible exact pcL cdX3_checkIdle | with_reducible exact pcR cdX3_checkPlace | with_reducible exact pcR cdX3_checkedEnd | with_reducible exact pcR cdX3_checkRange | with_reducible exact pcR cdX3_checkIdle | with_reducible exact cdX3_checkPlace | with_reducible exact cdX3_checkedEnd | with_reducible exact cdX3_checkRange | with_reducible exact cdX3_checkIdle
theorem cdX3_exitsOf {pl : Int32} {ex : Nat → Int32} {q : Int32} : PC 1 1 (FX3_exitsOf pl ex q) := by
  unfold FX3_exitsOf
  repeat' first | with_reducible refine pc1 ?_ ?_ | with_reducible refine pc2 ?_ (fun _ => ?_) | with_reducible refine pc3 ?_ (fun _ _ => ?_) | with_reducible refine pcb (fun _ => ?_) | with_reducible refine pcb2 (fun _ _ => ?_) | with_reducible refine xiteP (P := PC 1 1) (fun _ => ?_) (fun _ => ?_)
  all_goals first | with_reducible exact pcz | with_reducible exact pck1 | with_reducible exact pck2 | with_reducible exact pcL cdX3_checkPlace | with_reducible exact pcL cdX3_checkedEnd | with_reducible exact pcL cdX3_checkRange | with_reducible exact pcL cdX3_checkIdle | with_reducible exact pcL cdX3_checkUnderway | with_reducible exact pcR cdX3_checkPlace | with_reducible exact pcR cdX3_checkedEnd | with_reducible exact pcR cdX3_checkRange | with_reducible exact pcR cdX3_checkIdle | with_reducible exact pcR cdX3_checkUnderway | with_reducible exact cdX3_checkPlace | with_reducible exact cdX3_checkedEnd | with_reducible exact cdX3_checkRange | with_reducible exact cdX3_checkIdle | with_reducible exact cdX3_checkUnderway
theorem cdX3_hasShepherd {pl : Int32} {sh : Nat → Int32} {q : Int32} : PC 1 1 (FX3_hasShepherd pl sh q) := by
  unfold FX3_hasShepherd
  repeat' first | with_reducible refine pc1 ?_ ?_ | with_reducible refine pc2 ?_ (fun _ => ?_) | with_reducible refine pc3 ?_ (fun _ _ => ?_) | with_reducible refine pcb (fun _ => ?_) | with_reducible refine pcb2 (fun _ _ => ?_) | with_reducible refine xiteP (P := PC 1 1) (fun _ => ?_) (fun _ => ?_)
  all_goals first | with_reducible exact pcz | with_reducible exact pck1 | with_reducible exact pck2 | with_reducible exact pcL cdX3_checkPlace | with_reducible exact pcL cdX3_checkedEnd | with_reducible exact pcL cdX3_checkRange | with_reducible exact pcL cdX3_checkIdle | with_reducible exact pcL cdX3_checkUnderway | with_reducible exact pcL cdX3_exitsOf | with_reducible exact pcR cdX3_checkPlace | with_reducible exact pcR cdX3_checkedEnd | with_reducible exact pcR cdX3_checkRange | with_reducible exact pcR cdX3_checkIdle | with_reducible exact pcR cdX3_checkUnderway | with_reducible exact pcR cdX3_exitsOf | with_reducible exact cdX3_checkPlace | with_reducible exact cdX3_checkedEnd | with_reducible exact cdX3_checkRange | with_reducible exact cdX3_checkIdle | with_reducible exact cdX3_checkUnderway | with_reducible exact cdX3_exitsOf
theorem cdX3_leadsTo {pl : Int32} {ex : Nat → Int32} {ld : Nat → Int32} {q : Int32} {x : Int32} : PC 1 1 (FX3_leadsTo pl ex ld q x) := by
  unfold FX3_leadsTo
  repeat' first | with_reducible refine pc1 ?_ ?_ | with_reducible refine pc2 ?_ (fun _ => ?_) | with_reducible refine pc3 ?_ (fun _ _ => ?_) | with_reducible refine pcb (fun _ => ?_) | with_reducible refine pcb2 (fun _ _ => ?_) | with_reducible refine xiteP (P := PC 1 1) (fun _ => ?_) (fun _ => ?_)
  all_goals first | with_reducible exact pcz | with_reducible exact pck1 | with_reducible exact pck2 | with_reducible exact pcL cdX3_checkPlace | with_reducible exact pcL cdX3_checkedEnd | with_reducible exact pcL cdX3_checkRange | with_reducible exact pcL cdX3_checkIdle | with_reducible exact pcL cdX3_checkUnderway | with_reducible exact pcL cdX3_exitsOf | with_reducible exact pcL cdX3_hasShepherd | with_reducible exact pcR cdX3_checkPlace | with_reducible exact pcR cdX3_checkedEnd | with_reducible exact pcR cdX3_checkRange | with_reducible exact pcR cdX3_checkIdle | with_reducible exact pcR cdX3_checkUnderway | with_reducible exact pcR cdX3_exitsOf | with_reducible exact pcR cdX3_hasShepherd | with_reducible exact cdX3_checkPlace | with_reducible exact cdX3_checkedEnd | with_reducible exact cdX3_checkRange | with_reducible exact cdX3_checkIdle | with_reducible exact cdX3_checkUnderway | with_reducible exact cdX3_exitsOf | with_reducible exact cdX3_hasShepherd
theorem cdX3_milesOf {pl : Int32} {ex : Nat → Int32} {le : Nat → Int32} {q : Int32} {x : Int32} : PC 1 1 (FX3_milesOf pl ex le q x) := by
  unfold FX3_milesOf
  repeat' first | with_reducible refine pc1 ?_ ?_ | with_reducible refine pc2 ?_ (fun _ => ?_) | with_reducible refine pc3 ?_ (fun _ _ => ?_) | with_reducible refine pcb (fun _ => ?_) | with_reducible refine pcb2 (fun _ _ => ?_) | with_reducible refine xiteP (P := PC 1 1) (fun _ => ?_) (fun _ => ?_)
  all_goals first | with_reducible exact pcz | with_reducible exact pck1 | with_reducible exact pck2 | with_reducible exact pcL cdX3_checkPlace | with_reducible exact pcL cdX3_checkedEnd | with_reducible exact pcL cdX3_checkRange | with_reducible exact pcL cdX3_checkIdle | with_reducible exact pcL cdX3_checkUnderway | with_reducible exact pcL cdX3_exitsOf | with_reducible exact pcL cdX3_hasShepherd | with_reducible exact pcL cdX3_leadsTo | with_reducible exact pcR cdX3_checkPlace | with_reducible exact pcR cdX3_checkedEnd | with_reducible exact pcR cdX3_checkRange | with_reducible exact pcR cdX3_checkIdle | with_reducible exact pcR cdX3_checkUnderway | with_reducible exact pcR cdX3_exitsOf | with_reducible exact pcR cdX3_hasShepherd | with_reducible exact pcR cdX3_leadsTo | with_reducible exact cdX3_checkPlace | with_reducible exact cdX3_checkedEnd | with_reducible exact cdX3_checkRange | with_reducible exact cdX3_checkIdle | with_reducible exact cdX3_checkUnderway | with_reducible exact cdX3_exitsOf | with_reducible exact cdX3_hasShepherd | with_reducible exact cdX3_leadsTo
theorem cdX3_isOpen {pl : Int32} {ex : Nat → Int32} {op : Nat → Int32} {q : Int32} {x : Int32} : PC 1 1 (FX3_isOpen pl ex op q x) := by
  unfold FX3_isOpen
  repeat' first | with_reducible refine pc1 ?_ ?_ | with_reducible refine pc2 ?_ (fun _ => ?_) | with_reducible refine pc3 ?_ (fun _ _ => ?_) | with_reducible refine pcb (fun _ => ?_) | with_reducible refine pcb2 (fun _ _ => ?_) | with_reducible refine xiteP (P := PC 1 1) (fun _ => ?_) (fun _ => ?_)
  all_goals first | with_reducible exact pcz | with_reducible exact pck1 | with_reducible exact pck2 | with_reducible exact pcL cdX3_checkPlace | with_reducible exact pcL cdX3_checkedEnd | with_reducible exact pcL cdX3_checkRange | with_reducible exact pcL cdX3_checkIdle | with_reducible exact pcL cdX3_checkUnderway | with_reducible exact pcL cdX3_exitsOf | with_reducible exact pcL cdX3_hasShepherd | with_reducible exact pcL cdX3_leadsTo | with_reducible exact pcL cdX3_milesOf | with_reducible exact pcR cdX3_checkPlace | with_reducible exact pcR cdX3_checkedEnd | with_reducible exact pcR cdX3_checkRange | with_reducible exact pcR cdX3_checkIdle | with_reducible exact pcR cdX3_checkUnderway | with_reducible exact pcR cdX3_exitsOf | with_reducible exact pcR cdX3_hasShepherd | with_reducible exact pcR cdX3_leadsTo | with_reducible exact pcR cdX3_milesOf | with_reducible exact cdX3_checkPlace | with_reducible exact cdX3_checkedEnd | with_reducible exact cdX3_checkRange | with_reducible exact cdX3_checkIdle | with_reducible exact cdX3_checkUnderway | with_reducible exact cdX3_exitsOf | with_reducible exact cdX3_hasShepherd | with_reducible exact cdX3_leadsTo | with_reducible exact cdX3_milesOf
theorem cdX3_isTried {go : Int32} {tr : Nat → Int32} {pl : Int32} {ex : Nat → Int32} {q : Int32} {x : Int32} : PC 1 1 (FX3_isTried go tr pl ex q x) := by
  unfold FX3_isTried
  repeat' first | with_reducible refine pc1 ?_ ?_ | with_reducible refine pc2 ?_ (fun _ => ?_) | with_reducible refine pc3 ?_ (fun _ _ => ?_) | with_reducible refine pcb (fun _ => ?_) | with_reducible refine pcb2 (fun _ _ => ?_) | with_reducible refine xiteP (P := PC 1 1) (fun _ => ?_) (fun _ => ?_)
  all_goals first | with_reducible exact pcz | with_reducible exact pck1 | with_reducible exact pck2 | with_reducible exact pcL cdX3_checkPlace | with_reducible exact pcL cdX3_checkedEnd | with_reducible exact pcL cdX3_checkRange | with_reducible exact pcL cdX3_checkIdle | with_reducible exact pcL cdX3_checkUnderway | with_reducible exact pcL cdX3_exitsOf | with_reducible exact pcL cdX3_hasShepherd | with_reducible exact pcL cdX3_leadsTo | with_reducible exact pcL cdX3_milesOf | with_reducible exact pcL cdX3_isOpen | with_reducible exact pcR cdX3_checkPlace | with_reducible exact pcR cdX3_checkedEnd | with_reducible exact pcR cdX3_checkRange | with_reducible exact pcR cdX3_checkIdle | with_reducible exact pcR cdX3_checkUnderway | with_reducible exact pcR cdX3_exitsOf | with_reducible exact pcR cdX3_hasShepherd | with_reducible exact pcR cdX3_leadsTo | with_reducible exact pcR cdX3_milesOf | with_reducible exact pcR cdX3_isOpen | with_reducible exact cdX3_checkPlace | with_reducible exact cdX3_checkedEnd | with_reducible exact cdX3_checkRange | with_reducible exact cdX3_checkIdle | with_reducible exact cdX3_checkUnderway | with_reducible exact cdX3_exitsOf | with_reducible exact cdX3_hasShepherd | with_reducible exact cdX3_leadsTo | with_reducible exact cdX3_milesOf | with_reducible exact cdX3_isOpen
theorem cdX3_remembered {mx : Nat → Int32} {ms : Nat → Int32} {pl : Int32} {g : Int32} {q : Int32} : PC 1 1 (FX3_remembered mx ms pl g q) := by
  unfold FX3_remembered
  repeat' first | with_reducible refine pc1 ?_ ?_ | with_reducible refine pc2 ?_ (fun _ => ?_) | with_reducible refine pc3 ?_ (fun _ _ => ?_) | with_reducible refine pcb (fun _ => ?_) | with_reducible refine pcb2 (fun _ _ => ?_) | with_reducible refine xiteP (P := PC 1 1) (fun _ => ?_) (fun _ => ?_)
  all_goals first | with_reducible exact pcz | with_reducible exact pck1 | with_reducible exact pck2 | with_reducible exact pcL cdX3_checkPlace | with_reducible exact pcL cdX3_checkedEnd | with_reducible exact pcL cdX3_checkRange | with_reducible exact pcL cdX3_checkIdle | with_reducible exact pcL cdX3_checkUnderway | with_reducible exact pcL cdX3_exitsOf | with_reducible exact pcL cdX3_hasShepherd | with_reducible exact pcL cdX3_leadsTo | with_reducible exact pcL cdX3_milesOf | with_reducible exact pcL cdX3_isOpen | with_reducible exact pcL cdX3_isTried | with_reducible exact pcR cdX3_checkPlace | with_reducible exact pcR cdX3_checkedEnd | with_reducible exact pcR cdX3_checkRange | with_reducible exact pcR cdX3_checkIdle | with_reducible exact pcR cdX3_checkUnderway | with_reducible exact pcR cdX3_exitsOf | with_reducible exact pcR cdX3_hasShepherd | with_reducible exact pcR cdX3_leadsTo | with_reducible exact pcR cdX3_milesOf | with_reducible exact pcR cdX3_isOpen | with_reducible exact pcR cdX3_isTried | with_reducible exact cdX3_checkPlace | with_reducible exact cdX3_checkedEnd | with_reducible exact cdX3_checkRange | with_reducible exact cdX3_checkIdle | with_reducible exact cdX3_checkUnderway | with_reducible exact cdX3_exitsOf | with_reducible exact cdX3_hasShepherd | with_reducible exact cdX3_leadsTo | with_reducible exact cdX3_milesOf | with_reducible exact cdX3_isOpen | with_reducible exact cdX3_isTried
theorem cdX3_strength {ms : Nat → Int32} {pl : Int32} {g : Int32} {q : Int32} : PC 1 1 (FX3_strength ms pl g q) := by
  unfold FX3_strength
  repeat' first | with_reducible refine pc1 ?_ ?_ | with_reducible refine pc2 ?_ (fun _ => ?_) | with_reducible refine pc3 ?_ (fun _ _ => ?_) | with_reducible refine pcb (fun _ => ?_) | with_reducible refine pcb2 (fun _ _ => ?_) | with_reducible refine xiteP (P := PC 1 1) (fun _ => ?_) (fun _ => ?_)
  all_goals first | with_reducible exact pcz | with_reducible exact pck1 | with_reducible exact pck2 | with_reducible exact pcL cdX3_checkPlace | with_reducible exact pcL cdX3_checkedEnd | with_reducible exact pcL cdX3_checkRange | with_reducible exact pcL cdX3_checkIdle | with_reducible exact pcL cdX3_checkUnderway | with_reducible exact pcL cdX3_exitsOf | with_reducible exact pcL cdX3_hasShepherd | with_reducible exact pcL cdX3_leadsTo | with_reducible exact pcL cdX3_milesOf | with_reducible exact pcL cdX3_isOpen | with_reducible exact pcL cdX3_isTried | with_reducible exact pcL cdX3_remembered | with_reducible exact pcR cdX3_checkPlace | with_reducible exact pcR cdX3_checkedEnd | with_reducible exact pcR cdX3_checkRange | with_reducible exact pcR cdX3_checkIdle | with_reducible exact pcR cdX3_checkUnderway | with_reducible exact pcR cdX3_exitsOf | with_reducible exact pcR cdX3_hasShepherd | with_reducible exact pcR cdX3_leadsTo | with_reducible exact pcR cdX3_milesOf | with_reducible exact pcR cdX3_isOpen | with_reducible exact pcR cdX3_isTried | with_reducible exact pcR cdX3_remembered | with_reducible exact cdX3_checkPlace | with_reducible exact cdX3_checkedEnd | with_reducible exact cdX3_checkRange | with_reducible exact cdX3_checkIdle | with_reducible exact cdX3_checkUnderway | with_reducible exact cdX3_exitsOf | with_reducible exact cdX3_hasShepherd | with_reducible exact cdX3_leadsTo | with_reducible exact cdX3_milesOf | with_reducible exact cdX3_isOpen | with_reducible exact cdX3_isTried | with_reducible exact cdX3_remembered
theorem cdX3_distance {pl : Int32} {ld : Nat → Int32} {le : Nat → Int32} {op : Nat → Int32} {fa : Nat → Int32} {q : Int32} {g : Int32} : PC 1 1 (FX3_distance pl ld le op fa q g) := by
  unfold FX3_distance
  repeat' first | with_reducible refine pc1 ?_ ?_ | with_reducible refine pc2 ?_ (fun _ => ?_) | with_reducible refine pc3 ?_ (fun _ _ => ?_) | with_reducible refine pcb (fun _ => ?_) | with_reducible refine pcb2 (fun _ _ => ?_) | with_reducible refine xiteP (P := PC 1 1) (fun _ => ?_) (fun _ => ?_)
  all_goals first | with_reducible exact pcz | with_reducible exact pck1 | with_reducible exact pck2 | with_reducible exact pcL cdX3_checkPlace | with_reducible exact pcL cdX3_checkedEnd | with_reducible exact pcL cdX3_checkRange | with_reducible exact pcL cdX3_checkIdle | with_reducible exact pcL cdX3_checkUnderway | with_reducible exact pcL cdX3_exitsOf | with_reducible exact pcL cdX3_hasShepherd | with_reducible exact pcL cdX3_leadsTo | with_reducible exact pcL cdX3_milesOf | with_reducible exact pcL cdX3_isOpen | with_reducible exact pcL cdX3_isTried | with_reducible exact pcL cdX3_remembered | with_reducible exact pcL cdX3_strength | with_reducible exact pcR cdX3_checkPlace | with_reducible exact pcR cdX3_checkedEnd | with_reducible exact pcR cdX3_checkRange | with_reducible exact pcR cdX3_checkIdle | with_reducible exact pcR cdX3_checkUnderway | with_reducible exact pcR cdX3_exitsOf | with_reducible exact pcR cdX3_hasShepherd | with_reducible exact pcR cdX3_leadsTo | with_reducible exact pcR cdX3_milesOf | with_reducible exact pcR cdX3_isOpen | with_reducible exact pcR cdX3_isTried | with_reducible exact pcR cdX3_remembered | with_reducible exact pcR cdX3_strength | with_reducible exact cdX3_checkPlace | with_reducible exact cdX3_checkedEnd | with_reducible exact cdX3_checkRange | with_reducible exact cdX3_checkIdle | with_reducible exact cdX3_checkUnderway | with_reducible exact cdX3_exitsOf | with_reducible exact cdX3_hasShepherd | with_reducible exact cdX3_leadsTo | with_reducible exact cdX3_milesOf | with_reducible exact cdX3_isOpen | with_reducible exact cdX3_isTried | with_reducible exact cdX3_remembered | with_reducible exact cdX3_strength
theorem cdX3_knowsWay {po : Int32} {mx : Nat → Int32} {ms : Nat → Int32} {pl : Int32} {ex : Nat → Int32} {ld : Nat → Int32} {op : Nat → Int32} {g : Int32} : PC 1 1 (FX3_knowsWay po mx ms pl ex ld op g) := by
  unfold FX3_knowsWay
  repeat' first | with_reducible refine pc1 ?_ ?_ | with_reducible refine pc2 ?_ (fun _ => ?_) | with_reducible refine pc3 ?_ (fun _ _ => ?_) | with_reducible refine pcb (fun _ => ?_) | with_reducible refine pcb2 (fun _ _ => ?_) | with_reducible refine xiteP (P := PC 1 1) (fun _ => ?_) (fun _ => ?_)
  all_goals first | with_reducible exact pcz | with_reducible exact pck1 | with_reducible exact pck2 | with_reducible exact pcL cdX3_checkPlace | with_reducible exact pcL cdX3_checkedEnd | with_reducible exact pcL cdX3_checkRange | with_reducible exact pcL cdX3_checkIdle | with_reducible exact pcL cdX3_checkUnderway | with_reducible exact pcL cdX3_exitsOf | with_reducible exact pcL cdX3_hasShepherd | with_reducible exact pcL cdX3_leadsTo | with_reducible exact pcL cdX3_milesOf | with_reducible exact pcL cdX3_isOpen | with_reducible exact pcL cdX3_isTried | with_reducible exact pcL cdX3_remembered | with_reducible exact pcL cdX3_strength | with_reducible exact pcL cdX3_distance | with_reducible exact pcR cdX3_checkPlace | with_reducible exact pcR cdX3_checkedEnd | with_reducible exact pcR cdX3_checkRange | with_reducible exact pcR cdX3_checkIdle | with_reducible exact pcR cdX3_checkUnderway | with_reducible exact pcR cdX3_exitsOf | with_reducible exact pcR cdX3_hasShepherd | with_reducible exact pcR cdX3_leadsTo | with_reducible exact pcR cdX3_milesOf | with_reducible exact pcR cdX3_isOpen | with_reducible exact pcR cdX3_isTried | with_reducible exact pcR cdX3_remembered | with_reducible exact pcR cdX3_strength | with_reducible exact pcR cdX3_distance | with_reducible exact cdX3_checkPlace | with_reducible exact cdX3_checkedEnd | with_reducible exact cdX3_checkRange | with_reducible exact cdX3_checkIdle | with_reducible exact cdX3_checkUnderway | with_reducible exact cdX3_exitsOf | with_reducible exact cdX3_hasShepherd | with_reducible exact cdX3_leadsTo | with_reducible exact cdX3_milesOf | with_reducible exact cdX3_isOpen | with_reducible exact cdX3_isTried | with_reducible exact cdX3_remembered | with_reducible exact cdX3_strength | with_reducible exact cdX3_distance
theorem cdX3_addPlace {pl : Int32} : PC 3 3 (FX3_addPlace pl) := by
  unfold FX3_addPlace
  repeat' first | with_reducible refine pc1 ?_ ?_ | with_reducible refine pc2 ?_ (fun _ => ?_) | with_reducible refine pc3 ?_ (fun _ _ => ?_) | with_reducible refine pcb (fun _ => ?_) | with_reducible refine pcb2 (fun _ _ => ?_) | with_reducible refine xiteP (P := PC 3 3) (fun _ => ?_) (fun _ => ?_)
  all_goals first | with_reducible exact pcz | with_reducible exact pck1 | with_reducible exact pck2 | with_reducible exact pcL cdX3_checkPlace | with_reducible exact pcL cdX3_checkedEnd | with_reducible exact pcL cdX3_checkRange | with_reducible exact pcL cdX3_checkIdle | with_reducible exact pcL cdX3_checkUnderway | with_reducible exact pcL cdX3_exitsOf | with_reducible exact pcL cdX3_hasShepherd | with_reducible exact pcL cdX3_leadsTo | with_reducible exact pcL cdX3_milesOf | with_reducible exact pcL cdX3_isOpen | with_reducible exact pcL cdX3_isTried | with_reducible exact pcL cdX3_remembered | with_reducible exact pcL cdX3_strength | with_reducible exact pcL cdX3_distance | with_reducible exact pcL cdX3_knowsWay | with_reducible exact pcR cdX3_checkPlace | with_reducible exact pcR cdX3_checkedEnd | with_reducible exact pcR cdX3_checkRange | with_reducible exact pcR cdX3_checkIdle | with_reducible exact pcR cdX3_checkUnderway | with_reducible exact pcR cdX3_exitsOf | with_reducible exact pcR cdX3_hasShepherd | with_reducible exact pcR cdX3_leadsTo | with_reducible exact pcR cdX3_milesOf | with_reducible exact pcR cdX3_isOpen | with_reducible exact pcR cdX3_isTried | with_reducible exact pcR cdX3_remembered | with_reducible exact pcR cdX3_strength | with_reducible exact pcR cdX3_distance | with_reducible exact pcR cdX3_knowsWay | with_reducible exact cdX3_checkPlace | with_reducible exact cdX3_checkedEnd | with_reducible exact cdX3_checkRange | with_reducible exact cdX3_checkIdle | with_reducible exact cdX3_checkUnderway | with_reducible exact cdX3_exitsOf | with_reducible exact cdX3_hasShepherd | with_reducible exact cdX3_leadsTo | with_reducible exact cdX3_milesOf | with_reducible exact cdX3_isOpen | with_reducible exact cdX3_isTried | with_reducible exact cdX3_remembered | with_reducible exact cdX3_strength | with_reducible exact cdX3_distance | with_reducible exact cdX3_knowsWay
theorem cdX3_turnRoad {pl : Int32} {ex : Nat → Int32} {tw : Nat → Int32} {op : Nat → Int32} {q : Int32} {x : Int32} : PC 1 1 (FX3_turnRoad pl ex tw op q x) := by
  unfold FX3_turnRoad
  repeat' first | with_reducible refine pc1 ?_ ?_ | with_reducible refine pc2 ?_ (fun _ => ?_) | with_reducible refine pc3 ?_ (fun _ _ => ?_) | with_reducible refine pcb (fun _ => ?_) | with_reducible refine pcb2 (fun _ _ => ?_) | with_reducible refine xiteP (P := PC 1 1) (fun _ => ?_) (fun _ => ?_)
  all_goals first | with_reducible exact pcz | with_reducible exact pck1 | with_reducible exact pck2 | with_reducible exact pcL cdX3_checkPlace | with_reducible exact pcL cdX3_checkedEnd | with_reducible exact pcL cdX3_checkRange | with_reducible exact pcL cdX3_checkIdle | with_reducible exact pcL cdX3_checkUnderway | with_reducible exact pcL cdX3_exitsOf | with_reducible exact pcL cdX3_hasShepherd | with_reducible exact pcL cdX3_leadsTo | with_reducible exact pcL cdX3_milesOf | with_reducible exact pcL cdX3_isOpen | with_reducible exact pcL cdX3_isTried | with_reducible exact pcL cdX3_remembered | with_reducible exact pcL cdX3_strength | with_reducible exact pcL cdX3_distance | with_reducible exact pcL cdX3_knowsWay | with_reducible exact pcL cdX3_addPlace | with_reducible exact pcR cdX3_checkPlace | with_reducible exact pcR cdX3_checkedEnd | with_reducible exact pcR cdX3_checkRange | with_reducible exact pcR cdX3_checkIdle | with_reducible exact pcR cdX3_checkUnderway | with_reducible exact pcR cdX3_exitsOf | with_reducible exact pcR cdX3_hasShepherd | with_reducible exact pcR cdX3_leadsTo | with_reducible exact pcR cdX3_milesOf | with_reducible exact pcR cdX3_isOpen | with_reducible exact pcR cdX3_isTried | with_reducible exact pcR cdX3_remembered | with_reducible exact pcR cdX3_strength | with_reducible exact pcR cdX3_distance | with_reducible exact pcR cdX3_knowsWay | with_reducible exact pcR cdX3_addPlace | with_reducible exact cdX3_checkPlace | with_reducible exact cdX3_checkedEnd | with_reducible exact cdX3_checkRange | with_reducible exact cdX3_checkIdle | with_reducible exact cdX3_checkUnderway | with_reducible exact cdX3_exitsOf | with_reducible exact cdX3_hasShepherd | with_reducible exact cdX3_leadsTo | with_reducible exact cdX3_milesOf | with_reducible exact cdX3_isOpen | with_reducible exact cdX3_isTried | with_reducible exact cdX3_remembered | with_reducible exact cdX3_strength | with_reducible exact cdX3_distance | with_reducible exact cdX3_knowsWay | with_reducible exact cdX3_addPlace
theorem cdX3_turnShepherd {pl : Int32} {sh : Nat → Int32} {q : Int32} : PC 1 1 (FX3_turnShepherd pl sh q) := by
  unfold FX3_turnShepherd
  repeat' first | with_reducible refine pc1 ?_ ?_ | with_reducible refine pc2 ?_ (fun _ => ?_) | with_reducible refine pc3 ?_ (fun _ _ => ?_) | with_reducible refine pcb (fun _ => ?_) | with_reducible refine pcb2 (fun _ _ => ?_) | with_reducible refine xiteP (P := PC 1 1) (fun _ => ?_) (fun _ => ?_)
  all_goals first | with_reducible exact pcz | with_reducible exact pck1 | with_reducible exact pck2 | with_reducible exact pcL cdX3_checkPlace | with_reducible exact pcL cdX3_checkedEnd | with_reducible exact pcL cdX3_checkRange | with_reducible exact pcL cdX3_checkIdle | with_reducible exact pcL cdX3_checkUnderway | with_reducible exact pcL cdX3_exitsOf | with_reducible exact pcL cdX3_hasShepherd | with_reducible exact pcL cdX3_leadsTo | with_reducible exact pcL cdX3_milesOf | with_reducible exact pcL cdX3_isOpen | with_reducible exact pcL cdX3_isTried | with_reducible exact pcL cdX3_remembered | with_reducible exact pcL cdX3_strength | with_reducible exact pcL cdX3_distance | with_reducible exact pcL cdX3_knowsWay | with_reducible exact pcL cdX3_addPlace | with_reducible exact pcL cdX3_turnRoad | with_reducible exact pcR cdX3_checkPlace | with_reducible exact pcR cdX3_checkedEnd | with_reducible exact pcR cdX3_checkRange | with_reducible exact pcR cdX3_checkIdle | with_reducible exact pcR cdX3_checkUnderway | with_reducible exact pcR cdX3_exitsOf | with_reducible exact pcR cdX3_hasShepherd | with_reducible exact pcR cdX3_leadsTo | with_reducible exact pcR cdX3_milesOf | with_reducible exact pcR cdX3_isOpen | with_reducible exact pcR cdX3_isTried | with_reducible exact pcR cdX3_remembered | with_reducible exact pcR cdX3_strength | with_reducible exact pcR cdX3_distance | with_reducible exact pcR cdX3_knowsWay | with_reducible exact pcR cdX3_addPlace | with_reducible exact pcR cdX3_turnRoad | with_reducible exact cdX3_checkPlace | with_reducible exact cdX3_checkedEnd | with_reducible exact cdX3_checkRange | with_reducible exact cdX3_checkIdle | with_reducible exact cdX3_checkUnderway | with_reducible exact cdX3_exitsOf | with_reducible exact cdX3_hasShepherd | with_reducible exact cdX3_leadsTo | with_reducible exact cdX3_milesOf | with_reducible exact cdX3_isOpen | with_reducible exact cdX3_isTried | with_reducible exact cdX3_remembered | with_reducible exact cdX3_strength | with_reducible exact cdX3_distance | with_reducible exact cdX3_knowsWay | with_reducible exact cdX3_addPlace | with_reducible exact cdX3_turnRoad
theorem cdX3_pay {co : Int32} {nn : Int32} : PC 2 2 (FX3_pay co nn) := by
  unfold FX3_pay
  repeat' first | with_reducible refine pc1 ?_ ?_ | with_reducible refine pc2 ?_ (fun _ => ?_) | with_reducible refine pc3 ?_ (fun _ _ => ?_) | with_reducible refine pcb (fun _ => ?_) | with_reducible refine pcb2 (fun _ _ => ?_) | with_reducible refine xiteP (P := PC 2 2) (fun _ => ?_) (fun _ => ?_)
  all_goals first | with_reducible exact pcz | with_reducible exact pck1 | with_reducible exact pck2 | with_reducible exact pcL cdX3_checkPlace | with_reducible exact pcL cdX3_checkedEnd | with_reducible exact pcL cdX3_checkRange | with_reducible exact pcL cdX3_checkIdle | with_reducible exact pcL cdX3_checkUnderway | with_reducible exact pcL cdX3_exitsOf | with_reducible exact pcL cdX3_hasShepherd | with_reducible exact pcL cdX3_leadsTo | with_reducible exact pcL cdX3_milesOf | with_reducible exact pcL cdX3_isOpen | with_reducible exact pcL cdX3_isTried | with_reducible exact pcL cdX3_remembered | with_reducible exact pcL cdX3_strength | with_reducible exact pcL cdX3_distance | with_reducible exact pcL cdX3_knowsWay | with_reducible exact pcL cdX3_addPlace | with_reducible exact pcL cdX3_turnRoad | with_reducible exact pcL cdX3_turnShepherd | with_reducible exact pcR cdX3_checkPlace | with_reducible exact pcR cdX3_checkedEnd | with_reducible exact pcR cdX3_checkRange | with_reducible exact pcR cdX3_checkIdle | with_reducible exact pcR cdX3_checkUnderway | with_reducible exact pcR cdX3_exitsOf | with_reducible exact pcR cdX3_hasShepherd | with_reducible exact pcR cdX3_leadsTo | with_reducible exact pcR cdX3_milesOf | with_reducible exact pcR cdX3_isOpen | with_reducible exact pcR cdX3_isTried | with_reducible exact pcR cdX3_remembered | with_reducible exact pcR cdX3_strength | with_reducible exact pcR cdX3_distance | with_reducible exact pcR cdX3_knowsWay | with_reducible exact pcR cdX3_addPlace | with_reducible exact pcR cdX3_turnRoad | with_reducible exact pcR cdX3_turnShepherd | with_reducible exact cdX3_checkPlace | with_reducible exact cdX3_checkedEnd | with_reducible exact cdX3_checkRange | with_reducible exact cdX3_checkIdle | with_reducible exact cdX3_checkUnderway | with_reducible exact cdX3_exitsOf | with_reducible exact cdX3_hasShepherd | with_reducible exact cdX3_leadsTo | with_reducible exact cdX3_milesOf | with_reducible exact cdX3_isOpen | with_reducible exact cdX3_isTried | with_reducible exact cdX3_remembered | with_reducible exact cdX3_strength | with_reducible exact cdX3_distance | with_reducible exact cdX3_knowsWay | with_reducible exact cdX3_addPlace | with_reducible exact cdX3_turnRoad | with_reducible exact cdX3_turnShepherd
theorem cdX3_beginErrand {po : Int32} {go : Int32} {wl : Int32} {dn : Int32} {tr : Nat → Int32} {ak : Nat → Int32} {pl : Int32} {ld : Nat → Int32} {le : Nat → Int32} {op : Nat → Int32} {fa : Nat → Int32} {g : Int32} : PC 1 3 (FX3_beginErrand po go wl dn tr ak pl ld le op fa g) := by
  unfold FX3_beginErrand
  repeat' first | with_reducible refine pc1 ?_ ?_ | with_reducible refine pc2 ?_ (fun _ => ?_) | with_reducible refine pc3 ?_ (fun _ _ => ?_) | with_reducible refine pcb (fun _ => ?_) | with_reducible refine pcb2 (fun _ _ => ?_) | with_reducible refine xiteP (P := PC 1 3) (fun _ => ?_) (fun _ => ?_)
  all_goals first | with_reducible exact pcz | with_reducible exact pck1 | with_reducible exact pck2 | with_reducible exact pcL cdX3_checkPlace | with_reducible exact pcL cdX3_checkedEnd | with_reducible exact pcL cdX3_checkRange | with_reducible exact pcL cdX3_checkIdle | with_reducible exact pcL cdX3_checkUnderway | with_reducible exact pcL cdX3_exitsOf | with_reducible exact pcL cdX3_hasShepherd | with_reducible exact pcL cdX3_leadsTo | with_reducible exact pcL cdX3_milesOf | with_reducible exact pcL cdX3_isOpen | with_reducible exact pcL cdX3_isTried | with_reducible exact pcL cdX3_remembered | with_reducible exact pcL cdX3_strength | with_reducible exact pcL cdX3_distance | with_reducible exact pcL cdX3_knowsWay | with_reducible exact pcL cdX3_addPlace | with_reducible exact pcL cdX3_turnRoad | with_reducible exact pcL cdX3_turnShepherd | with_reducible exact pcL cdX3_pay | with_reducible exact pcR cdX3_checkPlace | with_reducible exact pcR cdX3_checkedEnd | with_reducible exact pcR cdX3_checkRange | with_reducible exact pcR cdX3_checkIdle | with_reducible exact pcR cdX3_checkUnderway | with_reducible exact pcR cdX3_exitsOf | with_reducible exact pcR cdX3_hasShepherd | with_reducible exact pcR cdX3_leadsTo | with_reducible exact pcR cdX3_milesOf | with_reducible exact pcR cdX3_isOpen | with_reducible exact pcR cdX3_isTried | with_reducible exact pcR cdX3_remembered | with_reducible exact pcR cdX3_strength | with_reducible exact pcR cdX3_distance | with_reducible exact pcR cdX3_knowsWay | with_reducible exact pcR cdX3_addPlace | with_reducible exact pcR cdX3_turnRoad | with_reducible exact pcR cdX3_turnShepherd | with_reducible exact pcR cdX3_pay | with_reducible exact cdX3_checkPlace | with_reducible exact cdX3_checkedEnd | with_reducible exact cdX3_checkRange | with_reducible exact cdX3_checkIdle | with_reducible exact cdX3_checkUnderway | with_reducible exact cdX3_exitsOf | with_reducible exact cdX3_hasShepherd | with_reducible exact cdX3_leadsTo | with_reducible exact cdX3_milesOf | with_reducible exact cdX3_isOpen | with_reducible exact cdX3_isTried | with_reducible exact cdX3_remembered | with_reducible exact cdX3_strength | with_reducible exact cdX3_distance | with_reducible exact cdX3_knowsWay | with_reducible exact cdX3_addPlace | with_reducible exact cdX3_turnRoad | with_reducible exact cdX3_turnShepherd | with_reducible exact cdX3_pay
theorem cdX3_giveUp {go : Int32} {wl : Int32} : PC 3 3 (FX3_giveUp go wl) := by
  unfold FX3_giveUp
  repeat' first | with_reducible refine pc1 ?_ ?_ | with_reducible refine pc2 ?_ (fun _ => ?_) | with_reducible refine pc3 ?_ (fun _ _ => ?_) | with_reducible refine pcb (fun _ => ?_) | with_reducible refine pcb2 (fun _ _ => ?_) | with_reducible refine xiteP (P := PC 3 3) (fun _ => ?_) (fun _ => ?_)
  all_goals first | with_reducible exact pcz | with_reducible exact pck1 | with_reducible exact pck2 | with_reducible exact pcL cdX3_checkPlace | with_reducible exact pcL cdX3_checkedEnd | with_reducible exact pcL cdX3_checkRange | with_reducible exact pcL cdX3_checkIdle | with_reducible exact pcL cdX3_checkUnderway | with_reducible exact pcL cdX3_exitsOf | with_reducible exact pcL cdX3_hasShepherd | with_reducible exact pcL cdX3_leadsTo | with_reducible exact pcL cdX3_milesOf | with_reducible exact pcL cdX3_isOpen | with_reducible exact pcL cdX3_isTried | with_reducible exact pcL cdX3_remembered | with_reducible exact pcL cdX3_strength | with_reducible exact pcL cdX3_distance | with_reducible exact pcL cdX3_knowsWay | with_reducible exact pcL cdX3_addPlace | with_reducible exact pcL cdX3_turnRoad | with_reducible exact pcL cdX3_turnShepherd | with_reducible exact pcL cdX3_pay | with_reducible exact pcL cdX3_beginErrand | with_reducible exact pcR cdX3_checkPlace | with_reducible exact pcR cdX3_checkedEnd | with_reducible exact pcR cdX3_checkRange | with_reducible exact pcR cdX3_checkIdle | with_reducible exact pcR cdX3_checkUnderway | with_reducible exact pcR cdX3_exitsOf | with_reducible exact pcR cdX3_hasShepherd | with_reducible exact pcR cdX3_leadsTo | with_reducible exact pcR cdX3_milesOf | with_reducible exact pcR cdX3_isOpen | with_reducible exact pcR cdX3_isTried | with_reducible exact pcR cdX3_remembered | with_reducible exact pcR cdX3_strength | with_reducible exact pcR cdX3_distance | with_reducible exact pcR cdX3_knowsWay | with_reducible exact pcR cdX3_addPlace | with_reducible exact pcR cdX3_turnRoad | with_reducible exact pcR cdX3_turnShepherd | with_reducible exact pcR cdX3_pay | with_reducible exact pcR cdX3_beginErrand | with_reducible exact cdX3_checkPlace | with_reducible exact cdX3_checkedEnd | with_reducible exact cdX3_checkRange | with_reducible exact cdX3_checkIdle | with_reducible exact cdX3_checkUnderway | with_reducible exact cdX3_exitsOf | with_reducible exact cdX3_hasShepherd | with_reducible exact cdX3_leadsTo | with_reducible exact cdX3_milesOf | with_reducible exact cdX3_isOpen | with_reducible exact cdX3_isTried | with_reducible exact cdX3_remembered | with_reducible exact cdX3_strength | with_reducible exact cdX3_distance | with_reducible exact cdX3_knowsWay | with_reducible exact cdX3_addPlace | with_reducible exact cdX3_turnRoad | with_reducible exact cdX3_turnShepherd | with_reducible exact cdX3_pay | with_reducible exact cdX3_beginErrand
theorem cdX3_sleep {ms : Nat → Int32} {nn : Int32} : PC 2 2 (FX3_sleep ms nn) := by
  unfold FX3_sleep
  repeat' first | with_reducible refine pc1 ?_ ?_ | with_reducible refine pc2 ?_ (fun _ => ?_) | with_reducible refine pc3 ?_ (fun _ _ => ?_) | with_reducible refine pcb (fun _ => ?_) | with_reducible refine pcb2 (fun _ _ => ?_) | with_reducible refine xiteP (P := PC 2 2) (fun _ => ?_) (fun _ => ?_)
  all_goals first | with_reducible exact pcz | with_reducible exact pck1 | with_reducible exact pck2 | with_reducible exact pcL cdX3_checkPlace | with_reducible exact pcL cdX3_checkedEnd | with_reducible exact pcL cdX3_checkRange | with_reducible exact pcL cdX3_checkIdle | with_reducible exact pcL cdX3_checkUnderway | with_reducible exact pcL cdX3_exitsOf | with_reducible exact pcL cdX3_hasShepherd | with_reducible exact pcL cdX3_leadsTo | with_reducible exact pcL cdX3_milesOf | with_reducible exact pcL cdX3_isOpen | with_reducible exact pcL cdX3_isTried | with_reducible exact pcL cdX3_remembered | with_reducible exact pcL cdX3_strength | with_reducible exact pcL cdX3_distance | with_reducible exact pcL cdX3_knowsWay | with_reducible exact pcL cdX3_addPlace | with_reducible exact pcL cdX3_turnRoad | with_reducible exact pcL cdX3_turnShepherd | with_reducible exact pcL cdX3_pay | with_reducible exact pcL cdX3_beginErrand | with_reducible exact pcL cdX3_giveUp | with_reducible exact pcR cdX3_checkPlace | with_reducible exact pcR cdX3_checkedEnd | with_reducible exact pcR cdX3_checkRange | with_reducible exact pcR cdX3_checkIdle | with_reducible exact pcR cdX3_checkUnderway | with_reducible exact pcR cdX3_exitsOf | with_reducible exact pcR cdX3_hasShepherd | with_reducible exact pcR cdX3_leadsTo | with_reducible exact pcR cdX3_milesOf | with_reducible exact pcR cdX3_isOpen | with_reducible exact pcR cdX3_isTried | with_reducible exact pcR cdX3_remembered | with_reducible exact pcR cdX3_strength | with_reducible exact pcR cdX3_distance | with_reducible exact pcR cdX3_knowsWay | with_reducible exact pcR cdX3_addPlace | with_reducible exact pcR cdX3_turnRoad | with_reducible exact pcR cdX3_turnShepherd | with_reducible exact pcR cdX3_pay | with_reducible exact pcR cdX3_beginErrand | with_reducible exact pcR cdX3_giveUp | with_reducible exact cdX3_checkPlace | with_reducible exact cdX3_checkedEnd | with_reducible exact cdX3_checkRange | with_reducible exact cdX3_checkIdle | with_reducible exact cdX3_checkUnderway | with_reducible exact cdX3_exitsOf | with_reducible exact cdX3_hasShepherd | with_reducible exact cdX3_leadsTo | with_reducible exact cdX3_milesOf | with_reducible exact cdX3_isOpen | with_reducible exact cdX3_isTried | with_reducible exact cdX3_remembered | with_reducible exact cdX3_strength | with_reducible exact cdX3_distance | with_reducible exact cdX3_knowsWay | with_reducible exact cdX3_addPlace | with_reducible exact cdX3_turnRoad | with_reducible exact cdX3_turnShepherd | with_reducible exact cdX3_pay | with_reducible exact cdX3_beginErrand | with_reducible exact cdX3_giveUp
theorem cdX3_goOn {po : Int32} {co : Int32} {go : Int32} {wl : Int32} {gu : Int32} {wk : Int32} {db : Int32} {dn : Int32} {iv : Int32} {qs : Int32} {wy : Nat → Int32} {tr : Nat → Int32} {ak : Nat → Int32} {mx : Nat → Int32} {ms : Nat → Int32} {pl : Int32} {ex : Nat → Int32} {sh : Nat → Int32} {ld : Nat → Int32} {tw : Nat → Int32} {le : Nat → Int32} {op : Nat → Int32} {fa : Nat → Int32} {nst : Int32} : PC 2 3 (FX3_goOn po co go wl gu wk db dn iv qs wy tr ak mx ms pl ex sh ld tw le op fa nst) := by
  unfold FX3_goOn
  repeat' first | with_reducible refine pc1 ?_ ?_ | with_reducible refine pc2 ?_ (fun _ => ?_) | with_reducible refine pc3 ?_ (fun _ _ => ?_) | with_reducible refine pcb (fun _ => ?_) | with_reducible refine pcb2 (fun _ _ => ?_) | with_reducible refine xiteP (P := PC 2 3) (fun _ => ?_) (fun _ => ?_)
  all_goals first | with_reducible exact pcz | with_reducible exact pck1 | with_reducible exact pck2 | with_reducible exact pcL cdX3_checkPlace | with_reducible exact pcL cdX3_checkedEnd | with_reducible exact pcL cdX3_checkRange | with_reducible exact pcL cdX3_checkIdle | with_reducible exact pcL cdX3_checkUnderway | with_reducible exact pcL cdX3_exitsOf | with_reducible exact pcL cdX3_hasShepherd | with_reducible exact pcL cdX3_leadsTo | with_reducible exact pcL cdX3_milesOf | with_reducible exact pcL cdX3_isOpen | with_reducible exact pcL cdX3_isTried | with_reducible exact pcL cdX3_remembered | with_reducible exact pcL cdX3_strength | with_reducible exact pcL cdX3_distance | with_reducible exact pcL cdX3_knowsWay | with_reducible exact pcL cdX3_addPlace | with_reducible exact pcL cdX3_turnRoad | with_reducible exact pcL cdX3_turnShepherd | with_reducible exact pcL cdX3_pay | with_reducible exact pcL cdX3_beginErrand | with_reducible exact pcL cdX3_giveUp | with_reducible exact pcL cdX3_sleep | with_reducible exact pcR cdX3_checkPlace | with_reducible exact pcR cdX3_checkedEnd | with_reducible exact pcR cdX3_checkRange | with_reducible exact pcR cdX3_checkIdle | with_reducible exact pcR cdX3_checkUnderway | with_reducible exact pcR cdX3_exitsOf | with_reducible exact pcR cdX3_hasShepherd | with_reducible exact pcR cdX3_leadsTo | with_reducible exact pcR cdX3_milesOf | with_reducible exact pcR cdX3_isOpen | with_reducible exact pcR cdX3_isTried | with_reducible exact pcR cdX3_remembered | with_reducible exact pcR cdX3_strength | with_reducible exact pcR cdX3_distance | with_reducible exact pcR cdX3_knowsWay | with_reducible exact pcR cdX3_addPlace | with_reducible exact pcR cdX3_turnRoad | with_reducible exact pcR cdX3_turnShepherd | with_reducible exact pcR cdX3_pay | with_reducible exact pcR cdX3_beginErrand | with_reducible exact pcR cdX3_giveUp | with_reducible exact pcR cdX3_sleep | with_reducible exact cdX3_checkPlace | with_reducible exact cdX3_checkedEnd | with_reducible exact cdX3_checkRange | with_reducible exact cdX3_checkIdle | with_reducible exact cdX3_checkUnderway | with_reducible exact cdX3_exitsOf | with_reducible exact cdX3_hasShepherd | with_reducible exact cdX3_leadsTo | with_reducible exact cdX3_milesOf | with_reducible exact cdX3_isOpen | with_reducible exact cdX3_isTried | with_reducible exact cdX3_remembered | with_reducible exact cdX3_strength | with_reducible exact cdX3_distance | with_reducible exact cdX3_knowsWay | with_reducible exact cdX3_addPlace | with_reducible exact cdX3_turnRoad | with_reducible exact cdX3_turnShepherd | with_reducible exact cdX3_pay | with_reducible exact cdX3_beginErrand | with_reducible exact cdX3_giveUp | with_reducible exact cdX3_sleep
theorem cdX3_wouldWalk {po : Int32} {co : Int32} {go : Int32} {mx : Nat → Int32} {ms : Nat → Int32} {tpo : Int32} {tco : Int32} {tgo : Int32} {twl : Int32} {tgu : Int32} {twk : Int32} {tdb : Int32} {tdn : Int32} {tiv : Int32} {tqs : Int32} {twy : Nat → Int32} {ttr : Nat → Int32} {tak : Nat → Int32} {tmx : Nat → Int32} {tms : Nat → Int32} {pl : Int32} {ex : Nat → Int32} {sh : Nat → Int32} {ld : Nat → Int32} {tw : Nat → Int32} {le : Nat → Int32} {op : Nat → Int32} {fa : Nat → Int32} {g : Int32} : PC 1 3 (FX3_wouldWalk po co go mx ms tpo tco tgo twl tgu twk tdb tdn tiv tqs twy ttr tak tmx tms pl ex sh ld tw le op fa g) := by
  unfold FX3_wouldWalk
  repeat' first | with_reducible refine pc1 ?_ ?_ | with_reducible refine pc2 ?_ (fun _ => ?_) | with_reducible refine pc3 ?_ (fun _ _ => ?_) | with_reducible refine pcb (fun _ => ?_) | with_reducible refine pcb2 (fun _ _ => ?_) | with_reducible refine xiteP (P := PC 1 3) (fun _ => ?_) (fun _ => ?_)
  all_goals first | with_reducible exact pcz | with_reducible exact pck1 | with_reducible exact pck2 | with_reducible exact pcL cdX3_checkPlace | with_reducible exact pcL cdX3_checkedEnd | with_reducible exact pcL cdX3_checkRange | with_reducible exact pcL cdX3_checkIdle | with_reducible exact pcL cdX3_checkUnderway | with_reducible exact pcL cdX3_exitsOf | with_reducible exact pcL cdX3_hasShepherd | with_reducible exact pcL cdX3_leadsTo | with_reducible exact pcL cdX3_milesOf | with_reducible exact pcL cdX3_isOpen | with_reducible exact pcL cdX3_isTried | with_reducible exact pcL cdX3_remembered | with_reducible exact pcL cdX3_strength | with_reducible exact pcL cdX3_distance | with_reducible exact pcL cdX3_knowsWay | with_reducible exact pcL cdX3_addPlace | with_reducible exact pcL cdX3_turnRoad | with_reducible exact pcL cdX3_turnShepherd | with_reducible exact pcL cdX3_pay | with_reducible exact pcL cdX3_beginErrand | with_reducible exact pcL cdX3_giveUp | with_reducible exact pcL cdX3_sleep | with_reducible exact pcL cdX3_goOn | with_reducible exact pcR cdX3_checkPlace | with_reducible exact pcR cdX3_checkedEnd | with_reducible exact pcR cdX3_checkRange | with_reducible exact pcR cdX3_checkIdle | with_reducible exact pcR cdX3_checkUnderway | with_reducible exact pcR cdX3_exitsOf | with_reducible exact pcR cdX3_hasShepherd | with_reducible exact pcR cdX3_leadsTo | with_reducible exact pcR cdX3_milesOf | with_reducible exact pcR cdX3_isOpen | with_reducible exact pcR cdX3_isTried | with_reducible exact pcR cdX3_remembered | with_reducible exact pcR cdX3_strength | with_reducible exact pcR cdX3_distance | with_reducible exact pcR cdX3_knowsWay | with_reducible exact pcR cdX3_addPlace | with_reducible exact pcR cdX3_turnRoad | with_reducible exact pcR cdX3_turnShepherd | with_reducible exact pcR cdX3_pay | with_reducible exact pcR cdX3_beginErrand | with_reducible exact pcR cdX3_giveUp | with_reducible exact pcR cdX3_sleep | with_reducible exact pcR cdX3_goOn | with_reducible exact cdX3_checkPlace | with_reducible exact cdX3_checkedEnd | with_reducible exact cdX3_checkRange | with_reducible exact cdX3_checkIdle | with_reducible exact cdX3_checkUnderway | with_reducible exact cdX3_exitsOf | with_reducible exact cdX3_hasShepherd | with_reducible exact cdX3_leadsTo | with_reducible exact cdX3_milesOf | with_reducible exact cdX3_isOpen | with_reducible exact cdX3_isTried | with_reducible exact cdX3_remembered | with_reducible exact cdX3_strength | with_reducible exact cdX3_distance | with_reducible exact cdX3_knowsWay | with_reducible exact cdX3_addPlace | with_reducible exact cdX3_turnRoad | with_reducible exact cdX3_turnShepherd | with_reducible exact cdX3_pay | with_reducible exact cdX3_beginErrand | with_reducible exact cdX3_giveUp | with_reducible exact cdX3_sleep | with_reducible exact cdX3_goOn
theorem cdX3_bestShepherd {po : Int32} {co : Int32} {go : Int32} {mx : Nat → Int32} {ms : Nat → Int32} {tpo : Int32} {tco : Int32} {tgo : Int32} {twl : Int32} {tgu : Int32} {twk : Int32} {tdb : Int32} {tdn : Int32} {tiv : Int32} {tqs : Int32} {twy : Nat → Int32} {ttr : Nat → Int32} {tak : Nat → Int32} {tmx : Nat → Int32} {tms : Nat → Int32} {pl : Int32} {ex : Nat → Int32} {sh : Nat → Int32} {ld : Nat → Int32} {tw : Nat → Int32} {le : Nat → Int32} {op : Nat → Int32} {fa : Nat → Int32} {g : Int32} : PC 1 3 (FX3_bestShepherd po co go mx ms tpo tco tgo twl tgu twk tdb tdn tiv tqs twy ttr tak tmx tms pl ex sh ld tw le op fa g) := by
  unfold FX3_bestShepherd
  repeat' first | with_reducible refine pc1 ?_ ?_ | with_reducible refine pc2 ?_ (fun _ => ?_) | with_reducible refine pc3 ?_ (fun _ _ => ?_) | with_reducible refine pcb (fun _ => ?_) | with_reducible refine pcb2 (fun _ _ => ?_) | with_reducible refine xiteP (P := PC 1 3) (fun _ => ?_) (fun _ => ?_)
  all_goals first | with_reducible exact pcz | with_reducible exact pck1 | with_reducible exact pck2 | with_reducible exact pcL cdX3_checkPlace | with_reducible exact pcL cdX3_checkedEnd | with_reducible exact pcL cdX3_checkRange | with_reducible exact pcL cdX3_checkIdle | with_reducible exact pcL cdX3_checkUnderway | with_reducible exact pcL cdX3_exitsOf | with_reducible exact pcL cdX3_hasShepherd | with_reducible exact pcL cdX3_leadsTo | with_reducible exact pcL cdX3_milesOf | with_reducible exact pcL cdX3_isOpen | with_reducible exact pcL cdX3_isTried | with_reducible exact pcL cdX3_remembered | with_reducible exact pcL cdX3_strength | with_reducible exact pcL cdX3_distance | with_reducible exact pcL cdX3_knowsWay | with_reducible exact pcL cdX3_addPlace | with_reducible exact pcL cdX3_turnRoad | with_reducible exact pcL cdX3_turnShepherd | with_reducible exact pcL cdX3_pay | with_reducible exact pcL cdX3_beginErrand | with_reducible exact pcL cdX3_giveUp | with_reducible exact pcL cdX3_sleep | with_reducible exact pcL cdX3_goOn | with_reducible exact pcL cdX3_wouldWalk | with_reducible exact pcR cdX3_checkPlace | with_reducible exact pcR cdX3_checkedEnd | with_reducible exact pcR cdX3_checkRange | with_reducible exact pcR cdX3_checkIdle | with_reducible exact pcR cdX3_checkUnderway | with_reducible exact pcR cdX3_exitsOf | with_reducible exact pcR cdX3_hasShepherd | with_reducible exact pcR cdX3_leadsTo | with_reducible exact pcR cdX3_milesOf | with_reducible exact pcR cdX3_isOpen | with_reducible exact pcR cdX3_isTried | with_reducible exact pcR cdX3_remembered | with_reducible exact pcR cdX3_strength | with_reducible exact pcR cdX3_distance | with_reducible exact pcR cdX3_knowsWay | with_reducible exact pcR cdX3_addPlace | with_reducible exact pcR cdX3_turnRoad | with_reducible exact pcR cdX3_turnShepherd | with_reducible exact pcR cdX3_pay | with_reducible exact pcR cdX3_beginErrand | with_reducible exact pcR cdX3_giveUp | with_reducible exact pcR cdX3_sleep | with_reducible exact pcR cdX3_goOn | with_reducible exact pcR cdX3_wouldWalk | with_reducible exact cdX3_checkPlace | with_reducible exact cdX3_checkedEnd | with_reducible exact cdX3_checkRange | with_reducible exact cdX3_checkIdle | with_reducible exact cdX3_checkUnderway | with_reducible exact cdX3_exitsOf | with_reducible exact cdX3_hasShepherd | with_reducible exact cdX3_leadsTo | with_reducible exact cdX3_milesOf | with_reducible exact cdX3_isOpen | with_reducible exact cdX3_isTried | with_reducible exact cdX3_remembered | with_reducible exact cdX3_strength | with_reducible exact cdX3_distance | with_reducible exact cdX3_knowsWay | with_reducible exact cdX3_addPlace | with_reducible exact cdX3_turnRoad | with_reducible exact cdX3_turnShepherd | with_reducible exact cdX3_pay | with_reducible exact cdX3_beginErrand | with_reducible exact cdX3_giveUp | with_reducible exact cdX3_sleep | with_reducible exact cdX3_goOn | with_reducible exact cdX3_wouldWalk

/-! out of 44.wlinks.lean.txt -/
/-! out of 45.wraps.lean.txt -/
def FL_addPlace (pl : Int32) (ot : Nat → Int64) : Int32 × (Int32) × (Nat → Int64) :=
  yc3 (FX3_addPlace pl) (fun k => ((1, pl, ot))) (fun r2 u1 => (0, u1, vp_updL ot (0 : Int32).toNatClampNeg r2.toInt64))
def FL_turnRoad (pl : Int32) (ex : Nat → Int32) (tw : Nat → Int32) (op : Nat → Int32) (q : Int32) (x : Int32) (ot : Nat → Int64) : Int32 × (Nat → Int32) × (Nat → Int64) :=
  yc3 (FX3_turnRoad pl ex tw op q x) (fun k => ((1, op, ot))) (fun r2 u1 => if r2 = 0 then ((0, u1, vp_updL ot (0 : Int32).toNatClampNeg 0)) else ((0, u1, vp_updL ot (0 : Int32).toNatClampNeg 1)))
def FL_turnShepherd (pl : Int32) (sh : Nat → Int32) (q : Int32) (ot : Nat → Int64) : Int32 × (Nat → Int32) × (Nat → Int64) :=
  yc3 (FX3_turnShepherd pl sh q) (fun k => ((1, sh, ot))) (fun r2 u1 => if r2 = 0 then ((0, u1, vp_updL ot (0 : Int32).toNatClampNeg 0)) else ((0, u1, vp_updL ot (0 : Int32).toNatClampNeg 1)))
def FL_pay (co : Int32) (nn : Int32) (ot : Nat → Int64) : Int32 × (Int32) × (Nat → Int64) :=
  yc3 (FX3_pay co nn) (fun k => ((1, co, ot))) (fun r2 u1 => (0, u1, vp_updL ot (0 : Int32).toNatClampNeg r2.toInt64))
def FL_beginErrand (po : Int32) (go : Int32) (wl : Int32) (dn : Int32) (tr : Nat → Int32) (ak : Nat → Int32) (pl : Int32) (ld : Nat → Int32) (le : Nat → Int32) (op : Nat → Int32) (fa : Nat → Int32) (g : Int32) (ot : Nat → Int64) : Int32 × (Int32) × (Int32) × (Int32) × (Nat → Int32) × (Nat → Int32) × (Nat → Int32) × (Nat → Int64) :=
  yc3 (FX3_beginErrand po go wl dn tr ak pl ld le op fa g) (fun k => if k = 1 then ((1, go, wl, dn, tr, ak, fa, ot)) else ((2, go, wl, dn, tr, ak, fa, ot))) (fun r2 u1 => (0, u1.1, u1.2.1, u1.2.2.1, u1.2.2.2.1, u1.2.2.2.2.1, u1.2.2.2.2.2, vp_updL ot (0 : Int32).toNatClampNeg r2.toInt64))
def FL_goOn (po : Int32) (co : Int32) (go : Int32) (wl : Int32) (gu : Int32) (wk : Int32) (db : Int32) (dn : Int32) (iv : Int32) (qs : Int32) (wy : Nat → Int32) (tr : Nat → Int32) (ak : Nat → Int32) (mx : Nat → Int32) (ms : Nat → Int32) (pl : Int32) (ex : Nat → Int32) (sh : Nat → Int32) (ld : Nat → Int32) (tw : Nat → Int32) (le : Nat → Int32) (op : Nat → Int32) (fa : Nat → Int32) (nst : Int32) (ot : Nat → Int64) : Int32 × (Int32) × (Int32) × (Int32) × (Int32) × (Int32) × (Int32) × (Int32) × (Int32) × (Int32) × (Nat → Int32) × (Nat → Int32) × (Nat → Int32) × (Nat → Int32) × (Nat → Int32) × (Nat → Int32) × (Nat → Int64) :=
  yc3 (FX3_goOn po co go wl gu wk db dn iv qs wy tr ak mx ms pl ex sh ld tw le op fa nst) (fun k => if k = 2 then ((1, po, co, go, wl, wk, db, dn, iv, qs, wy, tr, ak, mx, ms, fa, ot)) else ((2, po, co, go, wl, wk, db, dn, iv, qs, wy, tr, ak, mx, ms, fa, ot))) (fun r2 u1 => (0, u1.1, u1.2.1, u1.2.2.1, u1.2.2.2.1, u1.2.2.2.2.1, u1.2.2.2.2.2.1, u1.2.2.2.2.2.2.1, u1.2.2.2.2.2.2.2.1, u1.2.2.2.2.2.2.2.2.1, u1.2.2.2.2.2.2.2.2.2.1, u1.2.2.2.2.2.2.2.2.2.2.1, u1.2.2.2.2.2.2.2.2.2.2.2.1, u1.2.2.2.2.2.2.2.2.2.2.2.2.1, u1.2.2.2.2.2.2.2.2.2.2.2.2.2.1, u1.2.2.2.2.2.2.2.2.2.2.2.2.2.2, vp_updL ot (0 : Int32).toNatClampNeg r2.toInt64))
def FL_giveUp (go : Int32) (wl : Int32) (ot : Nat → Int64) : Int32 × (Int32) × (Int32) × (Nat → Int64) :=
  yc3 (FX3_giveUp go wl) (fun k => ((1, go, wl, ot))) (fun r2 u1 => (0, u1.1, u1.2, vp_updL ot (0 : Int32).toNatClampNeg r2.toInt64))
def FL_sleep (ms : Nat → Int32) (nn : Int32) (ot : Nat → Int64) : Int32 × (Nat → Int32) × (Nat → Int64) :=
  yc3 (FX3_sleep ms nn) (fun k => ((1, ms, ot))) (fun r2 u1 => (0, u1, vp_updL ot (0 : Int32).toNatClampNeg r2.toInt64))
def FL_exitsOf (pl : Int32) (ex : Nat → Int32) (q : Int32) (ot : Nat → Int64) : Int32 × (Nat → Int64) :=
  yc2 (FX3_exitsOf pl ex q) (fun k => ((1, ot))) (fun r2 => (0, vp_updL ot (0 : Int32).toNatClampNeg r2.toInt64))
def FL_leadsTo (pl : Int32) (ex : Nat → Int32) (ld : Nat → Int32) (q : Int32) (x : Int32) (ot : Nat → Int64) : Int32 × (Nat → Int64) :=
  yc2 (FX3_leadsTo pl ex ld q x) (fun k => ((1, ot))) (fun r2 => (0, vp_updL ot (0 : Int32).toNatClampNeg r2.toInt64))
def FL_milesOf (pl : Int32) (ex : Nat → Int32) (le : Nat → Int32) (q : Int32) (x : Int32) (ot : Nat → Int64) : Int32 × (Nat → Int64) :=
  yc2 (FX3_milesOf pl ex le q x) (fun k => ((1, ot))) (fun r2 => (0, vp_updL ot (0 : Int32).toNatClampNeg r2.toInt64))
def FL_isOpen (pl : Int32) (ex : Nat → Int32) (op : Nat → Int32) (q : Int32) (x : Int32) (ot : Nat → Int64) : Int32 × (Nat → Int64) :=
  yc2 (FX3_isOpen pl ex op q x) (fun k => ((1, ot))) (fun r2 => if r2 = 0 then ((0, vp_updL ot (0 : Int32).toNatClampNeg 0)) else ((0, vp_updL ot (0 : Int32).toNatClampNeg 1)))
def FL_hasShepherd (pl : Int32) (sh : Nat → Int32) (q : Int32) (ot : Nat → Int64) : Int32 × (Nat → Int64) :=
  yc2 (FX3_hasShepherd pl sh q) (fun k => ((1, ot))) (fun r2 => if r2 = 0 then ((0, vp_updL ot (0 : Int32).toNatClampNeg 0)) else ((0, vp_updL ot (0 : Int32).toNatClampNeg 1)))
def FL_distance (pl : Int32) (ld : Nat → Int32) (le : Nat → Int32) (op : Nat → Int32) (fa : Nat → Int32) (q : Int32) (g : Int32) (ot : Nat → Int64) : Int32 × (Nat → Int32) × (Nat → Int64) :=
  yc3 (FX3_distance pl ld le op fa q g) (fun k => ((1, fa, ot))) (fun r2 u1 => (0, u1, vp_updL ot (0 : Int32).toNatClampNeg r2.toInt64))
def FL_isTried (go : Int32) (tr : Nat → Int32) (pl : Int32) (ex : Nat → Int32) (q : Int32) (x : Int32) (ot : Nat → Int64) : Int32 × (Nat → Int64) :=
  yc2 (FX3_isTried go tr pl ex q x) (fun k => ((1, ot))) (fun r2 => if r2 = 0 then ((0, vp_updL ot (0 : Int32).toNatClampNeg 0)) else ((0, vp_updL ot (0 : Int32).toNatClampNeg 1)))
def FL_remembered (mx : Nat → Int32) (ms : Nat → Int32) (pl : Int32) (g : Int32) (q : Int32) (ot : Nat → Int64) : Int32 × (Nat → Int64) :=
  yc2 (FX3_remembered mx ms pl g q) (fun k => ((1, ot))) (fun r2 => (0, vp_updL ot (0 : Int32).toNatClampNeg r2.toInt64))
def FL_strength (ms : Nat → Int32) (pl : Int32) (g : Int32) (q : Int32) (ot : Nat → Int64) : Int32 × (Nat → Int64) :=
  yc2 (FX3_strength ms pl g q) (fun k => ((1, ot))) (fun r2 => (0, vp_updL ot (0 : Int32).toNatClampNeg r2.toInt64))
def FL_knowsWay (po : Int32) (mx : Nat → Int32) (ms : Nat → Int32) (pl : Int32) (ex : Nat → Int32) (ld : Nat → Int32) (op : Nat → Int32) (g : Int32) (ot : Nat → Int64) : Int32 × (Nat → Int64) :=
  yc2 (FX3_knowsWay po mx ms pl ex ld op g) (fun k => ((1, ot))) (fun r2 => if r2 = 0 then ((0, vp_updL ot (0 : Int32).toNatClampNeg 0)) else ((0, vp_updL ot (0 : Int32).toNatClampNeg 1)))
def FL_wouldWalk (po : Int32) (co : Int32) (go : Int32) (mx : Nat → Int32) (ms : Nat → Int32) (tpo : Int32) (tco : Int32) (tgo : Int32) (twl : Int32) (tgu : Int32) (twk : Int32) (tdb : Int32) (tdn : Int32) (tiv : Int32) (tqs : Int32) (twy : Nat → Int32) (ttr : Nat → Int32) (tak : Nat → Int32) (tmx : Nat → Int32) (tms : Nat → Int32) (pl : Int32) (ex : Nat → Int32) (sh : Nat → Int32) (ld : Nat → Int32) (tw : Nat → Int32) (le : Nat → Int32) (op : Nat → Int32) (fa : Nat → Int32) (g : Int32) (ot : Nat → Int64) : Int32 × (Int32) × (Int32) × (Int32) × (Int32) × (Int32) × (Int32) × (Int32) × (Int32) × (Int32) × (Nat → Int32) × (Nat → Int32) × (Nat → Int32) × (Nat → Int32) × (Nat → Int32) × (Int32) × (Nat → Int32) × (Nat → Int64) :=
  yc3 (FX3_wouldWalk po co go mx ms tpo tco tgo twl tgu twk tdb tdn tiv tqs twy ttr tak tmx tms pl ex sh ld tw le op fa g) (fun k => if k = 1 then ((1, tpo, tco, tgo, twl, twk, tdb, tdn, tiv, tqs, twy, ttr, tak, tmx, tms, tgu, fa, ot)) else ((2, tpo, tco, tgo, twl, twk, tdb, tdn, tiv, tqs, twy, ttr, tak, tmx, tms, tgu, fa, ot))) (fun r2 u1 => (0, u1.1, u1.2.1, u1.2.2.1, u1.2.2.2.1, u1.2.2.2.2.1, u1.2.2.2.2.2.1, u1.2.2.2.2.2.2.1, u1.2.2.2.2.2.2.2.1, u1.2.2.2.2.2.2.2.2.1, u1.2.2.2.2.2.2.2.2.2.1, u1.2.2.2.2.2.2.2.2.2.2.1, u1.2.2.2.2.2.2.2.2.2.2.2.1, u1.2.2.2.2.2.2.2.2.2.2.2.2.1, u1.2.2.2.2.2.2.2.2.2.2.2.2.2.1, u1.2.2.2.2.2.2.2.2.2.2.2.2.2.2.1, u1.2.2.2.2.2.2.2.2.2.2.2.2.2.2.2, vp_updL ot (0 : Int32).toNatClampNeg r2.toInt64))
def FL_bestShepherd (po : Int32) (co : Int32) (go : Int32) (mx : Nat → Int32) (ms : Nat → Int32) (tpo : Int32) (tco : Int32) (tgo : Int32) (twl : Int32) (tgu : Int32) (twk : Int32) (tdb : Int32) (tdn : Int32) (tiv : Int32) (tqs : Int32) (twy : Nat → Int32) (ttr : Nat → Int32) (tak : Nat → Int32) (tmx : Nat → Int32) (tms : Nat → Int32) (pl : Int32) (ex : Nat → Int32) (sh : Nat → Int32) (ld : Nat → Int32) (tw : Nat → Int32) (le : Nat → Int32) (op : Nat → Int32) (fa : Nat → Int32) (g : Int32) (ot : Nat → Int64) : Int32 × (Int32) × (Int32) × (Int32) × (Int32) × (Int32) × (Int32) × (Int32) × (Int32) × (Int32) × (Nat → Int32) × (Nat → Int32) × (Nat → Int32) × (Nat → Int32) × (Nat → Int32) × (Int32) × (Nat → Int32) × (Nat → Int64) :=
  yc3 (FX3_bestShepherd po co go mx ms tpo tco tgo twl tgu twk tdb tdn tiv tqs twy ttr tak tmx tms pl ex sh ld tw le op fa g) (fun k => if k = 1 then ((1, tpo, tco, tgo, twl, twk, tdb, tdn, tiv, tqs, twy, ttr, tak, tmx, tms, tgu, fa, ot)) else ((2, tpo, tco, tgo, twl, twk, tdb, tdn, tiv, tqs, twy, ttr, tak, tmx, tms, tgu, fa, ot))) (fun r2 u1 => (0, u1.1, u1.2.1, u1.2.2.1, u1.2.2.2.1, u1.2.2.2.2.1, u1.2.2.2.2.2.1, u1.2.2.2.2.2.2.1, u1.2.2.2.2.2.2.2.1, u1.2.2.2.2.2.2.2.2.1, u1.2.2.2.2.2.2.2.2.2.1, u1.2.2.2.2.2.2.2.2.2.2.1, u1.2.2.2.2.2.2.2.2.2.2.2.1, u1.2.2.2.2.2.2.2.2.2.2.2.2.1, u1.2.2.2.2.2.2.2.2.2.2.2.2.2.1, u1.2.2.2.2.2.2.2.2.2.2.2.2.2.2.1, u1.2.2.2.2.2.2.2.2.2.2.2.2.2.2.2, vp_updL ot (0 : Int32).toNatClampNeg r2.toInt64))
