/-! the parts of a step, both sides: what is remembered, asked, tried, taken, doubled, learnt -/
def zM (pl : Int32) (ex mx ms xe sg : Nat → Int32) : Prop := ∀ k : Nat, k < 100 → ((ms k).toInt = 0 ∧ xe k = -1) ∨ ((1 ≤ (ms k).toInt ∧ (ms k).toInt ≤ 9) ∧ sg k = ms k ∧ xe k = mx k ∧ ((k % 10 : Nat) : Int) < pl.toInt ∧ 0 ≤ (mx k).toInt ∧ (mx k).toInt < (ex (k % 10)).toInt)
def zB (pl : Int32) (ex : Nat → Int32) (wl : Int32) (wy ur uk uy : Nat → Int32) : Prop := (∀ k, k < 20 → ur k = 0 ∨ ur k = 1) ∧ (∀ k, k < 10 → uk k = 0 ∨ uk k = 1) ∧ (0 ≤ wl.toInt ∧ wl.toInt ≤ (ycnt 20 ur : Nat)) ∧ (∀ k : Nat, (k : Int) < wl.toInt → wy k = uy k ∧ ∃ e, wy k = nI e ∧ zE pl ex e) ∧ (∀ k, k < 40 → 0 ≤ (uy k).toInt ∧ (uy k).toInt < 40)
def zT (pl : Int32) (ex rd tr ak ur uk : Nat → Int32) : Prop := (∀ e, zE pl ex e → tr e = ur (rd e).toNatClampNeg) ∧ (∀ k, k < 10 → ak k = uk k) ∧ (∀ k, k < 20 → ¬ ur k = 0 → ∃ e, zE pl ex e ∧ (rd e).toNatClampNeg = k) ∧ (∀ e, e < 40 → ¬ zE pl ex e → tr e = 0)
/-- one carrier beside the other -/
def zC (pl : Int32) (ex rd : Nat → Int32) (po go wl : Int32) (wy tr ak mx ms ur uk uy xe sg : Nat → Int32) : Prop := (0 ≤ po.toInt ∧ po.toInt < pl.toInt) ∧ zB pl ex wl wy ur uk uy ∧ zM pl ex mx ms xe sg ∧ ((go = -1 ∧ wl = 0 ∧ (∀ k, k < 20 → ur k = 0)) ∨ ((0 ≤ go.toInt ∧ go.toInt < pl.toInt) ∧ ¬ po = go ∧ zT pl ex rd tr ak ur uk))
theorem zMu {pl : Int32} {ex mx ms xe sg mx2 ms2 xe2 sg2 : Nat → Int32} (hM : zM pl ex mx ms xe sg) {k : Nat} (h1 : ∀ j, j ≠ k → mx2 j = mx j ∧ ms2 j = ms j ∧ xe2 j = xe j ∧ sg2 j = sg j) (h2 : (1 ≤ (ms2 k).toInt ∧ (ms2 k).toInt ≤ 9) ∧ sg2 k = ms2 k ∧ xe2 k = mx2 k ∧ ((k % 10 : Nat) : Int) < pl.toInt ∧ 0 ≤ (mx2 k).toInt ∧ (mx2 k).toInt < (ex (k % 10)).toInt) : zM pl ex mx2 ms2 xe2 sg2 := by
  intro j hj
  by_cases c : j = k
  · rw [c]; exact Or.inr h2
  · obtain ⟨a1, a2, a3, a4⟩ := h1 j c
    rw [a1, a2, a3, a4]
    exact hM j hj
theorem zis {e : Nat} (h : e < 40) : FX3_isEnd (nI e) = 1 := by
  unfold FX3_isEnd
  rw [if_neg (nI_pos (by omega)), if_neg (by rw [show (40 : Int32) = nI 40 from rfl, nI_leI (by decide) (by omega)]; omega)]
theorem zm1 {n : Nat} (h : n < 2 ^ 31) : ¬ nI n = -1 := by
  rw [xeqI, nI_toInt h, show (-1 : Int32).toInt = -1 from rfl]
  omega
theorem zct {pl rs : Int32} {ex ld tw le op rd ml cz : Nat → Int32} (hL : zL pl rs ex ld tw le op rd ml cz) {tr ur : Nat → Int32} (htr : ∀ e, zE pl ex e → tr e = ur (rd e).toNatClampNeg) {e : Nat} (hz : zE pl ex e) : FX0_canTake tr op (nI e) = FX5_canTake rd cz ur (nI e) := by
  have v6 := (hL.2.2.2.2.2.2.2.2.2.1 _ hz).2.2.2.2.2.1
  have h40 := hz.1
  unfold FX0_canTake FX5_canTake xbind
  try dsimp only
  rw [zis hz.1, if_neg (by decide), nI_clamp (by omega), htr e hz]
  by_cases c : op e = 0
  · rw [if_pos c, if_neg (v6.mp c)]
  · rw [if_neg c, if_pos (Classical.byContradiction fun h => c (v6.mpr h))]
theorem zcn {tr op : Nat → Int32} {e : Nat} (h : e < 40) (h0 : op e = 0) : FX0_canTake tr op (nI e) = 0 := by
  unfold FX0_canTake xbind
  try dsimp only
  rw [zis h, if_neg (by decide), nI_clamp (by omega), if_pos h0]
theorem zcm {tr op : Nat → Int32} : FX0_canTake tr op (-1) = 0 := by
  unfold FX0_canTake xbind
  try dsimp only
  rw [show FX3_isEnd (-1) = 0 from by decide, if_pos rfl]
theorem zspot {a b : Nat} (ha : a < 10) (hb : b < 10) : FX2_spotOf (nI b) (nI a) = nI (10 * b + a) := by
  unfold FX2_spotOf
  rw [if_neg (nI_pos (by omega)), if_neg (by rw [show (10 : Int32) = nI 10 from rfl, nI_leI (by decide) (by omega)]; omega), if_neg (nI_pos (by omega)), if_neg (by rw [show (10 : Int32) = nI 10 from rfl, nI_leI (by decide) (by omega)]; omega), show (10 : Int32) = nI 10 from rfl, pk_mul, nI_add, Nat.mul_comm]
theorem z10 (b a : Nat) : 10 * nI b + nI a = nI (10 * b + a) := by
  rw [show (10 : Int32) = nI 10 from rfl, pk_mul, nI_add]
theorem zexf {pl : Int32} {ex mx ms xe sg : Nat → Int32} (hM : zM pl ex mx ms xe sg) {a b : Nat} (ha : a < 10) (hb : b < 10) : FX2_exitFor mx ms (nI b) (nI a) = xe (10 * b + a) := by
  unfold FX2_exitFor xbind
  try dsimp only
  rw [zspot ha hb, if_neg (zm1 (by omega)), nI_clamp (by omega)]
  have e0 : (0 : Int32).toInt = 0 := rfl
  rcases hM (10 * b + a) (by omega) with ⟨h1, h2⟩ | ⟨h1, h2, h3, h4⟩
  · rw [if_pos (by rw [xle, h1, e0]; omega), h2]
  · rw [if_neg (by rw [xle, e0]; omega), h3]
theorem zstr {pl : Int32} {ex mx ms xe sg : Nat → Int32} (hM : zM pl ex mx ms xe sg) {a b : Nat} (ha : a < 10) (hb : b < 10) : FX2_strengthFor ms (nI b) (nI a) = FX5_strengthOf xe sg (nI (10 * b + a)) := by
  unfold FX2_strengthFor FX5_strengthOf xbind
  try dsimp only
  rw [zspot ha hb, if_neg (zm1 (by omega)), nI_clamp (by omega)]
  rcases hM (10 * b + a) (by omega) with ⟨h1, h2⟩ | ⟨h1, h2, h3, h4, h5, h6⟩
  · rw [if_pos h2, xeqI, h1]; rfl
  · rw [if_neg (by rw [h3, xeqI, show (-1 : Int32).toInt = -1 from rfl]; omega), h2]
theorem zxe {pl : Int32} {ex mx ms xe sg : Nat → Int32} (hpl : 0 ≤ pl.toInt ∧ pl.toInt ≤ 10) (hex4 : ∀ k, k < 10 → 0 ≤ (ex k).toInt ∧ (ex k).toInt ≤ 4) (hM : zM pl ex mx ms xe sg) {a b : Nat} (ha : a < 10) (hb : b < 10) : xe (10 * b + a) = -1 ∨ ∃ i : Nat, i < 4 ∧ xe (10 * b + a) = nI i ∧ zE pl ex (4 * a + i) ∧ (i : Int) < (ex a).toInt ∧ (a : Int) < pl.toInt := by
  rcases hM (10 * b + a) (by omega) with ⟨h1, h2⟩ | ⟨h1, h2, h3, h4, h5, h6⟩
  · exact Or.inl h2
  · right
    have e1 : (10 * b + a) % 10 = a := by omega
    rw [e1] at h4 h6
    have hn := znat h5
    obtain ⟨z1, z2, z3, z4, -⟩ := zEi hpl hex4 h4 (i := (mx (10 * b + a)).toNatClampNeg) (by omega)
    exact ⟨_, z4, by rw [h3, znI h5], z1, by omega, h4⟩
theorem zend' {pl : Int32} {ex : Nat → Int32} {a i : Nat} (ha : (a : Int) < pl.toInt) (hpl : 0 ≤ pl.toInt ∧ pl.toInt ≤ 10) (hi : (i : Int) < (ex a).toInt) (h4 : i < 4) : FX1_endAt pl ex (nI a) (nI i) = nI (4 * a + i) := by
  have h := nI_toInt (n := a) (by omega)
  unfold FX1_endAt xbind
  try dsimp only
  rw [zpl (by rw [h]; omega), if_neg (by decide), if_neg (nI_pos (by omega)), nI_clamp (by omega), if_neg (by rw [xle, nI_toInt (by omega)]; omega), z4']
theorem zendm {pl : Int32} {ex : Nat → Int32} {a : Nat} (ha : (a : Int) < pl.toInt) (hpl : 0 ≤ pl.toInt ∧ pl.toInt ≤ 10) : FX1_endAt pl ex (nI a) (-1) = -1 := by
  have h := nI_toInt (n := a) (by omega)
  unfold FX1_endAt xbind
  try dsimp only
  rw [zpl (by rw [h]; omega), if_neg (by decide), if_pos (by decide)]
theorem zrem {pl rs : Int32} {ex ld tw le op rd ml cz : Nat → Int32} (hL : zL pl rs ex ld tw le op rd ml cz) {mx ms xe sg tr ur : Nat → Int32} (hM : zM pl ex mx ms xe sg) (htr : ∀ e, zE pl ex e → tr e = ur (rd e).toNatClampNeg) {a b : Nat} (ha : (a : Int) < pl.toInt) (hb : (b : Int) < pl.toInt) : (xe (10 * b + a) = -1 ∧ FX0_rememberedEnd (nI a) (nI b) tr mx ms pl ex op = -1) ∨ ∃ i : Nat, i < 4 ∧ zE pl ex (4 * a + i) ∧ xe (10 * b + a) = nI i ∧ FX0_rememberedEnd (nI a) (nI b) tr mx ms pl ex op = if FX5_canTake rd cz ur (nI (4 * a + i)) = 0 then -1 else nI (4 * a + i) := by
  have hpl := hL.1
  have hex4 := hL.2.1
  have e : FX0_rememberedEnd (nI a) (nI b) tr mx ms pl ex op = if FX0_canTake tr op (FX1_endAt pl ex (nI a) (xe (10 * b + a))) = 0 then -1 else FX1_endAt pl ex (nI a) (xe (10 * b + a)) := by
    unfold FX0_rememberedEnd xbind
    try dsimp only
    rw [zexf hM (by omega) (by omega)]
  rcases zxe hpl hex4 hM (a := a) (b := b) (by omega) (by omega) with h | ⟨i, h1, h2, h3, h4, h5⟩
  · left
    refine ⟨h, ?_⟩
    rw [e, h, zendm ha hpl, zcm, if_pos rfl]
  · right
    refine ⟨i, h1, h3, h2, ?_⟩
    rw [e, h2, zend' ha hpl h4 h1, zct hL htr h3]
/-- a way out that both sides take, as an end -/
theorem ztake {pl rs : Int32} {ex ld tw le op rd ml cz : Nat → Int32} (hL : zL pl rs ex ld tw le op rd ml cz) {wl wk : Int32} {wy tr : Nat → Int32} {po : Int32} {e : Nat} (hz : zE pl ex e) (hwl : wl.toInt < 20) : FX0_take po wl wk wy tr tw le (nI e) = (upd (upd tr e 1) (tw e).toNatClampNeg 1, upd wy wl.toNatClampNeg (nI e), wl + 1, wk + le e, ld e) := by
  obtain ⟨v1, ⟨v2, v2b, v2c, v2d⟩, v3, v4, v5, v6, v7⟩ := hL.2.2.2.2.2.2.2.2.2.1 _ hz
  have h40 := hz.1
  have htw := hL.2.2.2.2.1 e h40
  have t40 := v2.1
  have e1 : FX1_twinOf tw (nI e) = nI (tw e).toNatClampNeg := by
    unfold FX1_twinOf xbind
    try dsimp only
    rw [zis hz.1, if_neg (by decide), nI_clamp (by omega), znI htw.1]
  have e2 : FX1_milesAt le (nI e) = le e := by
    unfold FX1_milesAt xbind
    try dsimp only
    rw [zis hz.1, if_neg (by decide), nI_clamp (by omega)]
  unfold FX0_take xbind
  try dsimp only
  rw [e1, zis hz.1, if_neg (by decide), zis v2.1, if_neg (by decide), if_pos (by rw [xltI, show (20 : Int32).toInt = 20 from rfl]; exact hwl), e2, nI_clamp (by omega), nI_clamp (by omega), v2d]
  unfold FX3_placeOfEnd
  rw [zdvI t40]
theorem ztake5 {pl rs : Int32} {ex ld tw le op rd ml cz : Nat → Int32} (hL : zL pl rs ex ld tw le op rd ml cz) {ln wk : Int32} {ur uy : Nat → Int32} {e : Nat} (hz : zE pl ex e) : FX5_take rd ld ml ln wk ur uy (nI e) = (ld e, ln + 1, wk + le e, upd ur (rd e).toNatClampNeg 1, upd uy ln.toNatClampNeg (nI e)) := by
  obtain ⟨v1, v2, v3, v4, v5, v6, v7⟩ := hL.2.2.2.2.2.2.2.2.2.1 _ hz
  have h40 := hz.1
  unfold FX5_take
  rw [nI_clamp (by omega), v5]
theorem zcan {pl rs : Int32} {ex ld tw le op rd ml cz : Nat → Int32} (hL : zL pl rs ex ld tw le op rd ml cz) {ur : Nat → Int32} {e : Nat} (hz : zE pl ex e) (h : ¬ FX5_canTake rd cz ur (nI e) = 0) : ur (rd e).toNatClampNeg = 0 ∧ ¬ op e = 0 := by
  have h40 := hz.1
  have h1 := pX5_canTake rfl h
  rw [nI_clamp (by omega)] at h1
  exact ⟨h1.1, fun h0 => (hL.2.2.2.2.2.2.2.2.2.1 _ hz).2.2.2.2.2.1.mp h0 h1.2⟩
theorem zcount {f : Nat → Int32} {k : Nat} (h0 : f k = 0) : ∀ n, k < n → ycnt n f < n
  | 0, h => absurd h (by omega)
  | n + 1, h => by
    have h1 := ycnt_le f n
    unfold ycnt
    by_cases c : k = n
    · rw [c] at h0; rw [if_pos h0]; omega
    · have := zcount h0 n (by omega)
      split <;> omega
/-- behind the taking of an end: the marks, the way -/
theorem ztk {pl rs : Int32} {ex ld tw le op rd ml cz : Nat → Int32} (hL : zL pl rs ex ld tw le op rd ml cz) {wl : Int32} {wy tr ak ur uk uy : Nat → Int32} {e : Nat} (hz : zE pl ex e) (hT : zT pl ex rd tr ak ur uk) (hB : zB pl ex wl wy ur uk uy) (h0 : ur (rd e).toNatClampNeg = 0) : wl.toInt < 20 ∧ zT pl ex rd (upd (upd tr e 1) (tw e).toNatClampNeg 1) ak (upd ur (rd e).toNatClampNeg 1) uk ∧ zB pl ex (wl + 1) (upd wy wl.toNatClampNeg (nI e)) (upd ur (rd e).toNatClampNeg 1) uk (upd uy wl.toNatClampNeg (nI e)) ∧ ycnt 20 (upd ur (rd e).toNatClampNeg 1) = ycnt 20 ur + 1 ∧ (wl + 1).toInt = wl.toInt + 1 ∧ ycnt 20 ur < 20 := by
  obtain ⟨v1, ⟨v2, v2b, v2c, v2d⟩, v3, v4, v5, v6, v7⟩ := hL.2.2.2.2.2.2.2.2.2.1 _ hz
  obtain ⟨b1, b2, b3, b4, b5⟩ := hB
  have h40 := hz.1
  have hrd := hL.2.2.2.2.2.2.2.1
  have r20 := xcl (hrd e h40)
  have hc := zcount h0 20 r20
  have hn := ycnt_upd ur _ h0 20 r20
  have hw : (wl + 1).toInt = wl.toInt + 1 := yinc (by omega)
  have hwn := znat b3.1
  refine ⟨by omega, ⟨fun e2 hz2 => ?_, hT.2.1, fun k hk h9 => ?_, fun e2 he2 hz2 => ?_⟩, ⟨fun k hk => ?_, b2, by rw [hn, hw]; omega, fun k hk => ?_, fun k hk => ?_⟩, hn, hw, hc⟩
  · have q := v7 e2 hz2
    by_cases c : e2 = e ∨ e2 = (tw e).toNatClampNeg
    · rw [← q.mpr c, pk_us]
      rcases c with c | c
      · by_cases c3 : e2 = (tw e).toNatClampNeg
        · rw [c3, pk_us]
        · rw [pk_un c3, c, pk_us]
      · rw [c, pk_us]
    · have c1 : ¬ (rd e2).toNatClampNeg = (rd e).toNatClampNeg := fun h => c (q.mp (by rw [← znI (hrd e h40).1, ← znI (hrd e2 hz2.1).1, h]))
      rw [pk_un c1, pk_un (fun h => c (Or.inr h)), pk_un (fun h => c (Or.inl h))]
      exact hT.1 e2 hz2
  · by_cases c : k = (rd e).toNatClampNeg
    · exact ⟨e, hz, c.symm⟩
    · rw [pk_un c] at h9; exact hT.2.2.1 k hk h9
  · rw [pk_un (fun h => hz2 (by rw [h]; exact v2)), pk_un (fun h => hz2 (by rw [h]; exact hz))]
    exact hT.2.2.2 e2 he2 hz2
  · by_cases c : k = (rd e).toNatClampNeg
    · rw [c, pk_us]; exact Or.inr rfl
    · rw [pk_un c]; exact b1 k hk
  · rw [hw] at hk
    by_cases c : k = wl.toNatClampNeg
    · rw [c, pk_us, pk_us]; exact ⟨rfl, e, rfl, hz⟩
    · rw [pk_un c, pk_un c]; exact b4 k (by omega)
  · by_cases c : k = wl.toNatClampNeg
    · rw [c, pk_us, nI_toInt (by omega)]; omega
    · rw [pk_un c]; exact b5 k hk
theorem zac (a b c : Int32) : a + b + c = a + c + b := by rw [Int32.add_assoc, Int32.add_comm b c, ← Int32.add_assoc]
theorem zfu0 {pl rs : Int32} {ex ld tw le op rd ml cz : Nat → Int32} (hL : zL pl rs ex ld tw le op rd ml cz) {tr : Nat → Int32} {a : Nat} (ha : (a : Int) < pl.toInt) : ∀ n i : Nat, i + n = 5 → i ≤ 4 → (ex a).toInt ≤ i → LX0_firstUntried_t (nI a) tr op n i = -1
  | 0, i, h1, h2, _ => absurd h1 (by omega)
  | n + 1, i, h1, h2, h3 => by
    have hpl := hL.1
    by_cases c : 4 ≤ nI i
    · rw [LX0_firstUntried_t, if_pos c]
    · have c' := c
      rw [show (4 : Int32) = nI 4 from rfl, nI_leI (by decide) (by omega)] at c'
      have h0 : op (4 * a + i) = 0 := hL.2.2.2.2.2.2.2.2.2.2 _ (by omega) (fun hz => by
        have := hz.2.2
        rw [show (4 * a + i) / 4 = a from by omega, show (4 * a + i) % 4 = i from by omega] at this
        omega)
      rw [LX0_firstUntried_t, if_neg c]
      unfold xbind
      try dsimp only
      rw [z4', zcn (by omega) h0, if_pos rfl]
      exact zfu0 hL ha n (i + 1) (by omega) (by omega) (by omega)
theorem zfu {pl rs : Int32} {ex ld tw le op rd ml cz : Nat → Int32} (hL : zL pl rs ex ld tw le op rd ml cz) {tr ur uy : Nat → Int32} {po ln wk : Int32} (htr : ∀ e, zE pl ex e → tr e = ur (rd e).toNatClampNeg) {a : Nat} (ha : (a : Int) < pl.toInt) : ∀ n i : Nat, i + n = 5 → i ≤ 4 → (LX0_firstUntried_t (nI a) tr op n i = -1 ∧ LX5_triesNext_t ex rd ld ml cz po ln wk ur uy (nI a) n i = (0, po, ln, wk, ur, uy)) ∨ ∃ e, zE pl ex e ∧ ¬ FX5_canTake rd cz ur (nI e) = 0 ∧ LX0_firstUntried_t (nI a) tr op n i = nI e ∧ LX5_triesNext_t ex rd ld ml cz po ln wk ur uy (nI a) n i = (1, ld e, ln + 1, wk + le e, upd ur (rd e).toNatClampNeg 1, upd uy ln.toNatClampNeg (nI e))
  | 0, i, h1, h2 => absurd h1 (by omega)
  | n + 1, i, h1, h2 => by
    have hpl := hL.1
    have hex4 := hL.2.1
    have hac : (nI a).toNatClampNeg = a := nI_clamp (by omega)
    by_cases c : ex (nI a).toNatClampNeg ≤ nI i
    · left
      have c' := c
      rw [hac, xle, nI_toInt (by omega)] at c'
      refine ⟨zfu0 hL ha (n + 1) i h1 h2 c', ?_⟩
      rw [LX5_triesNext_t, if_pos c]
    · have c' := c
      rw [hac, xle, nI_toInt (by omega)] at c'
      obtain ⟨hz, z1, z2, z3, z5, z6⟩ := zEi hpl hex4 ha (by omega : (i : Int) < (ex a).toInt)
      have c4 : ¬ 4 ≤ nI i := by rw [show (4 : Int32) = nI 4 from rfl, nI_leI (by decide) (by omega)]; omega
      by_cases cc : FX5_canTake rd cz ur (nI (4 * a + i)) = 0
      · have e0 : LX0_firstUntried_t (nI a) tr op (n + 1) i = LX0_firstUntried_t (nI a) tr op n (i + 1) := by
          rw [LX0_firstUntried_t, if_neg c4]
          unfold xbind
          try dsimp only
          rw [z4', zct hL htr hz, if_pos cc]
        have e1 : LX5_triesNext_t ex rd ld ml cz po ln wk ur uy (nI a) (n + 1) i = LX5_triesNext_t ex rd ld ml cz po ln wk ur uy (nI a) n (i + 1) := by
          rw [LX5_triesNext_t, if_neg c]
          unfold xbind
          try dsimp only
          rw [z4, if_pos cc]
        rw [e0, e1]
        exact zfu hL htr ha n (i + 1) (by omega) (by omega)
      · right
        refine ⟨4 * a + i, hz, cc, ?_, ?_⟩
        · rw [LX0_firstUntried_t, if_neg c4]
          unfold xbind
          try dsimp only
          rw [z4', zct hL htr hz, if_neg cc]
        · rw [LX5_triesNext_t, if_neg c]
          unfold xbind
          try dsimp only
          rw [z4, if_neg cc, ztake5 hL hz]
