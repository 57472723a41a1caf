/-! the class beside the reference: what holds between calls; the reads -/
def zI (N : Nat) (pl rs : Int32) (ex sh ld tw le op rd ml cz : Nat → Int32) (po pq go wl gu iv : Int32) (wy tr ak mx ms ur uk uy xe sg : Nat → Int32) : Prop :=
  zL pl rs ex ld tw le op rd ml cz ∧ (∀ k, k < 10 → sh k = 0 ∨ sh k = 1) ∧ gu = -1 ∧ (0 ≤ iv.toInt ∧ iv.toInt ≤ N) ∧ ((pq = po ∧ zC pl ex rd po go wl wy tr ak mx ms ur uk uy xe sg) ∨ (pl = 0 ∧ po = 0 ∧ pq = -1 ∧ go = -1 ∧ wl = 0 ∧ zB pl ex 0 wy ur uk uy ∧ zM pl ex mx ms xe sg ∧ (∀ k, k < 20 → ur k = 0)))
theorem zI_M {N : Nat} {pl rs po pq go wl gu iv : Int32} {ex sh ld tw le op rd ml cz wy tr ak mx ms ur uk uy xe sg : Nat → Int32} (hI : zI N pl rs ex sh ld tw le op rd ml cz po pq go wl gu iv wy tr ak mx ms ur uk uy xe sg) : zM pl ex mx ms xe sg := by
  rcases hI.2.2.2.2 with h | h
  · exact h.2.2.2.1
  · exact h.2.2.2.2.2.2.1
theorem zI_B {N : Nat} {pl rs po pq go wl gu iv : Int32} {ex sh ld tw le op rd ml cz wy tr ak mx ms ur uk uy xe sg : Nat → Int32} (hI : zI N pl rs ex sh ld tw le op rd ml cz po pq go wl gu iv wy tr ak mx ms ur uk uy xe sg) : zB pl ex wl wy ur uk uy := by
  rcases hI.2.2.2.2 with h | h
  · exact h.2.2.1
  · rw [h.2.2.2.2.1]; exact h.2.2.2.2.2.1
theorem zI_C {N : Nat} {pl rs po pq go wl gu iv : Int32} {ex sh ld tw le op rd ml cz wy tr ak mx ms ur uk uy xe sg : Nat → Int32} (hI : zI N pl rs ex sh ld tw le op rd ml cz po pq go wl gu iv wy tr ak mx ms ur uk uy xe sg) (h : 0 < pl.toInt) : pq = po ∧ zC pl ex rd po go wl wy tr ak mx ms ur uk uy xe sg := by
  rcases hI.2.2.2.2 with h1 | h1
  · exact h1
  · rw [h1.1] at h; exact absurd h (by decide)
theorem zot {ot : Nat → Int64} {r : Int64} : vp_updL ot (0 : Int32).toNatClampNeg r 0 = r := if_pos (by decide)
theorem zsb {x : Int32} (h : 0 ≤ x.toInt ∧ x.toInt ≤ 1000000) : (x - 1).toInt = x.toInt - 1 := by
  rw [Int32.toInt_sub, show (1 : Int32).toInt = 1 from rfl, Int.bmod_eq_of_le (by omega) (by omega)]
theorem zin0 {q lo hi : Int32} (h : ¬ (lo.toInt ≤ q.toInt ∧ q.toInt ≤ hi.toInt)) : FX5_isIn q lo hi = 0 := by
  unfold FX5_isIn
  by_cases c : q < lo
  · rw [if_pos c]
  · rw [xltI] at c
    rw [if_neg (by rw [xltI]; exact c), if_pos (by rw [xltI]; omega)]
theorem zin1 {q lo hi : Int32} (h : lo.toInt ≤ q.toInt ∧ q.toInt ≤ hi.toInt) : FX5_isIn q lo hi = 1 := by
  unfold FX5_isIn
  rw [if_neg (by rw [xltI]; omega), if_neg (by rw [xltI]; omega)]
theorem zplc {pl : Int32} (hpl : 0 ≤ pl.toInt ∧ pl.toInt ≤ 10) (q : Int32) : (FX1_isPlace pl q = 0 ∧ FX5_isPlace pl q = 0) ∨ ∃ j : Nat, q = nI j ∧ (j : Int) < pl.toInt ∧ FX1_isPlace pl q = 1 ∧ FX5_isPlace pl q = 1 := by
  have hs : (pl - 1).toInt = pl.toInt - 1 := zsb (by omega)
  have e0 : (0 : Int32).toInt = 0 := rfl
  have e5 : FX5_isPlace pl q = FX5_isIn q 0 (pl - 1) := rfl
  rw [e5]
  by_cases c : 0 ≤ q.toInt ∧ q.toInt < pl.toInt
  · right
    obtain ⟨j, h1, h2, h3⟩ := xofI c.1
    exact ⟨j, h2, by omega, zpl c, zin1 (by rw [hs, e0]; omega)⟩
  · left
    refine ⟨?_, zin0 (by rw [hs, e0]; omega)⟩
    unfold FX1_isPlace
    by_cases c0 : q < 0
    · rw [if_pos c0]
    · rw [xltI, e0] at c0
      rw [if_neg (by rw [xltI, e0]; exact c0), if_pos (by rw [xle]; omega)]
theorem zexc {pl : Int32} {ex : Nat → Int32} (hpl : 0 ≤ pl.toInt ∧ pl.toInt ≤ 10) (hex4 : ∀ k, k < 10 → 0 ≤ (ex k).toInt ∧ (ex k).toInt ≤ 4) (q x : Int32) : (FX1_endAt pl ex q x = -1 ∧ FX5_isExit pl ex q x = 0) ∨ ∃ j i : Nat, q = nI j ∧ x = nI i ∧ (j : Int) < pl.toInt ∧ (i : Int) < (ex j).toInt ∧ i < 4 ∧ zE pl ex (4 * j + i) ∧ FX1_endAt pl ex q x = nI (4 * j + i) ∧ FX5_isExit pl ex q x = 1 := by
  have e0 : (0 : Int32).toInt = 0 := rfl
  rcases zplc hpl q with ⟨h1, h2⟩ | ⟨j, h1, h2, h3, h4⟩
  · left
    constructor
    · unfold FX1_endAt xbind
      try dsimp only
      rw [h1, if_pos rfl]
    · unfold FX5_isExit xbind
      try dsimp only
      rw [h2, if_pos rfl]
  · subst h1
    have hjc : (nI j).toNatClampNeg = j := nI_clamp (by omega)
    have h4x := hex4 j (by omega)
    have hs : (ex j - 1).toInt = (ex j).toInt - 1 := zsb (by omega)
    by_cases c : 0 ≤ x.toInt ∧ x.toInt < (ex j).toInt
    · right
      obtain ⟨i, g1, g2, g3⟩ := xofI c.1
      obtain ⟨z1, -, -, z4, -, -⟩ := zEi hpl hex4 h2 (by omega : (i : Int) < (ex j).toInt)
      refine ⟨j, i, rfl, g2, h2, by omega, z4, z1, ?_, ?_⟩
      · rw [g2]; exact zend' h2 hpl (by omega) z4
      · unfold FX5_isExit xbind
        try dsimp only
        rw [h4, if_neg (by decide), hjc, zin1 (by rw [hs, e0]; omega), if_neg (by decide)]
    · left
      constructor
      · unfold FX1_endAt xbind
        try dsimp only
        rw [h3, if_neg (by decide), hjc]
        by_cases c0 : x < 0
        · rw [if_pos c0]
        · rw [xltI, e0] at c0
          rw [if_neg (by rw [xltI, e0]; exact c0), if_pos (by rw [xle]; omega)]
      · unfold FX5_isExit xbind
        try dsimp only
        rw [h4, if_neg (by decide), hjc, zin0 (by rw [hs, e0]; omega), if_pos rfl]
theorem zcp0 {pl q : Int32} (h : FX1_isPlace pl q = 0) : FX3_checkPlace pl q = (1, ()) := by
  unfold FX3_checkPlace
  rw [h]; rfl
theorem zcp1 {pl q : Int32} (h : FX1_isPlace pl q = 1) : FX3_checkPlace pl q = (0, ()) := by
  unfold FX3_checkPlace
  rw [h]; rfl
theorem zce0 {pl q x : Int32} {ex : Nat → Int32} (h : FX1_endAt pl ex q x = -1) : FX3_checkedEnd pl ex q x = (1, 0) := by
  unfold FX3_checkedEnd
  rw [h]; rfl
theorem zce1 {pl q x : Int32} {ex : Nat → Int32} {e : Nat} (h : FX1_endAt pl ex q x = nI e) (he : e < 40) : FX3_checkedEnd pl ex q x = (0, nI e) := by
  unfold FX3_checkedEnd
  rw [h]
  exact if_neg (zm1 (by omega))
theorem zbey {ld : Nat → Int32} {e : Nat} (h : e < 40) : FX1_beyond ld (nI e) = ld e := by
  unfold FX1_beyond xbind
  try dsimp only
  rw [zis h, if_neg (by decide), nI_clamp (by omega)]
theorem zmla {le : Nat → Int32} {e : Nat} (h : e < 40) : FX1_milesAt le (nI e) = le e := by
  unfold FX1_milesAt xbind
  try dsimp only
  rw [zis h, if_neg (by decide), nI_clamp (by omega)]
theorem zopa {op : Nat → Int32} {e : Nat} (h : e < 40) : FX1_opensAt op (nI e) = if op e = 0 then 0 else 1 := by
  unfold FX1_opensAt xbind
  try dsimp only
  rw [zis h, if_neg (by decide), nI_clamp (by omega)]
theorem zhtr {tr : Nat → Int32} {e : Nat} (h : e < 40) : FX0_hasTried tr (nI e) = if tr e = 0 then 0 else 1 := by
  unfold FX0_hasTried xbind
  try dsimp only
  rw [zis h, if_neg (by decide), nI_clamp (by omega)]
theorem zo_whereIs {N : Nat} {pl rs po pq go wl gu iv : Int32} {ex sh ld tw le op rd ml cz wy tr ak mx ms ur uk uy xe sg : Nat → Int32} (hI : zI N pl rs ex sh ld tw le op rd ml cz po pq go wl gu iv wy tr ak mx ms ur uk uy xe sg) : FX3_whereIs po pl = pq := by
  unfold FX3_whereIs
  rcases hI.2.2.2.2 with h | h
  · rw [if_neg, h.1]
    rw [xeqI, show (0 : Int32).toInt = 0 from rfl]
    have := h.2.1
    omega
  · rw [if_pos h.1, h.2.2.1]
theorem zo_exitsOf {N : Nat} {pl rs po pq go wl gu iv : Int32} {ex sh ld tw le op rd ml cz wy tr ak mx ms ur uk uy xe sg : Nat → Int32} (hI : zI N pl rs ex sh ld tw le op rd ml cz po pq go wl gu iv wy tr ak mx ms ur uk uy xe sg) (q : Int32) (ot : Nat → Int64) : ∃ (k b : Int32) (ot2 : Nat → Int64), FL_exitsOf pl ex q ot = (k, ot2) ∧ FX5_exitsOf pl ex q = (b, k) ∧ (k = 0 → ot2 0 = b.toInt64) := by
  rcases zplc hI.1.1 q with ⟨h1, h2⟩ | ⟨j, h1, h2, h3, h4⟩
  · refine ⟨1, 0, ot, ?_, ?_, fun h => absurd h (by decide)⟩
    · unfold FL_exitsOf FX3_exitsOf
      rw [zcp0 h1]; rfl
    · unfold FX5_exitsOf
      rw [h2]; rfl
  · refine ⟨0, ex q.toNatClampNeg, vp_updL ot (0 : Int32).toNatClampNeg (ex q.toNatClampNeg).toInt64, ?_, ?_, fun _ => zot⟩
    · unfold FL_exitsOf FX3_exitsOf
      rw [zcp1 h3]; rfl
    · unfold FX5_exitsOf
      rw [h4]; rfl
theorem zo_hasShepherd {N : Nat} {pl rs po pq go wl gu iv : Int32} {ex sh ld tw le op rd ml cz wy tr ak mx ms ur uk uy xe sg : Nat → Int32} (hI : zI N pl rs ex sh ld tw le op rd ml cz po pq go wl gu iv wy tr ak mx ms ur uk uy xe sg) (q : Int32) (ot : Nat → Int64) : ∃ (k b : Int32) (ot2 : Nat → Int64), FL_hasShepherd pl sh q ot = (k, ot2) ∧ FX5_hasShepherd pl sh q = (b, k) ∧ (k = 0 → ot2 0 = if b = 0 then 0 else 1) := by
  rcases zplc hI.1.1 q with ⟨h1, h2⟩ | ⟨j, h1, h2, h3, h4⟩
  · refine ⟨1, 0, ot, ?_, ?_, fun h => absurd h (by decide)⟩
    · unfold FL_hasShepherd FX3_hasShepherd
      rw [zcp0 h1]; rfl
    · unfold FX5_hasShepherd
      rw [h2]; rfl
  · have e1 : FX5_hasShepherd pl sh q = (sh q.toNatClampNeg, 0) := by
      unfold FX5_hasShepherd
      rw [h4]; rfl
    by_cases c : sh q.toNatClampNeg = 0
    · refine ⟨0, sh q.toNatClampNeg, vp_updL ot (0 : Int32).toNatClampNeg 0, ?_, e1, fun _ => by rw [if_pos c]; exact zot⟩
      unfold FL_hasShepherd FX3_hasShepherd
      rw [zcp1 h3]
      exact if_pos c
    · refine ⟨0, sh q.toNatClampNeg, vp_updL ot (0 : Int32).toNatClampNeg 1, ?_, e1, fun _ => by rw [if_neg c]; exact zot⟩
      unfold FL_hasShepherd FX3_hasShepherd
      rw [zcp1 h3]
      exact if_neg c
theorem zo_leadsTo {N : Nat} {pl rs po pq go wl gu iv : Int32} {ex sh ld tw le op rd ml cz wy tr ak mx ms ur uk uy xe sg : Nat → Int32} (hI : zI N pl rs ex sh ld tw le op rd ml cz po pq go wl gu iv wy tr ak mx ms ur uk uy xe sg) (q x : Int32) (ot : Nat → Int64) : ∃ (k b : Int32) (ot2 : Nat → Int64), FL_leadsTo pl ex ld q x ot = (k, ot2) ∧ FX5_leadsTo pl ex ld q x = (b, k) ∧ (k = 0 → ot2 0 = b.toInt64) := by
  rcases zexc hI.1.1 hI.1.2.1 q x with ⟨h1, h2⟩ | ⟨j, i, h1, h2, h3, h4, h5, h6, h7, h8⟩
  · refine ⟨1, 0, ot, ?_, ?_, fun h => absurd h (by decide)⟩
    · unfold FL_leadsTo FX3_leadsTo
      rw [zce0 h1]; rfl
    · unfold FX5_leadsTo
      rw [h2]; rfl
  · have h40 := h6.1
    refine ⟨0, ld (4 * j + i), vp_updL ot (0 : Int32).toNatClampNeg (ld (4 * j + i)).toInt64, ?_, ?_, fun _ => zot⟩
    · unfold FL_leadsTo FX3_leadsTo
      rw [zce1 h7 h40]
      show (0, vp_updL ot (0 : Int32).toNatClampNeg (FX1_beyond ld (nI (4 * j + i))).toInt64) = _
      rw [zbey h40]
    · unfold FX5_leadsTo
      rw [h8, h1, h2, z4, nI_clamp (by omega)]; rfl
theorem zo_milesOf {N : Nat} {pl rs po pq go wl gu iv : Int32} {ex sh ld tw le op rd ml cz wy tr ak mx ms ur uk uy xe sg : Nat → Int32} (hI : zI N pl rs ex sh ld tw le op rd ml cz po pq go wl gu iv wy tr ak mx ms ur uk uy xe sg) (q x : Int32) (ot : Nat → Int64) : ∃ (k b : Int32) (ot2 : Nat → Int64), FL_milesOf pl ex le q x ot = (k, ot2) ∧ FX5_milesOf pl ex rd ml q x = (b, k) ∧ (k = 0 → ot2 0 = b.toInt64) := by
  rcases zexc hI.1.1 hI.1.2.1 q x with ⟨h1, h2⟩ | ⟨j, i, h1, h2, h3, h4, h5, h6, h7, h8⟩
  · refine ⟨1, 0, ot, ?_, ?_, fun h => absurd h (by decide)⟩
    · unfold FL_milesOf FX3_milesOf
      rw [zce0 h1]; rfl
    · unfold FX5_milesOf
      rw [h2]; rfl
  · have h40 := h6.1
    obtain ⟨v1, v2, v3, v4, v5, v6, v7⟩ := hI.1.2.2.2.2.2.2.2.2.2.1 _ h6
    refine ⟨0, le (4 * j + i), vp_updL ot (0 : Int32).toNatClampNeg (le (4 * j + i)).toInt64, ?_, ?_, fun _ => zot⟩
    · unfold FL_milesOf FX3_milesOf
      rw [zce1 h7 h40]
      show (0, vp_updL ot (0 : Int32).toNatClampNeg (FX1_milesAt le (nI (4 * j + i))).toInt64) = _
      rw [zmla h40]
    · unfold FX5_milesOf
      rw [h8, h1, h2, z4, nI_clamp (by omega), v5]; rfl
theorem zo_isOpen {N : Nat} {pl rs po pq go wl gu iv : Int32} {ex sh ld tw le op rd ml cz wy tr ak mx ms ur uk uy xe sg : Nat → Int32} (hI : zI N pl rs ex sh ld tw le op rd ml cz po pq go wl gu iv wy tr ak mx ms ur uk uy xe sg) (q x : Int32) (ot : Nat → Int64) : ∃ (k b : Int32) (ot2 : Nat → Int64), FL_isOpen pl ex op q x ot = (k, ot2) ∧ FX5_isOpen pl ex rd cz q x = (b, k) ∧ (k = 0 → ot2 0 = if b = 0 then 0 else 1) := by
  rcases zexc hI.1.1 hI.1.2.1 q x with ⟨h1, h2⟩ | ⟨j, i, h1, h2, h3, h4, h5, h6, h7, h8⟩
  · refine ⟨1, 0, ot, ?_, ?_, fun h => absurd h (by decide)⟩
    · unfold FL_isOpen FX3_isOpen
      rw [zce0 h1]; rfl
    · unfold FX5_isOpen
      rw [h2]; rfl
  · have h40 := h6.1
    have v6 := (hI.1.2.2.2.2.2.2.2.2.2.1 _ h6).2.2.2.2.2.1
    have e0 : FL_isOpen pl ex op q x ot = if (if op (4 * j + i) = 0 then (0 : Int32) else 1) = 0 then (0, vp_updL ot (0 : Int32).toNatClampNeg 0) else (0, vp_updL ot (0 : Int32).toNatClampNeg 1) := by
      unfold FL_isOpen FX3_isOpen
      rw [zce1 h7 h40, ← zopa h40]
      rfl
    have e1 : FX5_isOpen pl ex rd cz q x = if cz (rd (4 * j + i)).toNatClampNeg = 0 then (1, 0) else (0, 0) := by
      unfold FX5_isOpen
      rw [h8, h1, h2, z4, nI_clamp (by omega)]; rfl
    by_cases c : op (4 * j + i) = 0
    · refine ⟨0, 0, vp_updL ot (0 : Int32).toNatClampNeg 0, ?_, ?_, fun _ => zot⟩
      · rw [e0, if_pos c, if_pos rfl]
      · rw [e1, if_neg (v6.mp c)]
    · refine ⟨0, 1, vp_updL ot (0 : Int32).toNatClampNeg 1, ?_, ?_, fun _ => zot⟩
      · rw [e0, if_neg c, if_neg (by decide)]
      · rw [e1, if_pos (Classical.byContradiction fun h => c (v6.mpr h))]
theorem zo_isTried {N : Nat} {pl rs po pq go wl gu iv : Int32} {ex sh ld tw le op rd ml cz wy tr ak mx ms ur uk uy xe sg : Nat → Int32} (hI : zI N pl rs ex sh ld tw le op rd ml cz po pq go wl gu iv wy tr ak mx ms ur uk uy xe sg) (q x : Int32) (ot : Nat → Int64) : ∃ (k b : Int32) (ot2 : Nat → Int64), FL_isTried go tr pl ex q x ot = (k, ot2) ∧ FX5_isTried pl ex rd ur q x = (b, k) ∧ (k = 0 → ot2 0 = if b = 0 then 0 else 1) := by
  rcases zexc hI.1.1 hI.1.2.1 q x with ⟨h1, h2⟩ | ⟨j, i, h1, h2, h3, h4, h5, h6, h7, h8⟩
  · refine ⟨1, 0, ot, ?_, ?_, fun h => absurd h (by decide)⟩
    · unfold FL_isTried FX3_isTried
      rw [zce0 h1]; rfl
    · unfold FX5_isTried
      rw [h2]; rfl
  · have h40 := h6.1
    have e1 : FX5_isTried pl ex rd ur q x = (ur (rd (4 * j + i)).toNatClampNeg, 0) := by
      unfold FX5_isTried
      rw [h8, h1, h2, z4, nI_clamp (by omega)]; rfl
    have hC := zI_C hI (by omega)
    rcases hC.2.2.2.2 with ⟨g1, g2, g3⟩ | ⟨g1, g2, g3⟩
    · have u0 := g3 _ (xcl (hI.1.2.2.2.2.2.2.2.1 _ h40))
      refine ⟨0, 0, vp_updL ot (0 : Int32).toNatClampNeg 0, ?_, ?_, fun _ => zot⟩
      · unfold FL_isTried FX3_isTried
        rw [zce1 h7 h40, zun1 g1]
        rfl
      · rw [e1, u0]
    · have e0 : FL_isTried go tr pl ex q x ot = if tr (4 * j + i) = 0 then (0, vp_updL ot (0 : Int32).toNatClampNeg 0) else (0, vp_updL ot (0 : Int32).toNatClampNeg 1) := by
        have e2 : FX3_isTried go tr pl ex q x = if (if tr (4 * j + i) = 0 then (0 : Int32) else 1) = 0 then (0, 0) else (0, 1) := by
          unfold FX3_isTried
          rw [zce1 h7 h40, zun2 (zgm g1), ← zhtr h40]
          rfl
        unfold FL_isTried
        rw [e2]
        by_cases c : tr (4 * j + i) = 0
        · rw [if_pos c, if_pos c, if_pos rfl]; rfl
        · rw [if_neg c, if_neg c, if_neg (by decide)]; rfl
      have e3 := g3.1 _ h6
      by_cases c : tr (4 * j + i) = 0
      · refine ⟨0, 0, vp_updL ot (0 : Int32).toNatClampNeg 0, ?_, ?_, fun _ => zot⟩
        · rw [e0, if_pos c]
        · rw [e1, ← e3, c]
      · refine ⟨0, 1, vp_updL ot (0 : Int32).toNatClampNeg 1, ?_, ?_, fun _ => zot⟩
        · rw [e0, if_neg c]
        · rw [e1]
          rcases hC.2.2.1.1 _ (xcl (hI.1.2.2.2.2.2.2.2.1 _ h40)) with h | h
          · exact absurd (e3.trans h) c
          · rw [h]
theorem zo_remembered {N : Nat} {pl rs po pq go wl gu iv : Int32} {ex sh ld tw le op rd ml cz wy tr ak mx ms ur uk uy xe sg : Nat → Int32} (hI : zI N pl rs ex sh ld tw le op rd ml cz po pq go wl gu iv wy tr ak mx ms ur uk uy xe sg) (g q : Int32) (ot : Nat → Int64) : ∃ (k b : Int32) (ot2 : Nat → Int64), FL_remembered mx ms pl g q ot = (k, ot2) ∧ FX5_remembered pl xe g q = (b, k) ∧ (k = 0 → ot2 0 = b.toInt64) := by
  have hpl := hI.1.1
  rcases zplc hI.1.1 g with ⟨h1, h2⟩ | ⟨j, h1, h2, h3, h4⟩
  · refine ⟨1, 0, ot, ?_, ?_, fun h => absurd h (by decide)⟩
    · unfold FL_remembered FX3_remembered
      rw [zcp0 h1]; rfl
    · unfold FX5_remembered
      rw [h2]; rfl
  · rcases zplc hI.1.1 q with ⟨k1, k2⟩ | ⟨i, k1, k2, k3, k4⟩
    · refine ⟨1, 0, ot, ?_, ?_, fun h => absurd h (by decide)⟩
      · unfold FL_remembered FX3_remembered
        rw [zcp1 h3, zcp0 k1]; rfl
      · unfold FX5_remembered
        rw [h4, k2]; rfl
    · refine ⟨0, xe (10 * j + i), vp_updL ot (0 : Int32).toNatClampNeg (xe (10 * j + i)).toInt64, ?_, ?_, fun _ => zot⟩
      · unfold FL_remembered FX3_remembered
        rw [zcp1 h3, zcp1 k3]
        show (0, vp_updL ot (0 : Int32).toNatClampNeg (FX2_exitFor mx ms g q).toInt64) = _
        rw [h1, k1, zexf (zI_M hI) (by omega) (by omega)]
      · unfold FX5_remembered
        rw [h4, k4, h1, k1, z10, nI_clamp (by omega)]; rfl
theorem zo_strength {N : Nat} {pl rs po pq go wl gu iv : Int32} {ex sh ld tw le op rd ml cz wy tr ak mx ms ur uk uy xe sg : Nat → Int32} (hI : zI N pl rs ex sh ld tw le op rd ml cz po pq go wl gu iv wy tr ak mx ms ur uk uy xe sg) (g q : Int32) (ot : Nat → Int64) : ∃ (k b : Int32) (ot2 : Nat → Int64), FL_strength ms pl g q ot = (k, ot2) ∧ FX5_strength pl xe sg g q = (b, k) ∧ (k = 0 → ot2 0 = b.toInt64) := by
  have hpl := hI.1.1
  rcases zplc hI.1.1 g with ⟨h1, h2⟩ | ⟨j, h1, h2, h3, h4⟩
  · refine ⟨1, 0, ot, ?_, ?_, fun h => absurd h (by decide)⟩
    · unfold FL_strength FX3_strength
      rw [zcp0 h1]; rfl
    · unfold FX5_strength
      rw [h2]; rfl
  · rcases zplc hI.1.1 q with ⟨k1, k2⟩ | ⟨i, k1, k2, k3, k4⟩
    · refine ⟨1, 0, ot, ?_, ?_, fun h => absurd h (by decide)⟩
      · unfold FL_strength FX3_strength
        rw [zcp1 h3, zcp0 k1]; rfl
      · unfold FX5_strength
        rw [h4, k2]; rfl
    · refine ⟨0, FX5_strengthOf xe sg (nI (10 * j + i)), vp_updL ot (0 : Int32).toNatClampNeg (FX5_strengthOf xe sg (nI (10 * j + i))).toInt64, ?_, ?_, fun _ => zot⟩
      · unfold FL_strength FX3_strength
        rw [zcp1 h3, zcp1 k3]
        show (0, vp_updL ot (0 : Int32).toNatClampNeg (FX2_strengthFor ms g q).toInt64) = _
        rw [h1, k1, zstr (zI_M hI) (by omega) (by omega)]
      · unfold FX5_strength
        rw [h4, k4, h1, k1, z10]; rfl
theorem zo_distance {N : Nat} {pl rs po pq go wl gu iv : Int32} {ex sh ld tw le op rd ml cz wy tr ak mx ms ur uk uy xe sg : Nat → Int32} (hI : zI N pl rs ex sh ld tw le op rd ml cz po pq go wl gu iv wy tr ak mx ms ur uk uy xe sg) (q g : Int32) (fa fb : Nat → Int32) (ot : Nat → Int64) : ∃ (k b : Int32) (fa2 fb2 : Nat → Int32) (ot2 : Nat → Int64), FL_distance pl ld le op fa q g ot = (k, fa2, ot2) ∧ FX5_distance pl ex rd ld ml cz fb q g = (b, k, fb2) ∧ (k = 0 → ot2 0 = b.toInt64) := by
  have hpl := hI.1.1
  rcases zplc hI.1.1 q with ⟨h1, h2⟩ | ⟨j, h1, h2, h3, h4⟩
  · refine ⟨1, 0, fa, fb, ot, ?_, ?_, fun h => absurd h (by decide)⟩
    · unfold FL_distance FX3_distance
      rw [zcp0 h1]; rfl
    · unfold FX5_distance
      rw [h2]; rfl
  · rcases zplc hI.1.1 g with ⟨k1, k2⟩ | ⟨i, k1, k2, k3, k4⟩
    · refine ⟨1, 0, fa, fb, ot, ?_, ?_, fun h => absurd h (by decide)⟩
      · unfold FL_distance FX3_distance
        rw [zcp1 h3, zcp0 k1]; rfl
      · unfold FX5_distance
        rw [h4, k2]; rfl
    · have hji : (nI j).toInt = j := nI_toInt (by omega)
      have hii : (nI i).toInt = i := nI_toInt (by omega)
      have hs := zshort hI.1 fa fb (q := q) (g := g) (by rw [h1, hji]; omega) (by rw [k1, hii]; omega)
      refine ⟨0, (FX5_milesBetween pl ex rd ld ml cz fb q g).1, (FX1_shortest pl ld le op fa q g).2, (FX5_milesBetween pl ex rd ld ml cz fb q g).2, vp_updL ot (0 : Int32).toNatClampNeg (FX5_milesBetween pl ex rd ld ml cz fb q g).1.toInt64, ?_, ?_, fun _ => zot⟩
      · unfold FL_distance FX3_distance
        rw [zcp1 h3, zcp1 k3, ← hs]; rfl
      · unfold FX5_distance
        rw [h4, k4]; rfl
theorem zknow {pl rs : Int32} {ex ld tw le op rd ml cz : Nat → Int32} (hL : zL pl rs ex ld tw le op rd ml cz) {mx ms xe sg : Nat → Int32} (hM : zM pl ex mx ms xe sg) {b : Nat} (hb : (b : Int) < pl.toInt) : ∀ (n i a : Nat), (a : Int) < pl.toInt → LX0_findsByMemory_t mx ms pl ex ld op (nI b) n i (nI a) = LX5_knows_t rd ld cz xe (nI b) n i (nI a)
  | 0, _, _, _ => rfl
  | n + 1, i, a, ha => by
    have hpl := hL.1
    have hex4 := hL.2.1
    rw [LX0_findsByMemory_t, LX5_knows_t]
    by_cases c1 : 10 ≤ nI i
    · rw [if_pos c1, if_pos c1]
    · by_cases c2 : nI a = nI b
      · rw [if_neg c1, if_neg c1, if_pos c2, if_pos c2]
      · rw [if_neg c1, if_neg c1, if_neg c2, if_neg c2]
        unfold xbind
        try dsimp only
        rw [zexf hM (by omega) (by omega), z10, nI_clamp (by omega)]
        rcases zxe hpl hex4 hM (a := a) (b := b) (by omega) (by omega) with h | ⟨x, h1, h2, h3, h4, h5⟩
        · rw [h, if_pos rfl, zendm ha hpl]
          rfl
        · have h40 := h3.1
          obtain ⟨v1, v2, v3, v4, v5, v6, v7⟩ := hL.2.2.2.2.2.2.2.2.2.1 _ h3
          rw [h2, if_neg (zm1 (by omega)), zend' ha hpl h4 h1, zopa h40, z4, nI_clamp (by omega), zbey h40]
          by_cases c : op (4 * a + x) = 0
          · rw [if_pos c, if_pos rfl, if_neg (v6.mp c)]
          · rw [if_neg c, if_neg (by decide), if_pos (Classical.byContradiction fun h => c (v6.mpr h))]
            have hld := hL.2.2.2.1 _ h40
            have e : ld (4 * a + x) = nI (ld (4 * a + x)).toNatClampNeg := (znI hld.1).symm
            have hn := znat hld.1
            rw [e]
            exact zknow hL hM hb n (i + 1) _ (by omega)
theorem zo_knowsWay {N : Nat} {pl rs po pq go wl gu iv : Int32} {ex sh ld tw le op rd ml cz wy tr ak mx ms ur uk uy xe sg : Nat → Int32} (hI : zI N pl rs ex sh ld tw le op rd ml cz po pq go wl gu iv wy tr ak mx ms ur uk uy xe sg) (g : Int32) (ot : Nat → Int64) : ∃ (k b : Int32) (ot2 : Nat → Int64), FL_knowsWay po mx ms pl ex ld op g ot = (k, ot2) ∧ FX5_knowsWay pl rd ld cz pq xe g = (b, k) ∧ (k = 0 → ot2 0 = if b = 0 then 0 else 1) := by
  have hpl := hI.1.1
  rcases zplc hI.1.1 g with ⟨h1, h2⟩ | ⟨j, h1, h2, h3, h4⟩
  · refine ⟨1, 0, ot, ?_, ?_, fun h => absurd h (by decide)⟩
    · unfold FL_knowsWay FX3_knowsWay
      rw [zcp0 h1]; rfl
    · unfold FX5_knowsWay
      rw [h2]; rfl
  · have hC := zI_C hI (by omega)
    have hpo := hC.2.1
    have e : FX0_findsByMemory po mx ms pl ex ld op g = FX5_knows rd ld cz pq xe g := by
      have hn := znat hpo.1
      rw [hC.1, h1, ← znI hpo.1]
      exact zknow hI.1 (zI_M hI) h2 11 0 _ (by omega)
    have e1 : FX5_knowsWay pl rd ld cz pq xe g = (FX5_knows rd ld cz pq xe g, 0) := by
      unfold FX5_knowsWay
      rw [h4]; rfl
    have e0 : FL_knowsWay po mx ms pl ex ld op g ot = if FX5_knows rd ld cz pq xe g = 0 then (0, vp_updL ot (0 : Int32).toNatClampNeg 0) else (0, vp_updL ot (0 : Int32).toNatClampNeg 1) := by
      unfold FL_knowsWay FX3_knowsWay
      rw [zcp1 h3, e]
      rfl
    by_cases c : FX5_knows rd ld cz pq xe g = 0
    · exact ⟨0, _, _, by rw [e0, if_pos c], e1, fun _ => by rw [if_pos c]; exact zot⟩
    · exact ⟨0, _, _, by rw [e0, if_neg c], e1, fun _ => by rw [if_neg c]; exact zot⟩
