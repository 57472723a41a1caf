/-! the class's looks, where what is asked for is there -/
/-- miles as told -/
def tD (x : Nat) : Int32 := if x = 9999 then -1 else nI x
/-- it is x miles from a to b -/
def dI (pl : Int32) (ex ld le op : Nat → Int32) (a b x : Nat) : Prop := ∃ F : Nat → Nat, eD (zeo pl ex op) (zq ld) (zq le) b F ∧ (∀ p, F p = 9999 ∨ F p ≤ 9990) ∧ F a = x
section LK
variable {pl rs : Int32} {ex ld tw le op rd ml cz : Nat → Int32} {n : Nat}
theorem lpc {p : Nat} (hL : zL pl rs ex ld tw le op rd ml cz) (hp : (p : Int) < pl.toInt) : FX3_checkPlace pl (nI p) = (0, ()) := by
  have hpl := hL.1
  rcases zplc hpl (nI p) with ⟨h1, h2⟩ | ⟨j, h1, h2, h3, h4⟩
  · exfalso
    have := zpl (pl := pl) (q := nI p) (by rw [nI_toInt (by omega)]; omega)
    rw [h1] at this
    exact absurd this (by decide)
  · exact zcp1 h3
theorem lec {p x : Nat} (hL : zL pl rs ex ld tw le op rd ml cz) (he : zE pl ex (4 * p + x)) (hx : x < 4) : FX3_checkedEnd pl ex (nI p) (nI x) = (0, nI (4 * p + x)) := by
  obtain ⟨h1, h2, h3⟩ := he
  have e1 : (4 * p + x) / 4 = p := by omega
  have e2 : (4 * p + x) % 4 = x := by omega
  rw [e1] at h2 h3
  rw [e2] at h3
  exact zce1 (zend' h2 hL.1 h3 hx) h1
theorem l_exitsOf (hL : zL pl rs ex ld tw le op rd ml cz) {p : Nat} (hp : (p : Int) < pl.toInt) : FX3_exitsOf pl ex (nI p) = (0, ex p) := by
  have := hL.1
  unfold FX3_exitsOf
  rw [lpc hL hp, nI_clamp (by omega)]
  rfl
theorem l_hasShepherd (hL : zL pl rs ex ld tw le op rd ml cz) {sh : Nat → Int32} {p : Nat} (hp : (p : Int) < pl.toInt) : FX3_hasShepherd pl sh (nI p) = (0, sh p) := by
  have := hL.1
  unfold FX3_hasShepherd
  rw [lpc hL hp, nI_clamp (by omega)]
  rfl
theorem l_leadsTo (hL : zL pl rs ex ld tw le op rd ml cz) {p x : Nat} (he : zE pl ex (4 * p + x)) (hx : x < 4) : FX3_leadsTo pl ex ld (nI p) (nI x) = (0, ld (4 * p + x)) := by
  unfold FX3_leadsTo
  rw [lec hL he hx]
  show (0, FX1_beyond ld (nI (4 * p + x))) = _
  rw [zbey he.1]
theorem l_milesOf (hL : zL pl rs ex ld tw le op rd ml cz) {p x : Nat} (he : zE pl ex (4 * p + x)) (hx : x < 4) : FX3_milesOf pl ex le (nI p) (nI x) = (0, le (4 * p + x)) := by
  unfold FX3_milesOf
  rw [lec hL he hx]
  show (0, FX1_milesAt le (nI (4 * p + x))) = _
  rw [zmla he.1]
theorem l_isOpen (hL : zL pl rs ex ld tw le op rd ml cz) {p x : Nat} (he : zE pl ex (4 * p + x)) (hx : x < 4) : FX3_isOpen pl ex op (nI p) (nI x) = (0, if op (4 * p + x) = 0 then 0 else 1) := by
  unfold FX3_isOpen
  rw [lec hL he hx]
  show (0, FX1_opensAt op (nI (4 * p + x))) = _
  rw [zopa he.1]
theorem l_isTried (hL : zL pl rs ex ld tw le op rd ml cz) {go : Int32} {tr : Nat → Int32} {p x : Nat} (he : zE pl ex (4 * p + x)) (hx : x < 4) : FX3_isTried go tr pl ex (nI p) (nI x) = (0, if go = -1 then 0 else if tr (4 * p + x) = 0 then 0 else 1) := by
  unfold FX3_isTried
  rw [lec hL he hx]
  unfold xbt2 xbind
  dsimp only
  rw [if_pos rfl]
  by_cases c : go = -1
  · rw [if_pos c, zun1 c, if_pos rfl]
  · rw [if_neg c, zun2 c, if_neg (by decide), zhtr he.1]
    by_cases d : tr (4 * p + x) = 0
    · rw [if_pos d, if_pos rfl]
    · rw [if_neg d, if_neg (by decide)]
theorem l_remembered (hL : zL pl rs ex ld tw le op rd ml cz) {mx ms xe sg : Nat → Int32} (hM : zM pl ex mx ms xe sg) {g p : Nat} (hg : (g : Int) < pl.toInt) (hp : (p : Int) < pl.toInt) : FX3_remembered mx ms pl (nI g) (nI p) = (0, xe (10 * g + p)) := by
  have := hL.1
  unfold FX3_remembered
  rw [lpc hL hg, lpc hL hp]
  show (0, FX2_exitFor mx ms (nI g) (nI p)) = _
  rw [zexf hM (by omega) (by omega)]
theorem l_strength (hL : zL pl rs ex ld tw le op rd ml cz) {mx ms xe sg : Nat → Int32} (hM : zM pl ex mx ms xe sg) {g p : Nat} (hg : (g : Int) < pl.toInt) (hp : (p : Int) < pl.toInt) : FX3_strength ms pl (nI g) (nI p) = (0, if xe (10 * g + p) = -1 then 0 else sg (10 * g + p)) := by
  have := hL.1
  unfold FX3_strength
  rw [lpc hL hg, lpc hL hp]
  show (0, FX2_strengthFor ms (nI g) (nI p)) = _
  rw [zstr hM (by omega) (by omega)]
  unfold FX5_strengthOf
  rw [nI_clamp (by omega)]
theorem l_distance (hL : zL pl rs ex ld tw le op rd ml cz) (fa : Nat → Int32) {p g : Nat} (hp : (p : Int) < pl.toInt) (hg : (g : Int) < pl.toInt) : ∃ x fa2, FX3_distance pl ld le op fa (nI p) (nI g) = (0, tD x, fa2) ∧ dI pl ex ld le op p g x ∧ (x = 9999 ∨ x ≤ 9990) := by
  have hpl := hL.1
  obtain ⟨F, f1, f2, f3, f4⟩ := dF hL fa (fun _ => 0) hg
  refine ⟨F p, (FX1_shortest pl ld le op fa (nI p) (nI g)).2, ?_, ⟨F, f1, f2, rfl⟩, f2 p⟩
  unfold FX3_distance
  rw [lpc hL hp, lpc hL hg]
  have hs := zshort hL fa (fun _ => 0) (q := nI p) (g := nI g) (by rw [nI_toInt (by omega)]; omega) (by rw [nI_toInt (by omega)]; omega)
  have e : (FX5_milesBetween pl ex rd ld ml cz (fun _ => 0) (nI p) (nI g)).1 = tD (F p) := by
    unfold FX5_milesBetween xbind tD
    dsimp only
    rw [nI_clamp (by omega), f3 p hp]
    by_cases c : F p = 9999
    · rw [if_pos c, c, if_pos (show nI 9999 = 9999 from rfl)]
    · have h9 : ¬ nI (F p) = 9999 := fun h => c (nI_inj (by have := f2 p; omega) (by omega) (h.trans (show (9999 : Int32) = nI 9999 from rfl)))
      rw [if_neg c, if_neg h9]
  show (0, (FX1_shortest pl ld le op fa (nI p) (nI g)).1, _) = _
  rw [hs, e]
theorem l_knowsWay (hL : zL pl rs ex ld tw le op rd ml cz) {mx ms xe sg : Nat → Int32} (hM : zM pl ex mx ms xe sg) {g a : Nat} (hg : (g : Int) < pl.toInt) (ha : (a : Int) < pl.toInt) : FX3_knowsWay (nI a) mx ms pl ex ld op (nI g) = (0, LX5_knows_t rd ld cz xe (nI g) 11 0 (nI a)) := by
  unfold FX3_knowsWay
  rw [lpc hL hg]
  show (0, LX0_findsByMemory_t mx ms pl ex ld op (nI g) 11 0 (nI a)) = _
  rw [zknow hL hM hg 11 0 a ha]
/-! miles between places -/
theorem dI_u (hL : zL pl rs ex ld tw le op rd ml cz) {a b x y : Nat} (hb : (b : Int) < pl.toInt) (ha : (a : Int) < pl.toInt) (h1 : dI pl ex ld le op a b x) (h2 : dI pl ex ld le op b a y) : x = y := by
  obtain ⟨F, f1, f2, rfl⟩ := h1
  obtain ⟨P, p1, p2, rfl⟩ := h2
  exact esym (rL_eT hL) f1 p1 (dF9 f2 a) (dF9 p2 b)
theorem dI_0 (hL : zL pl rs ex ld tw le op rd ml cz) {a b x : Nat} (h : dI pl ex ld le op a b x) : x = 0 ↔ a = b := by
  obtain ⟨F, f1, f2, rfl⟩ := h
  exact ⟨fun h => ezero (rL_eT hL) f1 h, fun h => by rw [h]; exact f1.2.2⟩
theorem dI_t (hL : zL pl rs ex ld tw le op rd ml cz) {p k o x y z : Nat} (h1 : dI pl ex ld le op p k x) (h2 : dI pl ex ld le op k o y) (h3 : dI pl ex ld le op p o z) (hx : x < 9999) : z ≤ x + y := by
  obtain ⟨A, a1, a2, rfl⟩ := h1
  obtain ⟨B, b1, b2, rfl⟩ := h2
  obtain ⟨C, c1, c2, rfl⟩ := h3
  have hBC : B k = C k := by
    rcases Nat.lt_or_ge (B k) 9999 with h | h
    · have i1 := (enear (rL_eT hL) b1 c1 _ k rfl h).1
      have i2 := c1.2.2
      rcases Nat.lt_or_ge (C k) 9999 with h' | h'
      · have j1 := (enear (rL_eT hL) c1 b1 _ k rfl h').1
        have j2 := b1.2.2
        omega
      · omega
    · rcases Nat.lt_or_ge (C k) 9999 with h' | h'
      · have j1 := (enear (rL_eT hL) c1 b1 _ k rfl h').1
        have j2 := b1.2.2
        omega
      · have := dF9 b2 k
        have := dF9 c2 k
        omega
  have := etri (rL_eT hL) a1 c1 hx
  omega
theorem dI_e (hL : zL pl rs ex ld tw le op rd ml cz) {e x : Nat} (he : zeo pl ex op e = true) (h : dI pl ex ld le op (e / 4) (zq ld e) x) : x ≤ zq le e := by
  obtain ⟨F, f1, f2, rfl⟩ := h
  have := f1.2.1 e he
  have := f1.2.2
  omega
end LK
