/-! the law's looks and its errand: what they tell -/
/-- miles between places: no more than 9 for each place that is nearer -/
theorem e90 {E : Nat → Bool} {q w tw : Nat → Nat} {g : Nat} {F : Nat → Nat} (hT : eT E q w tw) (hF : eD E q w g F) (hw : ∀ e, E e = true → w e ≤ 9) (hq : ∀ e, E e = true → q e < 10) : ∀ n x, F x = n → n < 9999 → F x ≤ 9 * eCn (fun y => decide (F y < F x)) 10 := by
  intro n
  induction n using Nat.strongRecOn with
  | ind n ih =>
    intro x hx hn
    rcases hF.1 x (by omega) with rfl | ⟨e, hE, he, hle⟩
    · rw [hF.2.2]; exact Nat.zero_le _
    · obtain ⟨-, -, -, -, h5⟩ := hT e hE
      have h9 := hw e hE
      have i1 := ih (F (q e)) (by omega) (q e) rfl (by omega)
      have j1 := eCn_lt (T := fun y => decide (F y < F (q e))) (T2 := fun y => decide (F y < F x)) (x := q e) (fun k hk => by have := of_decide_eq_true hk; exact decide_eq_true (by omega)) (decide_eq_false (by omega)) (decide_eq_true (by omega)) 10 (hq e hE)
      have j2 := hF.2.1 e hE
      rw [he] at j2
      omega
theorem e90' {E : Nat → Bool} {q w tw : Nat → Nat} {g : Nat} {F : Nat → Nat} (hT : eT E q w tw) (hF : eD E q w g F) (hw : ∀ e, E e = true → w e ≤ 9) (hq : ∀ e, E e = true → q e < 10) {x : Nat} (h : F x < 9999) : F x ≤ 90 := by
  have := e90 hT hF hw hq _ x rfl h
  have := eCn_le (fun y => decide (F y < F x)) 10
  omega
section LP9
variable {N : Nat} {B : Int} {z : Nat → Int32} {r : Nat → Nat → Int32} {rs : Int32} {q : Nat → Nat → Int32} {n : Nat} {xn : Nat → Nat} {xr : Nat → Nat → Int32} {nr : Nat} {v : Nat → Int32} {rw : Nat → Nat → Int32} {ak : Nat → Int32} {wl : Nat} {wy : Nat → Nat → Int32} {mp : Nat → Nat → Bool} {mm : Nat → Nat → Nat → Int32}
theorem c_free (h : cA N B z r rs q n xn xr nr v rw ak wl wy mp mm) (h3 : z 3 = -1) : z 4 = 0 := by
  obtain ⟨hI, -⟩ := h
  rcases hI.2.2.2.2 with h1 | h1
  · rcases h1.2.2.2.2 with h2 | h2
    · exact h2.2.1
    · have := h2.1.1
      rw [h3, show (-1 : Int32).toInt = -1 from rfl] at this
      omega
  · exact h1.2.2.2.2.1
theorem c_N (h : cA N B z r rs q n xn xr nr v rw ak wl wy mp mm) : (0 ≤ (v 5).toInt ∧ (v 5).toInt ≤ 99) ∧ 0 ≤ (v 10).toInt ∧ (v 10).toInt ≤ (v 9).toInt ∧ (v 9).toInt ≤ B := by
  obtain ⟨-, -, -, -, ⟨n1, n2, n3, n4⟩, -⟩ := h
  exact ⟨n1, n2, n3, by omega⟩
theorem c_at (h : cA N B z r rs q n xn xr nr v rw ak wl wy mp mm) : ∃ y, v 4 = nI y ∧ y < n := cB_at ⟨rs, q, h⟩
theorem c_v (h : cA N B z r rs q n xn xr nr v rw ak wl wy mp mm) : (v 4 = z 1 ∧ v 5 = z 2 ∧ v 6 = z 3 ∧ v 9 = z 6 ∧ v 10 = z 7 ∧ v 11 = z 8 ∧ v 12 = z 9 ∧ v 13 = z 10) ∧ z 4 = nI wl := cB_v ⟨rs, q, h⟩
theorem c_6 (h : cA N B z r rs q n xn xr nr v rw ak wl wy mp mm) : (v 6 = -1 ∧ z 3 = -1) ∨ (∃ g, v 6 = nI g ∧ g < n ∧ ¬ z 3 = -1 ∧ ¬ v 6 < 0) := cB_6 ⟨rs, q, h⟩
theorem c_V (h : cA N B z r rs q n xn xr nr v rw ak wl wy mp mm) : sVd n xn v wl wy mp mm := h.2.2.2.1
theorem c_x4 (h : cA N B z r rs q n xn xr nr v rw ak wl wy mp mm) {p : Nat} (hp : p < n) : xn p ≤ 4 := cB_x4 ⟨rs, q, h⟩ hp
theorem c_ex (h : cA N B z r rs q n xn xr nr v rw ak wl wy mp mm) {p : Nat} (hp : p < n) : r 0 p = nI (xn p) := by
  have := c_x4 h hp
  rw [xeqI, nI_toInt (by omega)]
  exact (h.2.1.2.1 p hp).symm
theorem c_knows (h : cA N B z r rs q n xn xr nr v rw ak wl wy mp mm) {y g : Nat} (hy : v 4 = nI y) (hyn : y < n) (hg : g < n) : FX3_knowsWay (z 1) (r 9) (r 10) (z 0) (r 0) (r 2) (r 5) (nI g) = (0, sKn rw xr mp mm g 10 y) ∧ (sKn rw xr mp mm g 10 y = 0 ∨ sKn rw xr mp mm g 10 y = 1) := by
  have hn := cA_n h
  have hd := dKn (cA_L h) h.2.1 h.2.2.1.2.2.2.2 (c_V h).1 hg 10 y (Nat.le_refl _) hyn
  refine ⟨?_, ?_⟩
  · rw [← (c_v h).1.1, hy, l_knowsWay (cA_L h) (zI_M h.1) (by omega) (by omega)]
    exact congrArg (fun x => ((0 : Nat), x)) hd.1
  · rcases hd.2 with h1 | h1
    · exact Or.inr h1.1
    · exact Or.inl h1.1
/-- a road's other end -/
theorem c_twin (h : cA N B z r rs q n xn xr nr v rw ak wl wy mp mm) {p x : Nat} (hp : p < n) (hx : x < xn p) : ∃ t y, r 2 (4 * p + x) = nI t ∧ t < n ∧ t ≠ p ∧ y < xn t ∧ r 2 (4 * t + y) = nI p ∧ r 4 (4 * t + y) = r 4 (4 * p + x) ∧ (if r 5 (4 * t + y) = 0 then (0 : Int32) else 1) = (if r 5 (4 * p + x) = 0 then 0 else 1) ∧ (if z 3 = -1 then (0 : Int32) else if r 7 (4 * t + y) = 0 then 0 else 1) = (if z 3 = -1 then 0 else if r 7 (4 * p + x) = 0 then 0 else 1) := by
  obtain ⟨t, y, h1, h2, h3, h4, h5, h6, h7, h8⟩ := a_twin h hp hx
  refine ⟨t, y, h1, h2, h3, h4, h5, h6, ?_, ?_⟩
  · by_cases c : r 5 (4 * p + x) = 0
    · rw [if_pos c, if_pos (h7.mpr c)]
    · rw [if_neg c, if_neg (fun g => c (h7.mp g))]
  · by_cases c : z 3 = -1
    · rw [if_pos c, if_pos c]
    · rw [if_neg c, if_neg c, h8 c]
theorem c_end (h : cA N B z r rs q n xn xr nr v rw ak wl wy mp mm) {p x : Nat} (hp : p < n) (hx : x < xn p) : zE (z 0) (r 0) (4 * p + x) ∧ x < 4 ∧ (4 * p + x) / 4 = p ∧ (4 * p + x) % 4 = x := by
  obtain ⟨e1, e2, e3, e4, -⟩ := rL_e h.1.1 h.2.1 hp hx
  exact ⟨e1, e4, e2, e3⟩
/-- miles by an open road -/
theorem c_open (h : cA N B z r rs q n xn xr nr v rw ak wl wy mp mm) {p x t d : Nat} (hp : p < n) (hx : x < xn p) (ho : ¬ r 5 (4 * p + x) = 0) (ht : r 2 (4 * p + x) = nI t) (htn : t < n) (hd : dI (z 0) (r 0) (r 2) (r 4) (r 5) p t d) : d ≤ 9 ∧ tD d = nI d ∧ ∃ w, r 4 (4 * p + x) = nI w ∧ d ≤ w ∧ w ≤ 9 := by
  have hn := cA_n h
  obtain ⟨e1, e2, e3, e4⟩ := c_end h hp hx
  have hq : zq (r 2) (4 * p + x) = t := by
    show (r 2 (4 * p + x)).toNatClampNeg = t
    rw [ht, nI_clamp (by omega)]
  have hd' : dI (z 0) (r 0) (r 2) (r 4) (r 5) ((4 * p + x) / 4) (zq (r 2) (4 * p + x)) d := by rw [e3, hq]; exact hd
  have h1 := dI_e (cA_L h) (zeo_iff.mpr ⟨e1, ho⟩) hd'
  have hle := ((cA_L h).2.2.2.2.2.2.2.2.2.1 _ e1).2.2.1
  have h2 := znat (x := r 4 (4 * p + x)) (by omega)
  have h3 : zq (r 4) (4 * p + x) = (r 4 (4 * p + x)).toNatClampNeg := rfl
  refine ⟨by omega, ?_, (r 4 (4 * p + x)).toNatClampNeg, ?_, by omega, by omega⟩
  · unfold tD
    rw [if_neg (by omega)]
  · exact (znI (by omega)).symm
theorem tD_lt {d : Nat} (hd : d = 9999 ∨ d ≤ 9990) : (d = 9999 ∧ tD d = -1) ∨ (d ≤ 9990 ∧ tD d = nI d ∧ ¬ tD d < 0) := by
  rcases hd with h | h
  · exact Or.inl ⟨h, by unfold tD; rw [if_pos h]⟩
  · refine Or.inr ⟨h, ?_, ?_⟩
    · unfold tD; rw [if_neg (by omega)]
    · unfold tD; rw [if_neg (by omega), xltI, nI_toInt (by omega), show (0 : Int32).toInt = 0 from rfl]
      omega
theorem tD_0 {d : Nat} (hd : d = 9999 ∨ d ≤ 9990) : tD d = 0 ↔ d = 0 := by
  rcases tD_lt hd with ⟨h1, h2⟩ | ⟨h1, h2, -⟩
  · rw [h2, h1]
    exact ⟨fun h => absurd h (by decide), fun h => absurd h (by decide)⟩
  · rw [h2]
    exact ⟨fun h => nI_inj (by omega) (by omega) h, fun h => by rw [h]; rfl⟩
/-- what is remembered, and how strong -/
theorem c_mem (h : cA N B z r rs q n xn xr nr v rw ak wl wy mp mm) {g p : Nat} (hg : g < n) (hp : p < n) : (q 6 (10 * g + p) = -1 ∧ (if q 6 (10 * g + p) = -1 then (0 : Int32) else q 7 (10 * g + p)) = 0) ∨ ∃ x s, x < xn p ∧ q 6 (10 * g + p) = nI x ∧ 1 ≤ s ∧ s ≤ 9 ∧ (if q 6 (10 * g + p) = -1 then (0 : Int32) else q 7 (10 * g + p)) = nI s := by
  have hn := cA_n h
  rcases dMem (cA_L h) h.2.1 h.2.2.1.2.2.2.2 (c_V h).1 (show g < 10 by omega) hp with ⟨k1, k2⟩ | ⟨x, k1, k2, k3, k4, k5, k6⟩
  · exact Or.inl ⟨k2, if_pos k2⟩
  · have hx4 := c_x4 h hp
    have hne : ¬ q 6 (10 * g + p) = -1 := fun c => by
      have := congrArg Int32.toInt (k4.symm.trans c)
      rw [nI_toInt (by omega), show (-1 : Int32).toInt = -1 from rfl] at this
      omega
    rcases zI_M h.1 (10 * g + p) (by omega) with ⟨-, m2⟩ | ⟨m1, m2, -⟩
    · exact absurd m2 hne
    · refine Or.inr ⟨x, (q 7 (10 * g + p)).toNatClampNeg, k1, k4, ?_, ?_, ?_⟩
      · have := znat (x := q 7 (10 * g + p)) (by rw [m2]; omega)
        rw [m2] at this ⊢
        omega
      · have := znat (x := q 7 (10 * g + p)) (by rw [m2]; omega)
        rw [m2] at this ⊢
        omega
      · rw [if_neg hne]
        exact (znI (by rw [m2]; omega)).symm
/-- over a third place -/
theorem c_tri (h : cA N B z r rs q n xn xr nr v rw ak wl wy mp mm) {p k o x y w : Nat} (h1 : dI (z 0) (r 0) (r 2) (r 4) (r 5) p k x) (h2 : dI (z 0) (r 0) (r 2) (r 4) (r 5) k o y) (h3 : dI (z 0) (r 0) (r 2) (r 4) (r 5) p o w) (hx : x ≤ 9990) (hy : y ≤ 9990) (hw : w = 9999 ∨ w ≤ 9990) : w ≤ 9990 ∧ w ≤ x + y := by
  have hn := cA_n h
  have e := dI_t (cA_L h) h1 h2 h3 (by omega)
  obtain ⟨A, a1, a2, rfl⟩ := h1
  obtain ⟨B, b1, b2, rfl⟩ := h2
  obtain ⟨C, c1, c2, rfl⟩ := h3
  -- the third place is reached by what is reached, too
  obtain ⟨-, z9, -, -, z10⟩ := zr_f (cA_L h)
  have hT := rL_eT (cA_L h)
  have j1 := (enear hT b1 c1 _ k rfl (by omega)).1
  have j2 := c1.2.2
  have k1 := e90' hT a1 z9 z10 (x := p) (by omega)
  have k2 := e90' hT c1 z9 z10 (x := k) (by omega)
  have e2 := etri hT a1 c1 (x := p) (by omega)
  exact ⟨by omega, e⟩
end LP9
