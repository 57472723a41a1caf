/-! the second carrier beside the reference: its land -/
def rL (n : Nat) (xn : Nat → Nat) (xr : Nat → Nat → Int32) (nr : Nat) (rw : Nat → Nat → Int32) (pl rs : Int32) (ex ld rd ml cz : Nat → Int32) : Prop :=
  (n : Int) = pl.toInt ∧ (∀ p, p < n → (xn p : Int) = (ex p).toInt) ∧ (∀ p x, p < n → x < xn p → xr p x = rd (4 * p + x)) ∧ (nr : Int) = rs.toInt ∧
  ∀ k, k < nr → rw k 2 = ml k ∧ (rw k 3 = 0 ∨ rw k 3 = 1) ∧ (rw k 3 = 0 ↔ ¬ cz k = 0) ∧ ¬ rw k 0 = rw k 1 ∧ ∃ e, zE pl ex e ∧ rd e = nI k ∧ rw k 0 = nI (e / 4) ∧ rw k 1 = ld e
theorem nI_inj {a b : Nat} (ha : a < 1000000) (hb : b < 1000000) (h : nI a = nI b) : a = b := by
  have h2 := congrArg Int32.toNatClampNeg h
  rw [nI_clamp (by omega), nI_clamp (by omega)] at h2
  exact h2
theorem dysx {f : Nat → Int32} : ∀ n : Nat, (∀ k, k < n → (f k).toInt ≤ 4) → ysx n f ≤ 4 * n
  | 0, _ => by unfold ysx; omega
  | n + 1, h => by
    have h1 := dysx n (fun k hk => h k (by omega))
    have h2 := h n (by omega)
    unfold ysx
    omega
section RL
variable {n : Nat} {xn : Nat → Nat} {xr : Nat → Nat → Int32} {nr : Nat} {rw rw2 : Nat → Nat → Int32} {pl rs : Int32} {ex ld tw le op rd ml cz : Nat → Int32}
theorem rL_tr (hR : rL n xn xr nr rw pl rs ex ld rd ml cz) (h : ∀ k, k < nr → rw2 k 0 = rw k 0 ∧ rw2 k 1 = rw k 1 ∧ rw2 k 2 = rw k 2 ∧ rw2 k 3 = rw k 3) : rL n xn xr nr rw2 pl rs ex ld rd ml cz := by
  obtain ⟨h1, h2, h3, h4, h5⟩ := hR
  refine ⟨h1, h2, h3, h4, fun k hk => ?_⟩
  obtain ⟨a0, a1, a2, a3⟩ := h k hk
  rw [a0, a1, a2, a3]
  exact h5 k hk
theorem rL_n (hL : zL pl rs ex ld tw le op rd ml cz) (hR : rL n xn xr nr rw pl rs ex ld rd ml cz) : n ≤ 10 ∧ nr ≤ 20 ∧ ∀ p, p < n → xn p ≤ 4 := by
  have h1 := hL.1
  have h2 := hL.2.1
  obtain ⟨r1, r2, -, r4, -⟩ := hR
  have h7 := hL.2.2.2.2.2.2.1
  refine ⟨by omega, ?_, fun p hp => ?_⟩
  · have := dysx (f := ex) 10 (fun k hk => (h2 k hk).2)
    omega
  · have := h2 p (by omega)
    have := r2 p hp
    omega
/-- an exit there is an end -/
theorem rL_e (hL : zL pl rs ex ld tw le op rd ml cz) (hR : rL n xn xr nr rw pl rs ex ld rd ml cz) {q x : Nat} (hq : q < n) (hx : x < xn q) : zE pl ex (4 * q + x) ∧ (4 * q + x) / 4 = q ∧ (4 * q + x) % 4 = x ∧ x < 4 ∧ 4 * q + x < 40 := by
  obtain ⟨r1, r2, -⟩ := hR
  have := r2 q hq
  obtain ⟨h1, h2, h3, h4, h5, h6⟩ := zEi (j := q) (i := x) hL.1 hL.2.1 (by omega) (by omega)
  exact ⟨h1, h2, h3, h4, h6⟩
/-- an end is an exit there -/
theorem rL_x (hR : rL n xn xr nr rw pl rs ex ld rd ml cz) {e : Nat} (he : zE pl ex e) : e / 4 < n ∧ e % 4 < xn (e / 4) ∧ 4 * (e / 4) + e % 4 = e := by
  obtain ⟨r1, r2, -⟩ := hR
  obtain ⟨-, h2, h3⟩ := he
  have h4 : e / 4 < n := by omega
  have := r2 _ h4
  exact ⟨h4, by omega, by omega⟩
/-- the road of an end -/
theorem rL_r (hL : zL pl rs ex ld tw le op rd ml cz) (hR : rL n xn xr nr rw pl rs ex ld rd ml cz) {e : Nat} (he : zE pl ex e) : ∃ k, rd e = nI k ∧ k < nr ∧ rw k 2 = le e ∧ (rw k 3 = 0 ∨ rw k 3 = 1) ∧ (rw k 3 = 0 ↔ op e = 0) ∧ ((rw k 0 = nI (e / 4) ∧ rw k 1 = ld e) ∨ (rw k 1 = nI (e / 4) ∧ rw k 0 = ld e)) ∧ ¬ ld e = nI (e / 4) := by
  obtain ⟨v1, ⟨v2, v2b, v2c, v2d⟩, v3, v4, v5, v6, v7⟩ := hL.2.2.2.2.2.2.2.2.2.1 _ he
  have h8 := hL.2.2.2.2.2.2.2.1 e he.1
  obtain ⟨k, k1, k2, k3⟩ := xofI h8.1
  have hk : k < nr := by have := hR.2.2.2.1; omega
  obtain ⟨r1, r2, r3, r4, e', e1, e2, e3, e4⟩ := hR.2.2.2.2 k hk
  have kc : (rd e).toNatClampNeg = k := by rw [k2, nI_clamp k1]
  rw [kc] at v5 v6
  refine ⟨k, k2, hk, by rw [r1, v5], r2, by rw [r3]; exact v6.symm, ?_⟩
  rcases (v7 e' e1).mp (by rw [k2, e2]) with rfl | rfl
  · exact ⟨Or.inl ⟨e3, e4⟩, fun h => r4 (by rw [e3, e4, h])⟩
  · obtain ⟨w1, ⟨w2, w2b, w2c, w2d⟩, -⟩ := hL.2.2.2.2.2.2.2.2.2.1 _ e1
    have ht : (tw (tw e).toNatClampNeg).toNatClampNeg = e := by rw [v2b, nI_clamp (by have := he.1; omega)]
    rw [ht] at w2d
    refine ⟨Or.inr ⟨by rw [e4, w2d], by rw [e3, v2d]⟩, fun h => r4 (by rw [e3, e4, w2d, ← v2d, h])⟩
theorem rL_to (hL : zL pl rs ex ld tw le op rd ml cz) (hR : rL n xn xr nr rw pl rs ex ld rd ml cz) {q x : Nat} (hq : q < n) (hx : x < xn q) : sTo rw xr q x = ld (4 * q + x) ∧ rw (xr q x).toNatClampNeg 2 = le (4 * q + x) ∧ (rw (xr q x).toNatClampNeg 3 = 0 ↔ op (4 * q + x) = 0) ∧ (rw (xr q x).toNatClampNeg 3 = 0 ∨ rw (xr q x).toNatClampNeg 3 = 1) ∧ (xr q x).toNatClampNeg < nr ∧ (rd (4 * q + x)).toNatClampNeg = (xr q x).toNatClampNeg := by
  obtain ⟨h1, h2, h3, h4, h5⟩ := rL_e hL hR hq hx
  obtain ⟨k, k1, k2, k3, k4, k5, k6, k7⟩ := rL_r hL hR h1
  have hn := rL_n hL hR
  have hr : (xr q x).toNatClampNeg = k := by rw [hR.2.2.1 q x hq hx, k1, nI_clamp (by omega)]
  have hr2 : (rd (4 * q + x)).toNatClampNeg = k := by rw [k1, nI_clamp (by omega)]
  rw [h2] at k6 k7
  refine ⟨?_, by rw [hr, k3], by rw [hr, k5], by rw [hr]; exact k4, by rw [hr]; exact k2, by rw [hr, hr2]⟩
  unfold sTo
  rw [hr]
  rcases k6 with ⟨a, b⟩ | ⟨a, b⟩
  · rw [if_pos a, b]
  · rw [if_neg (by rw [b]; exact k7), b]
theorem rL_sX (hL : zL pl rs ex ld tw le op rd ml cz) (hR : rL n xn xr nr rw pl rs ex ld rd ml cz) : sX n xn xr nr rw := by
  obtain ⟨h1, h2, h3⟩ := rL_n hL hR
  refine ⟨h1, h2, fun q x hq hx => ?_, fun k hk => ?_⟩
  · obtain ⟨k, k1, k2, -⟩ := rL_r hL hR (rL_e hL hR hq hx).1
    exact ⟨k, by rw [hR.2.2.1 q x hq hx, k1], k2⟩
  · obtain ⟨r1, r2, r3, r4, e, e1, e2, e3, e4⟩ := hR.2.2.2.2 k hk
    obtain ⟨v1, ⟨v2, v2b, v2c, v2d⟩, -⟩ := hL.2.2.2.2.2.2.2.2.2.1 _ e1
    exact ⟨e / 4, (tw e).toNatClampNeg / 4, e3, (rL_x hR e1).1, by rw [e4, v2d], (rL_x hR v2).1⟩
/-- the roads' other ends -/
theorem rL_eT (hL : zL pl rs ex ld tw le op rd ml cz) : eT (zeo pl ex op) (zq ld) (zq le) (zq tw) := by
  intro e he
  obtain ⟨h1, h2⟩ := zeo_iff.mp he
  obtain ⟨v1, ⟨v2, v2b, v2c, v2d⟩, v3, v4, v5, v6, v7⟩ := hL.2.2.2.2.2.2.2.2.2.1 _ h1
  obtain ⟨w1, ⟨w2, w2b, w2c, w2d⟩, w3, w4, w5, w6, w7⟩ := hL.2.2.2.2.2.2.2.2.2.1 _ v2
  have hr : rd e = rd (tw e).toNatClampNeg := (v7 _ v2).mpr (Or.inr rfl)
  have ht : (tw (tw e).toNatClampNeg).toNatClampNeg = e := by rw [v2b, nI_clamp (by have := h1.1; omega)]
  have h40 := v2.1
  refine ⟨zeo_iff.mpr ⟨v2, fun h => h2 ?_⟩, ?_, ?_, ?_, ?_⟩
  · rw [hr] at v6
    exact v6.mpr (w6.mp h)
  · show (tw e).toNatClampNeg / 4 = (ld e).toNatClampNeg
    rw [v2d, nI_clamp (by omega)]
  · show (ld (tw e).toNatClampNeg).toNatClampNeg = e / 4
    rw [w2d, ht, nI_clamp (by have := h1.1; omega)]
  · show (le (tw e).toNatClampNeg).toNatClampNeg = (le e).toNatClampNeg
    rw [← w5, ← hr, v5]
  · have := znat (x := le e) (by omega)
    show 1 ≤ (le e).toNatClampNeg
    omega
theorem dfr_ps (hL : zL pl rs ex ld tw le op rd ml cz) (hR : rL n xn xr nr rw pl rs ex ld rd ml cz) : ∀ (k : Nat) (d : Nat → Int32) (f : Nat → Nat), k ≤ nr → dfr n d f → dfr n (sPs rw k d) (dPs (dT rw k) f)
  | 0, _, _, _, h => h
  | k + 1, d, f, hk, h => by
    have ih := dfr_ps hL hR k d f (by omega) h
    obtain ⟨a, b, a1, a2, b1, b2⟩ := (rL_sX hL hR).2.2.2 k (by omega)
    obtain ⟨r1, r2, r3, r4, e, e1, e2, -⟩ := hR.2.2.2.2 k (by omega)
    have hn := rL_n hL hR
    have v3 := (hL.2.2.2.2.2.2.2.2.2.1 _ e1).2.2.1
    have v5 := (hL.2.2.2.2.2.2.2.2.2.1 _ e1).2.2.2.2.1
    rw [e2, nI_clamp (by omega)] at v5
    have hw : 0 ≤ (rw k 2).toInt ∧ (rw k 2).toInt ≤ 9 := by rw [r1, v5]; omega
    rw [sPs, dT, dPs_app]
    unfold sRx
    by_cases c : rw k 3 = 0
    · rw [if_pos c, if_pos c]
      exact ih
    · rw [if_neg c, if_neg c, a1, b1, nI_clamp (by omega), nI_clamp (by omega)]
      exact dfr_rx (dfr_rx ih a2 b2 hw) b2 a2 hw
theorem dfr_rs (hL : zL pl rs ex ld tw le op rd ml cz) (hR : rL n xn xr nr rw pl rs ex ld rd ml cz) {d : Nat → Int32} {f : Nat → Nat} (h : dfr n d f) : ∀ k, dfr n (sRs rw nr k d) (dRs (dT rw nr) k f)
  | 0 => h
  | k + 1 => dfr_ps hL hR nr _ _ (Nat.le_refl _) (dfr_rs hL hR h k)
/-- the open roads, as the second carrier has them, are the open ends -/
theorem dT_e (hL : zL pl rs ex ld tw le op rd ml cz) (hR : rL n xn xr nr rw pl rs ex ld rd ml cz) {t : Nat × Nat × Nat} : t ∈ dT rw nr ↔ ∃ e, zeo pl ex op e = true ∧ t = (e / 4, zq ld e, zq le e) := by
  have hn := rL_n hL hR
  rw [dT_in]
  constructor
  · rintro ⟨k, hk, c, h⟩
    obtain ⟨r1, r2, r3, r4, e, e1, e2, e3, e4⟩ := hR.2.2.2.2 k hk
    obtain ⟨k', k1, k2, k3, k4, k5, k6, k7⟩ := rL_r hL hR e1
    have hkk : k' = k := nI_inj (by omega) (by omega) (by rw [← k1, e2])
    subst hkk
    have ho : zeo pl ex op e = true := zeo_iff.mpr ⟨e1, fun h => c (k5.mpr h)⟩
    obtain ⟨t1, t2, t3, t4, -⟩ := rL_eT hL e ho
    have h40 := e1.1
    rcases h with h | h
    · refine ⟨e, ho, ?_⟩
      rw [h, e3, e4, k3, nI_clamp (by omega)]
    · refine ⟨zq tw e, t1, ?_⟩
      rw [h, e3, e4, k3, nI_clamp (by omega), t2, t3, t4]
  · rintro ⟨e, he, h⟩
    obtain ⟨e1, e2⟩ := zeo_iff.mp he
    obtain ⟨k, k1, k2, k3, k4, k5, k6, k7⟩ := rL_r hL hR e1
    have h40 := e1.1
    refine ⟨k, k2, fun c => e2 (k5.mp c), ?_⟩
    rcases k6 with ⟨a, b⟩ | ⟨a, b⟩
    · left; rw [h, a, b, k3, nI_clamp (by omega)]
    · right; rw [h, a, b, k3, nI_clamp (by omega)]
/-- how far: the second carrier measures from one end, the reference from the other -/
theorem dfar (hL : zL pl rs ex ld tw le op rd ml cz) (hR : rL n xn xr nr rw pl rs ex ld rd ml cz) {a b : Nat} (ha : a < n) (hb : b < n) {F : Nat → Nat} (hF : eD (zeo pl ex op) (zq ld) (zq le) a F) (h9 : ∀ p, F p ≤ 9999) : sFar rw nr n (nI a) (nI b) = nI (F b) := by
  have hn := rL_n hL hR
  have hall := dall (T := dT rw nr) (F := F) (g := a) (n := n) (fun t ht => by
    obtain ⟨e, he, rfl⟩ := (dT_e hL hR).mp ht
    exact hF.2.1 e he) (fun t ht => by
    obtain ⟨e, he, rfl⟩ := (dT_e hL hR).mp ht
    obtain ⟨t1, t2, t3, t4, t5⟩ := rL_eT hL e he
    refine ⟨t5, ?_⟩
    show zq ld e < n
    rw [← t2]
    exact (rL_x hR (zeo_iff.mp t1).1).1) (fun p hp => by
    rcases hF.1 p hp with h | ⟨e, h1, h2, h3⟩
    · exact Or.inl h
    · exact Or.inr ⟨_, (dT_e hL hR).mpr ⟨e, h1, rfl⟩, h2, h3⟩) hF.2.2 h9 hb
  have h0 : dfr n (sD0 (nI a)) (fun p => if p = a then 0 else 9999) := fun p hp => by
    show (if nI p = nI a then (0 : Int32) else 9999).toInt = ((if p = a then 0 else 9999 : Nat) : Int) ∧ (if p = a then 0 else 9999) ≤ 9999
    by_cases c : p = a
    · rw [c, if_pos rfl, if_pos rfl]; exact ⟨rfl, by omega⟩
    · rw [if_neg (fun h => c (nI_inj (by omega) (by omega) h)), if_neg c]; exact ⟨rfl, Nat.le_refl _⟩
  obtain ⟨k1, k2⟩ := dfr_rs hL hR h0 n b hb
  rw [hall] at k1 k2
  unfold sFar sMin
  rw [nI_clamp (by omega)]
  have hz : (9999 : Int32).toInt = 9999 := rfl
  by_cases c : sRs rw nr n (sD0 (nI a)) b < 9999
  · rw [if_pos c, xeqI, k1, nI_toInt (by omega)]
  · rw [if_neg c, xeqI, nI_toInt (by omega), hz]
    rw [xltI, hz, k1] at c
    omega
end RL
