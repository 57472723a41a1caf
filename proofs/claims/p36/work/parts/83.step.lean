/-! the second carrier beside the reference: what changes on an errand -/
def rM (mp : Nat → Nat → Bool) (mm : Nat → Nat → Nat → Int32) (xe sg : Nat → Int32) : Prop := ∀ g q, g < 10 → q < 10 → (mp g q = false ∧ xe (10 * g + q) = -1) ∨ (mp g q = true ∧ ¬ xe (10 * g + q) = -1 ∧ mm g q 0 = xe (10 * g + q) ∧ mm g q 1 = sg (10 * g + q))
def rW (wl : Nat) (wy : Nat → Nat → Int32) (ln : Int32) (uy : Nat → Int32) : Prop := (wl : Int) = ln.toInt ∧ ∀ k, k < wl → ∃ e, e < 40 ∧ uy k = nI e ∧ wy k 0 = nI (e / 4) ∧ wy k 1 = nI (e % 4)
def rS (nr : Nat) (v : Nat → Int32) (rw : Nat → Nat → Int32) (ak : Nat → Int32) (wl : Nat) (wy : Nat → Nat → Int32) (mp : Nat → Nat → Bool) (mm : Nat → Nat → Nat → Int32) (po co go ln wk db dn iv qs : Int32) (ur uk uy xe sg : Nat → Int32) : Prop :=
  (v 4 = po ∧ v 5 = co ∧ v 6 = go ∧ v 9 = wk ∧ v 10 = db ∧ v 11 = dn ∧ v 12 = iv ∧ v 13 = qs) ∧ (∀ k, k < nr → rw k 4 = ur k) ∧ (∀ p, p < 10 → ak p = uk p) ∧ rW wl wy ln uy ∧ rM mp mm xe sg
/-- the land is as it was -/
def rK (nr : Nat) (rw rw2 : Nat → Nat → Int32) : Prop := ∀ k, k < nr → rw2 k 0 = rw k 0 ∧ rw2 k 1 = rw k 1 ∧ rw2 k 2 = rw k 2 ∧ rw2 k 3 = rw k 3
theorem rK_id {nr : Nat} {rw : Nat → Nat → Int32} : rK nr rw rw := fun _ _ => ⟨rfl, rfl, rfl, rfl⟩
theorem rK_4 {nr k : Nat} {x : Int32} {rw : Nat → Nat → Int32} : rK nr rw (va_up rw k (upd (rw k) 4 x)) := fun j _ => by
  by_cases h : j = k
  · subst h; rw [va_up_self]; exact ⟨rfl, rfl, rfl, rfl⟩
  · rw [va_up_ne _ _ h]; exact ⟨rfl, rfl, rfl, rfl⟩
theorem rK_ov {nr m : Nat} {rw : Nat → Nat → Int32} : rK nr rw (sOv rw m) := fun j _ => by
  unfold sOv
  by_cases h : j < m
  · rw [if_pos h]; exact ⟨rfl, rfl, rfl, rfl⟩
  · rw [if_neg h]; exact ⟨rfl, rfl, rfl, rfl⟩
theorem rK.tr {nr : Nat} {a b c : Nat → Nat → Int32} (h : rK nr a b) (k : rK nr b c) : rK nr a c := fun j hj => by
  obtain ⟨h0, h1, h2, h3⟩ := h j hj
  obtain ⟨k0, k1, k2, k3⟩ := k j hj
  exact ⟨k0.trans h0, k1.trans h1, k2.trans h2, k3.trans h3⟩
/-- one more is remembered -/
theorem rM_set {mp : Nat → Nat → Bool} {mm : Nat → Nat → Nat → Int32} {xe sg : Nat → Int32} (h : rM mp mm xe sg) {g q x : Nat} {y : Int32} (hg : g < 10) (hq : q < 10) (hx : x < 4) : rM (va_up mp g (va_up (mp g) q true)) (va_up mm g (va_up (mm g) q (upd (upd (fun _ => 0) 0 (nI x)) 1 y))) (upd xe (10 * g + q) (nI x)) (upd sg (10 * g + q) y) := by
  intro g' q' hg' hq'
  by_cases c : g' = g
  · subst c
    rw [va_up_self, va_up_self]
    by_cases d : q' = q
    · subst d
      rw [va_up_self, va_up_self, dup_s, dup_s]
      exact Or.inr ⟨rfl, zm1 (by omega), rfl, dup_s.symm⟩
    · rw [va_up_ne _ _ d, va_up_ne _ _ d, dup_n (by omega), dup_n (by omega)]
      exact h g' q' hg' hq'
  · rw [va_up_ne _ _ c, va_up_ne _ _ c, dup_n (by omega), dup_n (by omega)]
    exact h g' q' hg' hq'
section ST
variable {n : Nat} {xn : Nat → Nat} {xr : Nat → Nat → Int32} {nr : Nat} {rw : Nat → Nat → Int32} {pl rs : Int32} {ex ld tw le op rd ml cz : Nat → Int32}
theorem dfree (hL : zL pl rs ex ld tw le op rd ml cz) (hR : rL n xn xr nr rw pl rs ex ld rd ml cz) {ur : Nat → Int32} (hu : ∀ k, k < nr → rw k 4 = ur k) {q x : Nat} (hq : q < n) (hx : x < xn q) : sFr rw xr q x = FX5_canTake rd cz ur (nI (4 * q + x)) := by
  obtain ⟨h1, h2, h3, h4, h5⟩ := rL_e hL hR hq hx
  obtain ⟨t1, t2, t3, t4, t5, t6⟩ := rL_to hL hR hq hx
  have hz := (hR.2.2.2.2 _ t5).2.2.1
  unfold sFr FX5_canTake
  rw [nI_clamp (by omega), t6, hu _ t5]
  rcases t4 with c | c
  · rw [c, if_neg (by decide), if_neg (hz.mp c)]
  · have c0 : cz (xr q x).toNatClampNeg = 0 := Decidable.byContradiction fun h => by
      have := hz.mpr h
      rw [c] at this
      exact absurd this (by decide)
    rw [c, if_pos rfl, if_pos c0]
/-- the first free exit -/
theorem dtries (hL : zL pl rs ex ld tw le op rd ml cz) (hR : rL n xn xr nr rw pl rs ex ld rd ml cz) {ur uy : Nat → Int32} (hu : ∀ k, k < nr → rw k 4 = ur k) {po ln wk : Int32} {q : Nat} (hq : q < n) : ∀ m i d, i + m = 5 → i + d = xn q → (sFst rw xr q d i = -1 ∧ (∀ x, i ≤ x → x < xn q → sFr rw xr q x = 0) ∧ LX5_triesNext_t ex rd ld ml cz po ln wk ur uy (nI q) m i = (0, po, ln, wk, ur, uy)) ∨ ∃ x, x < xn q ∧ sFst rw xr q d i = nI x ∧ ¬ sFr rw xr q x = 0 ∧ LX5_triesNext_t ex rd ld ml cz po ln wk ur uy (nI q) m i = (1, FX5_take rd ld ml ln wk ur uy (nI (4 * q + x))) := by
  have hn := rL_n hL hR
  have h4 := hn.2.2 q hq
  intro m
  induction m with
  | zero => intro i d h1 h2; exact absurd h1 (by omega)
  | succ m ih =>
    intro i d h1 h2
    have hxi : (xn q : Int) = (ex q).toInt := hR.2.1 q hq
    have hle : ex q ≤ nI i ↔ xn q ≤ i := by rw [xle, nI_toInt (by omega), ← hxi]; omega
    rw [LX5_triesNext_t]
    rw [nI_clamp (by omega)]
    cases d with
    | zero =>
      rw [if_pos (hle.mpr (by omega))]
      exact Or.inl ⟨rfl, fun x k1 k2 => absurd k1 (by omega), rfl⟩
    | succ d =>
      rw [if_neg (fun h => absurd (hle.mp h) (by omega)), z4, sFst, dfree hL hR hu hq (show i < xn q by omega)]
      unfold xbind
      by_cases c : FX5_canTake rd cz ur (nI (4 * q + i)) = 0
      · rw [if_pos c]
        dsimp only
        rw [if_pos c]
        rcases ih (i + 1) d (by omega) (by omega) with ⟨a1, a2, a3⟩ | a
        · refine Or.inl ⟨a1, fun x k1 k2 => ?_, a3⟩
          by_cases e : x = i
          · subst e; rw [dfree hL hR hu hq k2]; exact c
          · exact a2 x (by omega) k2
        · exact Or.inr a
      · rw [if_neg c]
        dsimp only
        rw [if_neg c]
        exact Or.inr ⟨i, by omega, rfl, by rw [dfree hL hR hu hq (by omega)]; exact c, rfl⟩
/-- which exit is best, of several the first: looked at upwards -/
theorem dtold (hL : zL pl rs ex ld tw le op rd ml cz) (hR : rL n xn xr nr rw pl rs ex ld rd ml cz) {q : Nat} (hq : q < n) {fb : Nat → Int32} {its : Nat → Int32} (hi : ∀ x, x < xn q → its x = if rw (xr q x).toNatClampNeg 3 = 0 then 9999 else fb (ld (4 * q + x)).toNatClampNeg + le (4 * q + x)) : ∀ m i bt lst, i + m = 5 → i ≤ xn q → ((bt = -1 ∧ lst = 9999 ∧ ∀ y, y < i → 9999 ≤ (its y).toInt) ∨ ∃ x, x < i ∧ bt = nI x ∧ lst = its x ∧ (its x).toInt < 9999 ∧ (∀ y, y < i → (its x).toInt ≤ (its y).toInt) ∧ ∀ y, y < x → (its x).toInt < (its y).toInt) →
    (((LX5_toldExit_t ex rd ld ml cz fb (nI q) m i bt lst).1 = -1 ∧ ∀ y, y < xn q → 9999 ≤ (its y).toInt) ∨ ∃ x, x < xn q ∧ (LX5_toldExit_t ex rd ld ml cz fb (nI q) m i bt lst).1 = nI x ∧ (its x).toInt < 9999 ∧ (∀ y, y < xn q → (its x).toInt ≤ (its y).toInt) ∧ ∀ y, y < x → (its x).toInt < (its y).toInt) := by
  have hn := rL_n hL hR
  have h4 := hn.2.2 q hq
  intro m
  induction m with
  | zero => intro i bt lst h1 h2; exact absurd h1 (by omega)
  | succ m ih =>
    intro i bt lst h1 h2 hP
    have hxi : (xn q : Int) = (ex q).toInt := hR.2.1 q hq
    have hle : ex q ≤ nI i ↔ xn q ≤ i := by rw [xle, nI_toInt (by omega), ← hxi]; omega
    rw [LX5_toldExit_t, nI_clamp (by omega)]
    by_cases c : xn q ≤ i
    · have ei : i = xn q := by omega
      rw [if_pos (hle.mpr c)]
      subst ei
      rcases hP with ⟨a, b, d⟩ | ⟨x, a, b, c1, d⟩
      · exact Or.inl ⟨a, d⟩
      · exact Or.inr ⟨x, a, b, d⟩
    · rw [if_neg (fun h => c (hle.mp h)), z4]
      obtain ⟨e1, e2, e3, e4, e5⟩ := rL_e hL hR hq (show i < xn q by omega)
      obtain ⟨t1, t2, t3, t4, t5, t6⟩ := rL_to hL hR hq (show i < xn q by omega)
      obtain ⟨r1, -, hz, -⟩ := hR.2.2.2.2 _ t5
      rw [nI_clamp (by omega), t6, ← r1, t2]
      have hit := hi i (by omega)
      have hz9 : (9999 : Int32).toInt = 9999 := rfl
      by_cases k : cz (xr q i).toNatClampNeg = 0
      · rw [if_pos k]
        have k3 : ¬ rw (xr q i).toNatClampNeg 3 = 0 := fun h => hz.mp h k
        rw [if_neg k3] at hit
        rw [← hit]
        by_cases l : its i < lst
        · rw [if_pos l]
          rw [xltI] at l
          refine ih (i + 1) _ _ (by omega) (by omega) (Or.inr ⟨i, by omega, rfl, rfl, ?_⟩)
          rcases hP with ⟨a, b, d⟩ | ⟨x, a, b, c1, d1, d2, d3⟩
          · rw [b, hz9] at l
            refine ⟨l, fun y hy => ?_, fun y hy => ?_⟩
            · by_cases hyi : y = i
              · rw [hyi]; exact Int.le_refl _
              · have := d y (by omega); omega
            · have := d y hy; omega
          · rw [c1] at l
            refine ⟨by omega, fun y hy => ?_, fun y hy => ?_⟩
            · by_cases hyi : y = i
              · rw [hyi]; exact Int.le_refl _
              · have := d2 y (by omega); omega
            · have := d2 y hy; omega
        · rw [if_neg l]
          rw [xltI] at l
          refine ih (i + 1) _ _ (by omega) (by omega) ?_
          rcases hP with ⟨a, b, d⟩ | ⟨x, a, b, c1, d1, d2, d3⟩
          · refine Or.inl ⟨a, b, fun y hy => ?_⟩
            by_cases hyi : y = i
            · rw [b, hz9] at l; rw [hyi]; omega
            · exact d y (by omega)
          · refine Or.inr ⟨x, by omega, b, c1, d1, fun y hy => ?_, d3⟩
            by_cases hyi : y = i
            · rw [c1] at l; rw [hyi]; omega
            · exact d2 y (by omega)
      · rw [if_neg k]
        have k3 : rw (xr q i).toNatClampNeg 3 = 0 := hz.mpr k
        rw [if_pos k3] at hit
        refine ih (i + 1) _ _ (by omega) (by omega) ?_
        rcases hP with ⟨a, b, d⟩ | ⟨x, a, b, c1, d1, d2, d3⟩
        · refine Or.inl ⟨a, b, fun y hy => ?_⟩
          by_cases hyi : y = i
          · rw [hyi, hit, hz9]; omega
          · exact d y (by omega)
        · refine Or.inr ⟨x, by omega, b, c1, d1, fun y hy => ?_, d3⟩
          by_cases hyi : y = i
          · rw [hyi, hit, hz9]; omega
          · exact d2 y (by omega)
/-- which exit is best, of several the first: looked at downwards -/
theorem dbest {its : Nat → Int32} {N : Nat} : ∀ k, k ≤ N → ((sBst its N k).1 = -1 ∧ (sBst its N k).2 = 9999 ∧ ∀ y, N - k ≤ y → y < N → 9999 ≤ (its y).toInt) ∨ ∃ x, N - k ≤ x ∧ x < N ∧ (sBst its N k).1 = nI x ∧ (sBst its N k).2 = its x ∧ (its x).toInt < 9999 ∧ (∀ y, N - k ≤ y → y < N → (its x).toInt ≤ (its y).toInt) ∧ ∀ y, N - k ≤ y → y < x → (its x).toInt < (its y).toInt
  | 0, _ => Or.inl ⟨rfl, rfl, fun y h1 h2 => absurd h1 (by omega)⟩
  | k + 1, h => by
    have hP := dbest (its := its) (N := N) k (by omega)
    have hz9 : (9999 : Int32).toInt = 9999 := rfl
    rw [sBst]
    have hsp : ∀ y, N - (k + 1) ≤ y → y = N - 1 - k ∨ N - k ≤ y := fun y hy => by omega
    by_cases c : 9999 ≤ its (N - 1 - k)
    · rw [if_pos c]
      rw [xle, hz9] at c
      rcases hP with ⟨a, b, d⟩ | ⟨x, a1, a2, b, c1, d1, d2, d3⟩
      · refine Or.inl ⟨a, b, fun y h1 h2 => ?_⟩
        rcases hsp y h1 with e | e
        · rw [e]; exact c
        · exact d y e h2
      · refine Or.inr ⟨x, by omega, a2, b, c1, d1, fun y h1 h2 => ?_, fun y h1 h2 => ?_⟩
        · rcases hsp y h1 with e | e
          · rw [e]; omega
          · exact d2 y e h2
        · rcases hsp y h1 with e | e
          · rw [e]; omega
          · exact d3 y e h2
    · rw [if_neg c]
      rw [xle, hz9] at c
      by_cases l : (sBst its N k).2 < its (N - 1 - k)
      · rw [if_pos l]
        rw [xltI] at l
        rcases hP with ⟨a, b, d⟩ | ⟨x, a1, a2, b, c1, d1, d2, d3⟩
        · rw [b, hz9] at l; omega
        · rw [c1] at l
          refine Or.inr ⟨x, by omega, a2, b, c1, d1, fun y h1 h2 => ?_, fun y h1 h2 => ?_⟩
          · rcases hsp y h1 with e | e
            · rw [e]; omega
            · exact d2 y e h2
          · rcases hsp y h1 with e | e
            · rw [e]; omega
            · exact d3 y e h2
      · rw [if_neg l]
        rw [xltI] at l
        refine Or.inr ⟨N - 1 - k, by omega, by omega, rfl, rfl, by omega, fun y h1 h2 => ?_, fun y h1 h2 => absurd h1 (by omega)⟩
        rcases hsp y h1 with e | e
        · rw [e]; exact Int.le_refl _
        · show (its (N - 1 - k)).toInt ≤ _
          rcases hP with ⟨a, b, d⟩ | ⟨x, a1, a2, b, c1, d1, d2, d3⟩
          · have := d y e h2; omega
          · rw [c1] at l
            have := d2 y e h2; omega
end ST
