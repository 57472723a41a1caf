/-! the second carrier's errand, in plain numbers -/
def zr (rd : Nat → Int32) (e : Nat) : Nat := (rd e).toNatClampNeg
def tT (nr : Nat) (rw : Nat → Nat → Int32) (k : Nat) : Bool := decide (k < nr) && !decide (rw k 4 = 0)
/-- the end that is remembered at p -/
def dme (mm : Nat → Nat → Nat → Int32) (g p : Nat) : Nat := 4 * p + (mm g p 0).toNatClampNeg
/-- the way's ends -/
def dWy (wl : Nat) (wy : Nat → Nat → Int32) (W : Nat → Nat) : Prop := ∀ k, k < wl → wy k 0 = nI (W k / 4) ∧ wy k 1 = nI (W k % 4)
section ED2
variable {n : Nat} {xn : Nat → Nat} {xr : Nat → Nat → Int32} {nr : Nat} {rw : Nat → Nat → Int32} {pl rs : Int32} {ex ld tw le op rd ml cz : Nat → Int32}
theorem zr_f (hL : zL pl rs ex ld tw le op rd ml cz) : (∀ e, zeo pl ex op e = true → zr rd e < 20) ∧ (∀ e, zeo pl ex op e = true → zq le e ≤ 9) ∧ (∀ e, zeo pl ex op e = true → zr rd (zq tw e) = zr rd e) ∧ (∀ e e2, zeo pl ex op e = true → zeo pl ex op e2 = true → zr rd e2 = zr rd e → e2 = e ∨ e2 = zq tw e) ∧ ∀ e, zeo pl ex op e = true → zq ld e < 10 := by
  have h8 := hL.2.2.2.2.2.2.2.1
  refine ⟨fun e he => ?_, fun e he => ?_, fun e he => ?_, fun e e2 he he2 h => ?_, fun e he => (zeE hL he).1.2⟩
  · have := h8 e (zeo_iff.mp he).1.1
    have := znat this.1
    show (rd e).toNatClampNeg < 20
    omega
  · have := (hL.2.2.2.2.2.2.2.2.2.1 _ (zeo_iff.mp he).1).2.2.1
    have := znat (x := le e) (by omega)
    show (le e).toNatClampNeg ≤ 9
    omega
  · obtain ⟨v1, ⟨v2, v2b, v2c, v2d⟩, v3, v4, v5, v6, v7⟩ := hL.2.2.2.2.2.2.2.2.2.1 _ (zeo_iff.mp he).1
    show (rd (tw e).toNatClampNeg).toNatClampNeg = (rd e).toNatClampNeg
    rw [(v7 _ v2).mpr (Or.inr rfl)]
  · obtain ⟨v1, v2, v3, v4, v5, v6, v7⟩ := hL.2.2.2.2.2.2.2.2.2.1 _ (zeo_iff.mp he).1
    refine (v7 e2 (zeo_iff.mp he2).1).mp ?_
    have a1 := znI (h8 e (zeo_iff.mp he).1.1).1
    have a2 := znI (h8 e2 (zeo_iff.mp he2).1.1).1
    rw [← a1, ← a2]
    exact congrArg nI h.symm
/-- a free exit is an open end of a road that is not tried -/
theorem dfree2 (hL : zL pl rs ex ld tw le op rd ml cz) (hR : rL n xn xr nr rw pl rs ex ld rd ml cz) {a x : Nat} (ha : a < n) (hx : x < xn a) : ¬ sFr rw xr a x = 0 ↔ zeo pl ex op (4 * a + x) = true ∧ tT nr rw (zr rd (4 * a + x)) = false := by
  obtain ⟨e1, e2, e3, e4, e5⟩ := rL_e hL hR ha hx
  obtain ⟨t1, t2, t3, t4, t5, t6⟩ := rL_to hL hR ha hx
  unfold sFr tT zr
  rw [t6, zeo_iff, decide_eq_true t5, Bool.true_and]
  rcases t4 with c | c
  · rw [c, if_neg (by decide)]
    exact ⟨fun h => absurd rfl h, fun h => absurd (t3.mp c) h.1.2⟩
  · rw [c, if_pos rfl]
    have ho : ¬ op (4 * a + x) = 0 := fun h => by
      have := t3.mpr h
      rw [c] at this
      exact absurd this (by decide)
    by_cases d : rw (xr a x).toNatClampNeg 4 = 0
    · rw [if_pos d, decide_eq_true d]
      exact ⟨fun _ => ⟨⟨e1, ho⟩, rfl⟩, fun _ => by decide⟩
    · rw [if_neg d, decide_eq_false d]
      exact ⟨fun h => absurd rfl h, fun h => absurd h.2 (by decide)⟩
theorem sFst_ch {rw xr : Nat → Nat → Int32} {q N : Nat} : ∀ d i, i + d = N → (sFst rw xr q d i = -1 ∧ ∀ x, i ≤ x → x < N → sFr rw xr q x = 0) ∨ ∃ x, x < N ∧ sFst rw xr q d i = nI x ∧ ¬ sFr rw xr q x = 0
  | 0, i, h => Or.inl ⟨rfl, fun x h1 h2 => absurd h1 (by omega)⟩
  | d + 1, i, h => by
    rw [sFst]
    by_cases c : sFr rw xr q i = 0
    · rw [if_pos c]
      rcases sFst_ch (rw := rw) (xr := xr) (q := q) (N := N) d (i + 1) (by omega) with ⟨a, b⟩ | h
      · refine Or.inl ⟨a, fun x h1 h2 => ?_⟩
        by_cases e : x = i
        · subst e; exact c
        · exact b x (by omega) h2
      · exact Or.inr h
    · rw [if_neg c]
      exact Or.inr ⟨i, by omega, rfl, c⟩
/-- what is chosen -/
theorem dch {v : Nat → Int32} {sh ak : Nat → Int32} {mp : Nat → Nat → Bool} {mm : Nat → Nat → Nat → Int32} {q g : Nat} {r : Int32} {v1 ak1 : Nat → Int32} {mp1 : Nat → Nat → Bool} {mm1 : Nat → Nat → Nat → Int32} (hV1 : mp g q = true → ∃ x, mm g q 0 = nI x ∧ x < xn q) (h4 : xn q ≤ 4) (h : sChR v n xn xr nr rw sh ak mp mm q g r v1 ak1 mp1 mm1) : (v1 4 = v 4 ∧ v1 6 = v 6 ∧ v1 9 = v 9 ∧ v1 10 = v 10 ∧ v1 11 = v 11 ∧ v1 12 = v 12) ∧ ((r = -1 ∧ ∀ x, x < xn q → sFr rw xr q x = 0) ∨ ∃ x, x < xn q ∧ r = nI x ∧ ¬ sFr rw xr q x = 0) ∧ (mp g q = true → ¬ sFr rw xr q (mm g q 0).toNatClampNeg = 0 → r = mm g q 0 ∧ mp1 = mp ∧ mm1 = mm) := by
  have hf : (sFst rw xr q (xn q) 0 = -1 ∧ ∀ x, x < xn q → sFr rw xr q x = 0) ∨ ∃ x, x < xn q ∧ sFst rw xr q (xn q) 0 = nI x ∧ ¬ sFr rw xr q x = 0 := by
    rcases sFst_ch (rw := rw) (xr := xr) (q := q) (N := xn q) (xn q) 0 (by omega) with ⟨a, b⟩ | h
    · exact Or.inl ⟨a, fun x hx => b x (by omega) hx⟩
    · exact Or.inr h
  rcases h with ⟨⟨c1, c2⟩, rfl, rfl, rfl, rfl, rfl⟩ | ⟨c1, c2, rfl, rfl, rfl, rfl, rfl⟩ | ⟨c1, ⟨c2, c3, c4⟩, rfl, rfl, c5⟩
  · obtain ⟨x, x1, x2⟩ := hV1 c1
    refine ⟨⟨rfl, rfl, rfl, rfl, rfl, rfl⟩, Or.inr ⟨x, x2, x1, ?_⟩, fun _ _ => ⟨rfl, rfl, rfl⟩⟩
    rw [x1, nI_clamp (by omega)] at c2
    exact c2
  · exact ⟨⟨rfl, rfl, rfl, rfl, rfl, rfl⟩, hf, fun h1 h2 => absurd ⟨h1, h2⟩ c1⟩
  · refine ⟨⟨rfl, rfl, rfl, rfl, rfl, rfl⟩, ?_, fun h1 h2 => absurd ⟨h1, h2⟩ c1⟩
    rcases c5 with ⟨-, rfl, -, -⟩ | ⟨d1, -, -, rfl⟩
    · exact hf
    · rcases dbest (its := sIts n xr nr rw q (nI g)) (N := xn q) (xn q) (Nat.le_refl _) with ⟨b1, -⟩ | ⟨x, b1, b2, b3, -⟩
      · rw [b1] at d1; exact absurd (by decide) d1
      · rw [b3, nI_clamp (by omega)]
        by_cases c : sFr rw xr q x = 0
        · rw [if_pos c]; exact hf
        · rw [if_neg c]; exact Or.inr ⟨x, b2, rfl, c⟩
/-- what is remembered behind an errand that is done: at each place of the way its last exit there -/
theorem sL_last {wy : Nat → Nat → Int32} {W : Nat → Nat} {wl : Nat} (hW : dWy wl wy W) (h40 : ∀ k, k < wl → W k < 40) {g : Nat} {mp : Nat → Nat → Bool} {mm : Nat → Nat → Nat → Int32} : ∀ k, k ≤ wl → ∀ i, i < k → sLp wy g mp k g (W i / 4) = true ∧ ∃ j, i ≤ j ∧ j < k ∧ W j / 4 = W i / 4 ∧ sLm wy g mp mm k g (W i / 4) 0 = nI (W j % 4)
  | 0, _, i, h => absurd h (by omega)
  | k + 1, hk, i, hi => by
    obtain ⟨w0, w1⟩ := hW k (by omega)
    have h9 := h40 k (by omega)
    have cq : (wy k 0).toNatClampNeg = W k / 4 := by rw [w0, nI_clamp (by omega)]
    rw [sLp, sLm, cq, w1, va_up_self, va_up_self]
    by_cases c : W i / 4 = W k / 4
    · rw [c, va_up_self, va_up_self]
      exact ⟨rfl, k, by omega, by omega, rfl, rfl⟩
    · rw [va_up_ne _ _ c, va_up_ne _ _ c]
      have hik : i < k := by
        rcases Nat.lt_or_ge i k with h | h
        · exact h
        · exact absurd (by rw [show i = k by omega]) c
      obtain ⟨a, j, j1, j2, j3, j4⟩ := sL_last hW h40 (g := g) (mp := mp) (mm := mm) k (by omega) i hik
      exact ⟨a, j, j1, by omega, j3, j4⟩
end ED2
