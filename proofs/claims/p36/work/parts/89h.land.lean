/-! the second carrier beside the reference: the land grows and changes -/
section LA
variable {n : Nat} {xn : Nat → Nat} {xr : Nat → Nat → Int32} {nr : Nat} {rw : Nat → Nat → Int32} {pl rs : Int32} {ex ld tw le op rd ml cz : Nat → Int32}
theorem rL_place (hL : zL pl rs ex ld tw le op rd ml cz) (hR : rL n xn xr nr rw pl rs ex ld rd ml cz) (hn : n < 10) : rL (n + 1) (va_up xn n 0) xr nr rw (pl + 1) rs ex ld rd ml cz := by
  obtain ⟨r1, r2, r3, r4, r5⟩ := hR
  have hp : (pl + 1).toInt = pl.toInt + 1 := zadd (by rw [show (1 : Int32).toInt = 1 from rfl]; omega)
  refine ⟨by omega, fun p hp' => ?_, fun p x hp' hx => ?_, r4, fun k hk => ?_⟩
  · by_cases c : p = n
    · subst c
      rw [va_up_self, hL.2.2.1 p hn (by omega)]
      rfl
    · rw [va_up_ne _ _ c]
      exact r2 p (by omega)
  · by_cases c : p = n
    · subst c
      rw [va_up_self] at hx
      exact absurd hx (by omega)
    · rw [va_up_ne _ _ c] at hx
      exact r3 p x (by omega) hx
  · obtain ⟨a1, a2, a3, a4, e, ⟨e1, e1b, e1c⟩, e2⟩ := r5 k hk
    exact ⟨a1, a2, a3, a4, e, ⟨e1, by omega, e1c⟩, e2⟩
theorem rL_turn (hR : rL n xn xr nr rw pl rs ex ld rd ml cz) (hnr : nr ≤ 20) {k : Nat} (hk : k < nr) {c2 : Int32} (hc : rw k 3 = 1 ↔ ¬ c2 = 0) : rL n xn xr nr (va_up rw k (upd (rw k) 3 (1 - rw k 3))) pl rs ex ld rd ml (upd cz k c2) := by
  obtain ⟨r1, r2, r3, r4, r5⟩ := hR
  refine ⟨r1, r2, r3, r4, fun j hj => ?_⟩
  obtain ⟨a1, a2, a3, a4, e, e1, e2, e3, e4⟩ := r5 j hj
  by_cases c : j = k
  · subst c
    rw [va_up_self, dup_s, dup_s]
    refine ⟨a1, ?_, ?_, a4, e, e1, e2, e3, e4⟩
    · rcases a2 with h | h
      · rw [h]; exact Or.inr rfl
      · rw [h]; exact Or.inl rfl
    · rcases a2 with h | h
      · rw [h]
        rw [h] at hc
        exact ⟨fun h2 => absurd h2 (by decide), fun h2 => absurd (hc.mpr h2) (by decide)⟩
      · rw [h]
        rw [h] at hc
        exact ⟨fun _ => hc.mp rfl, fun _ => by decide⟩
  · rw [va_up_ne _ _ c, dup_n c]
    exact ⟨a1, a2, a3, a4, e, e1, e2, e3, e4⟩
theorem rL_road (hL : zL pl rs ex ld tw le op rd ml cz) (hR : rL n xn xr nr rw pl rs ex ld rd ml cz) {a b : Nat} (ha : a < n) (hb : b < n) (hab : a ≠ b) (hxa : xn a ≤ 3) (hxb : xn b ≤ 3) (mil : Int32) : rL n (va_up (va_up xn a (xn a + 1)) b (xn b + 1)) (va_up (va_up xr a (upd (xr a) (xn a) (nI nr))) b (upd (xr b) (xn b) (nI nr))) (nr + 1) (va_up rw nr (sRow a b mil)) pl (rs + 1) (upd (upd ex a (ex a + 1)) b (ex b + 1)) (upd (upd ld (4 * a + xn a) (nI b)) (4 * b + xn b) (nI a)) (upd (upd rd (4 * a + xn a) (nI nr)) (4 * b + xn b) (nI nr)) (upd ml nr mil) (upd cz nr 0) := by
  have hn := rL_n hL hR
  obtain ⟨r1, r2, r3, r4, r5⟩ := id hR
  have xa := r2 a ha
  have xb := r2 b hb
  have ea : (ex a + 1).toInt = xn a + 1 := by rw [zadd (by rw [show (1 : Int32).toInt = 1 from rfl]; omega), ← xa]; rfl
  have eb : (ex b + 1).toInt = xn b + 1 := by rw [zadd (by rw [show (1 : Int32).toInt = 1 from rfl]; omega), ← xb]; rfl
  have hxe : ∀ p, p < n → ((va_up (va_up xn a (xn a + 1)) b (xn b + 1) p : Nat) : Int) = (upd (upd ex a (ex a + 1)) b (ex b + 1) p).toInt := fun p hp => by
    by_cases c : p = b
    · subst c; rw [va_up_self, dup_s, eb]; omega
    · rw [va_up_ne _ _ c, dup_n c]
      by_cases d : p = a
      · subst d; rw [va_up_self, dup_s, ea]; omega
      · rw [va_up_ne _ _ d, dup_n d]; exact r2 p hp
  have hold : ∀ e, zE pl ex e → zE pl (upd (upd ex a (ex a + 1)) b (ex b + 1)) e ∧ e ≠ 4 * a + xn a ∧ e ≠ 4 * b + xn b := fun e he => by
    obtain ⟨l1, l2, l3⟩ := rL_x hR he
    obtain ⟨h1, h2, h3⟩ := he
    refine ⟨⟨h1, h2, ?_⟩, fun h => ?_, fun h => ?_⟩
    · by_cases c : e / 4 = b
      · rw [c, dup_s, eb]; rw [c] at l2; omega
      · rw [dup_n c]
        by_cases d : e / 4 = a
        · rw [d, dup_s, ea]; rw [d] at l2; omega
        · rw [dup_n d]; exact h3
    · have : e / 4 = a := by omega
      rw [this] at l2; omega
    · have : e / 4 = b := by omega
      rw [this] at l2; omega
  refine ⟨r1, hxe, fun p x hp hx => ?_, ?_, fun k hk => ?_⟩
  · by_cases c : p = b
    · subst c
      rw [va_up_self] at hx ⊢
      by_cases d : x = xn p
      · subst d; rw [dup_s, dup_s]
      · rw [dup_n d, dup_n (by omega), dup_n (by omega)]
        exact r3 p x hp (by omega)
    · rw [va_up_ne _ _ c] at hx ⊢
      by_cases c2 : p = a
      · subst c2
        rw [va_up_self] at hx ⊢
        by_cases d : x = xn p
        · subst d; rw [dup_s, dup_n (by omega), dup_s]
        · rw [dup_n d, dup_n (by omega), dup_n (by omega)]
          exact r3 p x hp (by omega)
      · rw [va_up_ne _ _ c2] at hx ⊢
        have h4 := hn.2.2 p hp
        rw [dup_n (by omega), dup_n (by omega)]
        exact r3 p x hp hx
  · rw [zadd (by rw [show (1 : Int32).toInt = 1 from rfl]; omega), ← r4]
    rfl
  · by_cases c : k = nr
    · subst c
      rw [va_up_self, dup_s, dup_s]
      refine ⟨rfl, Or.inr rfl, ⟨fun h => absurd h (show ¬ (1 : Int32) = 0 by decide), fun h => absurd rfl h⟩, fun h => hab (nI_inj (by omega) (by omega) h), 4 * a + xn a, ⟨by omega, ?_, ?_⟩, ?_, ?_, ?_⟩
      · rw [show (4 * a + xn a) / 4 = a by omega]; omega
      · rw [show (4 * a + xn a) / 4 = a by omega, show (4 * a + xn a) % 4 = xn a by omega, dup_n hab, dup_s, ea]; omega
      · rw [dup_n (by omega), dup_s]
      · rw [show (4 * a + xn a) / 4 = a by omega]; rfl
      · rw [dup_n (by omega), dup_s]; rfl
    · obtain ⟨a1, a2, a3, a4, e, e1, e2, e3, e4⟩ := r5 k (by omega)
      obtain ⟨h1, h2, h3⟩ := hold e e1
      rw [va_up_ne _ _ c, dup_n c, dup_n c]
      exact ⟨a1, a2, a3, a4, e, h1, by rw [dup_n h3, dup_n h2]; exact e2, e3, by rw [dup_n h3, dup_n h2]; exact e4⟩
end LA
