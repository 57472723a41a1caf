/-! an errand, in plain numbers: E the open ends, q where they lead, w their miles, r their roads, tw their other ends -/
/-- the places of a way -/
def eP (q : Nat → Nat) (fr : Nat) (W : Nat → Nat) : Nat → Nat
  | 0 => fr
  | k + 1 => q (W k)
def eSm (w W : Nat → Nat) : Nat → Nat
  | 0 => 0
  | k + 1 => eSm w W k + w (W k)
/-- how many are tried -/
def eCn (T : Nat → Bool) : Nat → Nat
  | 0 => 0
  | k + 1 => eCn T k + if T k = true then 1 else 0
theorem eCn_le (T : Nat → Bool) : ∀ n, eCn T n ≤ n
  | 0 => Nat.le_refl _
  | n + 1 => by
    have := eCn_le T n
    unfold eCn
    split <;> omega
theorem eCn_eq {T T2 : Nat → Bool} : ∀ n, (∀ k, k < n → T2 k = T k) → eCn T2 n = eCn T n
  | 0, _ => rfl
  | n + 1, h => by
    unfold eCn
    rw [eCn_eq n (fun k hk => h k (by omega)), h n (by omega)]
theorem eCn_set {T T2 : Nat → Bool} {r : Nat} (h1 : T r = false) (h2 : T2 r = true) (h3 : ∀ k, k ≠ r → T2 k = T k) : ∀ n, r < n → eCn T2 n = eCn T n + 1
  | 0, h => absurd h (by omega)
  | n + 1, h => by
    unfold eCn
    by_cases c : r = n
    · subst c
      rw [eCn_eq r (fun k hk => h3 k (by omega)), h1, h2, if_pos rfl, if_neg (by decide)]
    · rw [eCn_set h1 h2 h3 n (by omega), h3 n (fun e => c e.symm)]
      omega
theorem eP_eq {q : Nat → Nat} {fr : Nat} {W W2 : Nat → Nat} : ∀ {k : Nat}, (∀ j, j < k → W2 j = W j) → eP q fr W2 k = eP q fr W k
  | 0, _ => rfl
  | k + 1, h => by show q (W2 k) = q (W k); rw [h k (by omega)]
theorem eSm_eq {w : Nat → Nat} {W W2 : Nat → Nat} : ∀ k, (∀ j, j < k → W2 j = W j) → eSm w W2 k = eSm w W k
  | 0, _ => rfl
  | k + 1, h => by
    unfold eSm
    rw [eSm_eq k (fun j hj => h j (by omega)), h k (by omega)]
/-- where it is, and what it has walked: wk, and db of it back, since the beginning -/
def eA (E : Nat → Bool) (q w r : Nat → Nat) (F : Nat → Nat) (fr : Nat) (i a : Nat) (T : Nat → Bool) (wl : Nat) (W : Nat → Nat) (wk db : Nat) : Prop :=
  (∀ k, k < wl → E (W k) = true ∧ W k / 4 = eP q fr W k ∧ T (r (W k)) = true) ∧ a = eP q fr W wl ∧ wk = 2 * db + eSm w W wl ∧ F fr ≤ wk + F a ∧ (i + 2 * (20 - eCn T 20) + wl ≤ 40 ∧ wl ≤ eCn T 20) ∧ wk ≤ 9 * i
/-- where it has been: from there each open road is tried, but for the way's places -/
def eB (E : Nat → Bool) (r : Nat → Nat) (fr g a : Nat) (T : Nat → Bool) (wl : Nat) (W : Nat → Nat) : Prop :=
  ∀ p, (p = fr ∨ ∃ e, E e = true ∧ T (r e) = true ∧ e / 4 = p) → p ≠ g ∧ (p = a ∨ (∃ k, k < wl ∧ W k / 4 = p) ∨ ∀ e, E e = true → e / 4 = p → T (r e) = true)
section ER
variable {E : Nat → Bool} {q w r tw : Nat → Nat} {F : Nat → Nat} {fr g i a : Nat} {T : Nat → Bool} {wl : Nat} {W : Nat → Nat} {wk db : Nat}
/-- forward by an end -/
theorem eA_fwd (hF : eD E q w g F) (hr : ∀ e, E e = true → r e < 20) (hw : ∀ e, E e = true → w e ≤ 9) (hA : eA E q w r F fr i a T wl W wk db) {e : Nat} (he : E e = true) (ha : e / 4 = a) (ht : T (r e) = false) {T2 : Nat → Bool} (h1 : T2 (r e) = true) (h2 : ∀ k, k ≠ r e → T2 k = T k) {W2 : Nat → Nat} (h3 : W2 wl = e) (h4 : ∀ j, j < wl → W2 j = W j) : eA E q w r F fr (i + 1) (q e) T2 (wl + 1) W2 (wk + w e) db := by
  obtain ⟨a1, a2, a3, a4, a5, a6⟩ := hA
  have hk : ∀ j, T j = true → T2 j = true := fun j hj => by
    by_cases c : j = r e
    · rw [c]; exact h1
    · rw [h2 j c]; exact hj
  refine ⟨fun k hk' => ?_, by show q e = q (W2 wl); rw [h3], ?_, ?_, ?_, ?_⟩
  · by_cases c : k = wl
    · subst c
      rw [h3, eP_eq h4]
      exact ⟨he, by rw [ha, a2], h1⟩
    · obtain ⟨b1, b2, b3⟩ := a1 k (by omega)
      rw [h4 k (by omega), eP_eq (fun j hj => h4 j (by omega))]
      exact ⟨b1, b2, hk _ b3⟩
  · unfold eSm
    rw [eSm_eq wl h4, h3]
    omega
  · have := hF.2.1 e he
    rw [ha] at this
    omega
  · have := eCn_set ht h1 h2 20 (hr e he)
    have := eCn_le T2 20
    omega
  · have := hw e he
    omega
/-- one back -/
theorem eA_back (hT : eT E q w tw) (hF : eD E q w g F) (hw : ∀ e, E e = true → w e ≤ 9) (hA : eA E q w r F fr i a T (wl + 1) W wk db) : eA E q w r F fr (i + 1) (W wl / 4) T wl W (wk + w (W wl)) (db + w (W wl)) := by
  obtain ⟨a1, a2, a3, a4, a5, a6⟩ := hA
  obtain ⟨b1, b2, b3⟩ := a1 wl (by omega)
  have := hw _ b1
  have h2 := eback hT hF b1
  have a2 : a = q (W wl) := a2
  have a3 : wk = 2 * db + (eSm w W wl + w (W wl)) := a3
  rw [a2] at a4
  exact ⟨fun k hk => a1 k (by omega), b2, by omega, by omega, by omega, by omega⟩
theorem eV_a (hT : eT E q w tw) (hrt : ∀ e, E e = true → r (tw e) = r e) (hA : eA E q w r F fr i a T wl W wk db) : a = fr ∨ ∃ e, E e = true ∧ T (r e) = true ∧ e / 4 = a := by
  obtain ⟨a1, a2, -⟩ := hA
  cases wl with
  | zero => exact Or.inl a2
  | succ k =>
    obtain ⟨b1, b2, b3⟩ := a1 k (by omega)
    obtain ⟨t1, t2, t3, t4, t5⟩ := hT _ b1
    exact Or.inr ⟨tw (W k), t1, by rw [hrt _ b1]; exact b3, by rw [t2, a2]; rfl⟩
theorem eB_fwd (hT : eT E q w tw) (hrt : ∀ e, E e = true → r (tw e) = r e) (hri : ∀ e e2, E e = true → E e2 = true → r e2 = r e → e2 = e ∨ e2 = tw e) (hA : eA E q w r F fr i a T wl W wk db) (hB : eB E r fr g a T wl W) {e : Nat} (he : E e = true) (ha : e / 4 = a) (hg : q e ≠ g) {T2 : Nat → Bool} (h1 : T2 (r e) = true) (h2 : ∀ k, k ≠ r e → T2 k = T k) {W2 : Nat → Nat} (h3 : W2 wl = e) (h4 : ∀ j, j < wl → W2 j = W j) : eB E r fr g (q e) T2 (wl + 1) W2 := by
  have hVa := eV_a hT hrt hA
  have hk : ∀ j, T j = true → T2 j = true := fun j hj => by
    by_cases c : j = r e
    · rw [c]; exact h1
    · rw [h2 j c]; exact hj
  have old : ∀ p, (p = fr ∨ ∃ e, E e = true ∧ T (r e) = true ∧ e / 4 = p) → p ≠ g ∧ (p = q e ∨ (∃ k, k < wl + 1 ∧ W2 k / 4 = p) ∨ ∀ e, E e = true → e / 4 = p → T2 (r e) = true) := fun p hp => by
    obtain ⟨b1, b2⟩ := hB p hp
    refine ⟨b1, ?_⟩
    rcases b2 with b2 | ⟨k, k1, k2⟩ | b2
    · exact Or.inr (Or.inl ⟨wl, by omega, by rw [h3, ha, b2]⟩)
    · exact Or.inr (Or.inl ⟨k, by omega, by rw [h4 k k1, k2]⟩)
    · exact Or.inr (Or.inr (fun e2 k1 k2 => hk _ (b2 e2 k1 k2)))
  intro p hp
  rcases hp with hp | ⟨e2, k1, k2, k3⟩
  · exact old p (Or.inl hp)
  · by_cases c : r e2 = r e
    · rcases hri e e2 he k1 c with d | d
      · rw [d, ha] at k3
        subst k3
        exact old _ hVa
      · obtain ⟨t1, t2, t3, t4, t5⟩ := hT _ he
        rw [d, t2] at k3
        subst k3
        exact ⟨hg, Or.inl rfl⟩
    · rw [h2 _ c] at k2
      exact old p (Or.inr ⟨e2, k1, k2, k3⟩)
theorem eB_back (hB : eB E r fr g a T (wl + 1) W) (hn : ∀ e, E e = true → e / 4 = a → T (r e) = true) : eB E r fr g (W wl / 4) T wl W := by
  intro p hp
  obtain ⟨b1, b2⟩ := hB p hp
  refine ⟨b1, ?_⟩
  rcases b2 with b2 | ⟨k, k1, k2⟩ | b2
  · right; right; intro e h1 h2; exact hn e h1 (h2.trans b2)
  · by_cases c : k = wl
    · subst c; exact Or.inl k2.symm
    · exact Or.inr (Or.inl ⟨k, by omega, k2⟩)
  · exact Or.inr (Or.inr b2)
/-- at the beginning -/
theorem eA_0 (hT0 : ∀ k, k < 20 → T k = false) : eA E q w r F fr 0 fr T 0 W 0 0 := by
  have h0 : ∀ n, n ≤ 20 → eCn T n = 0 := fun n => by
    induction n with
    | zero => intro _; rfl
    | succ n ih => intro h; unfold eCn; rw [ih (by omega), hT0 n (by omega), if_neg (by decide)]
  exact ⟨fun k hk => absurd hk (by omega), rfl, rfl, by omega, by rw [h0 20 (Nat.le_refl _)]; omega, by omega⟩
theorem eB_0 (hr : ∀ e, E e = true → r e < 20) (hT0 : ∀ k, k < 20 → T k = false) (hg : fr ≠ g) : eB E r fr g fr T 0 W := by
  intro p hp
  rcases hp with hp | ⟨e, k1, k2, k3⟩
  · exact ⟨hp ▸ hg, Or.inl hp⟩
  · rw [hT0 _ (hr e k1)] at k2
    exact absurd k2 (by decide)
/-- in vain only where no way leads -/
theorem eVain (hT : eT E q w tw) (hrt : ∀ e, E e = true → r (tw e) = r e) (hF : eD E q w g F) (hA : eA E q w r F fr i a T 0 W wk db) (hB : eB E r fr g a T 0 W) (hn : ∀ e, E e = true → e / 4 = a → T (r e) = true) : ¬ F fr < 9999 ∧ a = fr ∧ wk = 2 * db := by
  obtain ⟨a1, a2, a3, a4, a5, a6⟩ := hA
  refine ⟨?_, a2, a3⟩
  have hcl : ∀ n p, F p = n → n < 9999 → (p = fr ∨ ∃ e, E e = true ∧ T (r e) = true ∧ e / 4 = p) → False := by
    intro n
    induction n using Nat.strongRecOn with
    | ind n ih =>
      intro p hp hn9 hV
      obtain ⟨b1, b2⟩ := hB p hV
      rcases hF.1 p (by omega) with h | ⟨e, e1, e2, e3⟩
      · exact b1 h
      · have hte : T (r e) = true := by
          rcases b2 with b2 | ⟨k, k1, -⟩ | b2
          · exact hn e e1 (e2.trans b2)
          · exact absurd k1 (by omega)
          · exact b2 e e1 e2
        obtain ⟨t1, t2, t3, t4, t5⟩ := hT _ e1
        exact ih (F (q e)) (by omega) (q e) rfl (by omega) (Or.inr ⟨tw e, t1, by rw [hrt _ e1]; exact hte, t2⟩)
  exact fun h => hcl (F fr) fr rfl h (Or.inl rfl)
/-- done: no fewer miles than the shortest way -/
theorem eDone (hF : eD E q w g F) (hA : eA E q w r F fr i g T wl W wk db) : F fr ≤ wk ∧ wk ≤ 9 * i ∧ i ≤ 40 := by
  obtain ⟨a1, a2, a3, a4, a5, a6⟩ := hA
  have := hF.2.2
  exact ⟨by omega, a6, by omega⟩
end ER
