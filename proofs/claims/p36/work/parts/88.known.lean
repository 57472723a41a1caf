/-! remembered exits, in plain numbers: has p whether one is remembered at p, me p its end -/
/-- they lead from p to g, in n steps -/
def eR (E : Nat → Bool) (q : Nat → Nat) (has : Nat → Bool) (me : Nat → Nat) (g : Nat) : Nat → Nat → Prop
  | 0, p => p = g
  | n + 1, p => p ≠ g ∧ has p = true ∧ E (me p) = true ∧ me p / 4 = p ∧ eR E q has me g n (q (me p))
def eRs (q w : Nat → Nat) (me : Nat → Nat) : Nat → Nat → Nat
  | 0, _ => 0
  | n + 1, p => w (me p) + eRs q w me n (q (me p))
section EK
variable {E : Nat → Bool} {q w r tw : Nat → Nat} {F : Nat → Nat} {has : Nat → Bool} {me : Nat → Nat} {fr g i a : Nat} {T : Nat → Bool} {wl : Nat} {W : Nat → Nat} {wk db : Nat}
theorem eR_inj : ∀ {n m p : Nat}, eR E q has me g n p → eR E q has me g m p → n = m
  | 0, 0, _, _, _ => rfl
  | 0, m + 1, _, h, k => absurd h k.1
  | n + 1, 0, _, h, k => absurd k h.1
  | n + 1, m + 1, _, h, k => by rw [eR_inj h.2.2.2.2 k.2.2.2.2]
theorem eR_F (hF : eD E q w g F) : ∀ {n p : Nat}, eR E q has me g n p → F p ≤ eRs q w me n p
  | 0, p, h => by rw [show p = g from h, hF.2.2]; exact Nat.zero_le _
  | n + 1, p, h => by
    obtain ⟨h1, h2, h3, h4, h5⟩ := h
    have := hF.2.1 _ h3
    have := eR_F hF h5
    rw [h4] at *
    show F p ≤ w (me p) + eRs q w me n (q (me p))
    omega
theorem eCn_lt {T T2 : Nat → Bool} {x : Nat} (h : ∀ k, T k = true → T2 k = true) (h1 : T x = false) (h2 : T2 x = true) : ∀ n, x < n → eCn T n + 1 ≤ eCn T2 n := by
  have hm : ∀ n, eCn T n ≤ eCn T2 n := fun n => by
    induction n with
    | zero => exact Nat.le_refl _
    | succ n ih =>
      unfold eCn
      by_cases c : T n = true
      · rw [if_pos c, if_pos (h n c)]; omega
      · rw [if_neg c]; split <;> omega
  intro n
  induction n with
  | zero => intro h; exact absurd h (by omega)
  | succ n ih =>
    intro hx
    unfold eCn
    by_cases c : x = n
    · subst c
      have := hm x
      rw [h1, h2, if_pos rfl, if_neg (by decide)]
      omega
    · have := ih (by omega)
      by_cases d : T n = true
      · rw [if_pos d, if_pos (h n d)]; omega
      · rw [if_neg d]; split <;> omega
/-- the same as a truth value; and in no more than n steps -/
def eRb (E : Nat → Bool) (q : Nat → Nat) (has : Nat → Bool) (me : Nat → Nat) (g : Nat) : Nat → Nat → Bool
  | 0, p => decide (p = g)
  | n + 1, p => !decide (p = g) && (has p && (E (me p) && (decide (me p / 4 = p) && eRb E q has me g n (q (me p)))))
def eRl (E : Nat → Bool) (q : Nat → Nat) (has : Nat → Bool) (me : Nat → Nat) (g : Nat) : Nat → Nat → Bool
  | 0, p => eRb E q has me g 0 p
  | n + 1, p => eRl E q has me g n p || eRb E q has me g (n + 1) p
theorem eRb_iff : ∀ {n p : Nat}, eRb E q has me g n p = true ↔ eR E q has me g n p
  | 0, p => by unfold eRb eR; exact decide_eq_true_iff
  | n + 1, p => by
    unfold eRb eR
    rw [Bool.and_eq_true, Bool.and_eq_true, Bool.and_eq_true, Bool.and_eq_true, Bool.not_eq_true', decide_eq_false_iff_not, decide_eq_true_eq, eRb_iff]
theorem eRl_iff : ∀ {n p : Nat}, eRl E q has me g n p = true ↔ ∃ m, m ≤ n ∧ eR E q has me g m p
  | 0, p => by
    unfold eRl
    rw [eRb_iff]
    exact ⟨fun h => ⟨0, Nat.le_refl _, h⟩, fun ⟨m, h1, h2⟩ => by rw [show m = 0 by omega] at h2; exact h2⟩
  | n + 1, p => by
    unfold eRl
    rw [Bool.or_eq_true, eRl_iff, eRb_iff]
    constructor
    · rintro (⟨m, h1, h2⟩ | h)
      · exact ⟨m, by omega, h2⟩
      · exact ⟨n + 1, Nat.le_refl _, h⟩
    · rintro ⟨m, h1, h2⟩
      by_cases c : m = n + 1
      · subst c; exact Or.inr h2
      · exact Or.inl ⟨m, by omega, h2⟩
/-- as many places as steps, and one more -/
theorem eR_cnt (hE : ∀ e, E e = true → q e < 10) : ∀ {n p : Nat}, p < 10 → eR E q has me g n p → n + 1 ≤ eCn (eRl E q has me g n) 10
  | 0, p, hp, h => by
    have := eCn_lt (T := fun _ => false) (T2 := eRl E q has me g 0) (x := p) (fun k hk => absurd hk (by decide)) rfl (eRl_iff.mpr ⟨0, Nat.le_refl _, h⟩) 10 hp
    omega
  | n + 1, p, hp, h => by
    have ih := eR_cnt hE (hE _ h.2.2.1) h.2.2.2.2
    have := eCn_lt (T := eRl E q has me g n) (T2 := eRl E q has me g (n + 1)) (x := p) (fun k hk => by
      obtain ⟨m, m1, m2⟩ := eRl_iff.mp hk
      exact eRl_iff.mpr ⟨m, by omega, m2⟩) (by
      cases hc : eRl E q has me g n p with
      | false => rfl
      | true =>
        obtain ⟨m, m1, m2⟩ := eRl_iff.mp hc
        have := eR_inj h m2
        omega) (eRl_iff.mpr ⟨n + 1, Nat.le_refl _, h⟩) 10 hp
    omega
theorem eR_9 (hE : ∀ e, E e = true → q e < 10) {n p : Nat} (hp : p < 10) (h : eR E q has me g n p) : n ≤ 9 := by
  have h1 := eR_cnt hE hp h
  have h2 := eCn_le (eRl E q has me g n) 10
  omega
/-- behind an errand that is done: remembered exits lead there -/
theorem eLead (hA : eA E q w r F fr i g T wl W wk db) (hne : ∀ k, k < wl → W k / 4 ≠ g) (hm : ∀ k, k < wl → has (W k / 4) = true ∧ ∃ j, k ≤ j ∧ j < wl ∧ W j / 4 = W k / 4 ∧ me (W k / 4) = W j) : ∃ n, eR E q has me g n fr := by
  obtain ⟨a1, a2, -⟩ := hA
  have hall : ∀ d k, k + d = wl → ∃ n, eR E q has me g n (eP q fr W k) := by
    intro d
    induction d using Nat.strongRecOn with
    | ind d ih =>
      intro k hk
      by_cases c : k = wl
      · subst c; exact ⟨0, a2.symm⟩
      · obtain ⟨b1, b2, b3⟩ := a1 k (by omega)
        obtain ⟨m1, j, j1, j2, j3, j4⟩ := hm k (by omega)
        obtain ⟨n, hn⟩ := ih (wl - (j + 1)) (by omega) (j + 1) (by omega)
        rw [← b2]
        exact ⟨n + 1, hne k (by omega), m1, by rw [j4]; exact (a1 j j2).1, by rw [j4, j3], by rw [j4]; exact hn⟩
  exact hall wl 0 (by omega)
/-- by a known way: what holds behind each step -/
def eC (E : Nat → Bool) (q w r : Nat → Nat) (has : Nat → Bool) (me : Nat → Nat) (g N S a : Nat) (T : Nat → Bool) (wl : Nat) (W : Nat → Nat) (wk db : Nat) : Prop :=
  wl ≤ N ∧ eR E q has me g (N - wl) a ∧ wk + eRs q w me (N - wl) a = S ∧ db = 0 ∧ (∀ k, k < wl → E (W k) = true ∧ W k = me (W k / 4) ∧ eR E q has me g (N - k) (W k / 4)) ∧ ∀ e, E e = true → T (r e) = true → ∃ k, k < wl ∧ r (W k) = r e
theorem eC_0 {N S : Nat} (h : eR E q has me g N fr) (hS : eRs q w me N fr = S) (hT : ∀ e, E e = true → T (r e) = false) : eC E q w r has me g N S fr T 0 W 0 0 :=
  ⟨Nat.zero_le _, h, by rw [Nat.zero_add]; exact hS, rfl, fun k hk => absurd hk (by omega), fun e he ht => by rw [hT e he] at ht; exact absurd ht (by decide)⟩
/-- the remembered exit is free -/
theorem eC_free (hT : eT E q w tw) (hri : ∀ e e2, E e = true → E e2 = true → r e2 = r e → e2 = e ∨ e2 = tw e) {N S : Nat} (hC : eC E q w r has me g N S a T wl W wk db) (ha : a ≠ g) : has a = true ∧ E (me a) = true ∧ me a / 4 = a ∧ T (r (me a)) = false ∧ wl < N := by
  obtain ⟨c1, c2, c3, c4, c5, c6⟩ := hC
  obtain ⟨n, hn⟩ : ∃ n, N - wl = n := ⟨_, rfl⟩
  rw [hn] at c2
  cases n with
  | zero => exact absurd c2 ha
  | succ n =>
    obtain ⟨d1, d2, d3, d4, d5⟩ := id c2
    refine ⟨d2, d3, d4, ?_, by omega⟩
    cases ht : T (r (me a)) with
    | false => rfl
    | true =>
      obtain ⟨k, k1, k2⟩ := c6 _ d3 ht
      obtain ⟨b1, b2, b3⟩ := c5 k k1
      exfalso
      rcases hri (W k) (me a) b1 d3 k2.symm with h | h
      · rw [← h, d4] at b3
        have := eR_inj b3 c2
        omega
      · obtain ⟨t1, t2, t3, t4, t5⟩ := hT _ b1
        rw [h, t3] at d5
        have := eR_inj b3 d5
        omega
theorem eC_step (hT : eT E q w tw) (hri : ∀ e e2, E e = true → E e2 = true → r e2 = r e → e2 = e ∨ e2 = tw e) {N S : Nat} (hC : eC E q w r has me g N S a T wl W wk db) (ha : a ≠ g) {T2 : Nat → Bool} (h2 : ∀ k, k ≠ r (me a) → T2 k = T k) {W2 : Nat → Nat} (h3 : W2 wl = me a) (h4 : ∀ j, j < wl → W2 j = W j) : eC E q w r has me g N S (q (me a)) T2 (wl + 1) W2 (wk + w (me a)) db := by
  obtain ⟨f1, f2, f3, f4, f5⟩ := eC_free hT hri hC ha
  obtain ⟨c1, c2, c3, c4, c5, c6⟩ := hC
  have hn : N - wl = (N - (wl + 1)) + 1 := by omega
  rw [hn] at c2 c3
  have c3 : wk + (w (me a) + eRs q w me (N - (wl + 1)) (q (me a))) = S := c3
  refine ⟨by omega, c2.2.2.2.2, by omega, c4, fun k hk => ?_, fun e he ht => ?_⟩
  · by_cases c : k = wl
    · subst c
      rw [h3, f3, hn]
      exact ⟨f2, rfl, c2⟩
    · rw [h4 k (by omega)]
      exact c5 k (by omega)
  · by_cases c : r e = r (me a)
    · exact ⟨wl, by omega, by rw [h3, c]⟩
    · rw [h2 _ c] at ht
      obtain ⟨k, k1, k2⟩ := c6 e he ht
      exact ⟨k, by omega, by rw [h4 k k1]; exact k2⟩
/-- done by a known way -/
theorem eC_end {N S : Nat} (hC : eC E q w r has me g N S g T wl W wk db) : wk = S := by
  obtain ⟨c1, c2, c3, c4, c5, c6⟩ := hC
  have h0 : N - wl = 0 := eR_inj c2 (show eR E q has me g 0 g from rfl)
  rw [h0] at c3
  exact c3
end EK
