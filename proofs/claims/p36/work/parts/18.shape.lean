/-! the second carrier's cells: what they hold, and how a write keeps the rest. ad: the outer addresses (0 roads, 1 exits, 2 shepherds, 3 asked, 4 way, 5 memory); oo: where their rows lie (0 roads, 1 exits, 2 way, 3 memory); om: the rows of the memory -/
def ShR (G : xG) (L : List Nat) (f : Nat → va_E) (a0 : Nat) (o : Nat → Option Nat) (nr : Nat) (rw : Nat → Nat → Int32) : Prop := rowA G L f a0 nr o ∧ (∀ k, k < nr → ∃ a, o k = some a ∧ rowI G L f a 5 (rw k)) ∧ ∀ j k, j < nr → k < nr → o j = o k → j = k
def ShE (G : xG) (L : List Nat) (f : Nat → va_E) (a0 : Nat) (o : Nat → Option Nat) (n : Nat) (xn : Nat → Nat) (xr : Nat → Nat → Int32) : Prop := rowA G L f a0 n o ∧ ∀ p, p < n → xn p < 5 ∧ ∃ a, o p = some a ∧ rowI G L f a (xn p) (xr p)
def ShW (G : xG) (L : List Nat) (f : Nat → va_E) (a0 : Nat) (o : Nat → Option Nat) (wl : Nat) (wy : Nat → Nat → Int32) : Prop := rowA G L f a0 wl o ∧ ∀ k, k < wl → ∃ a, o k = some a ∧ rowI G L f a 2 (wy k)
def ShG (G : xG) (L : List Nat) (f : Nat → va_E) (a0 : Nat) (o : Nat → Option Nat) (mp : Nat → Bool) (mm : Nat → Nat → Int32) : Prop := rowA G L f a0 10 o ∧ ∀ p, p < 10 → (o p = none ∧ mp p = false) ∨ (mp p = true ∧ ∃ b, o p = some b ∧ rowI G L f b 2 (mm p))
def ShM (G : xG) (L : List Nat) (f : Nat → va_E) (a0 : Nat) (o : Nat → Option Nat) (om : Nat → Nat → Option Nat) (mp : Nat → Nat → Bool) (mm : Nat → Nat → Nat → Int32) : Prop := rowB G L f a0 10 o ∧ (∀ i j, i < 10 → j < 10 → o i = o j → i = j) ∧ ∀ g, g < 10 → ∃ a, o g = some a ∧ ShG G L f a (om g) (mp g) (mm g)
def ShZ (G : xG) (L : List Nat) (f : Nat → va_E) (a b : Nat) (sh ak : Nat → Int32) : Prop := rowZ G L f a 10 sh ∧ rowZ G L f b 10 ak ∧ a ≠ b
/-- the outer rows are apart -/
def ShN (ad : Nat → Nat) (o : Nat → Option Nat) : Prop := (ad 1 ≠ ad 0 ∧ ad 1 ≠ ad 4 ∧ ad 1 ≠ ad 5) ∧ ∀ g a, g < 10 → o g = some a → a ≠ ad 0 ∧ a ≠ ad 1 ∧ a ≠ ad 4 ∧ a ≠ ad 5
def ShA (G : xG) (L : List Nat) (f : Nat → va_E) (ad : Nat → Nat) (oo om : Nat → Nat → Option Nat) (n : Nat) (xn : Nat → Nat) (xr : Nat → Nat → Int32) (nr : Nat) (rw : Nat → Nat → Int32) (sh ak : Nat → Int32) (wl : Nat) (wy : Nat → Nat → Int32) (mp : Nat → Nat → Bool) (mm : Nat → Nat → Nat → Int32) : Prop :=
  ShR G L f (ad 0) (oo 0) nr rw ∧ ShE G L f (ad 1) (oo 1) n xn xr ∧ ShZ G L f (ad 2) (ad 3) sh ak ∧ ShW G L f (ad 4) (oo 2) wl wy ∧ ShM G L f (ad 5) (oo 3) om mp mm ∧ ShN ad (oo 3)
def sF (ad : Nat → Nat) (v : Nat → Int32) : List Value := [.ref (ad 0), .ref (ad 1), .ref (ad 2), .ref (ad 3), .int (v 4), .int (v 5), .int (v 6), .ref (ad 4), .ref (ad 5), .int (v 9), .int (v 10), .int (v 11), .int (v 12), .int (v 13)]
def Sh (G : xG) (L : List Nat) (f : Nat → va_E) (aS : Nat) (v : Nat → Int32) (n : Nat) (xn : Nat → Nat) (xr : Nat → Nat → Int32) (nr : Nat) (rw : Nat → Nat → Int32) (sh ak : Nat → Int32) (wl : Nat) (wy : Nat → Nat → Int32) (mp : Nat → Nat → Bool) (mm : Nat → Nat → Nat → Int32) : Prop :=
  ∃ (ad : Nat → Nat) (oo om : Nat → Nat → Option Nat), objS L f aS 4 (sF ad v) ∧ ShA G L f ad oo om n xn xr nr rw sh ak wl wy mp mm
section SH
variable {G : xG} {P : Nat → Prop} {L L' : List Nat} {f f' : Nat → va_E} {a0 b0 aS n nr wl : Nat} {o : Nat → Option Nat} {ad : Nat → Nat} {oo om : Nat → Nat → Option Nat} {xn : Nat → Nat} {xr rw wy : Nat → Nat → Int32} {sh ak : Nat → Int32} {mp : Nat → Nat → Bool} {mm : Nat → Nat → Nat → Int32}
theorem ShR.kp (h : ShR G L f a0 o nr rw) (c : pk P L f L' f') (h0 : ¬ P a0) (h1 : ∀ k a, k < nr → o k = some a → ¬ P a) : ShR G L' f' a0 o nr rw :=
  ⟨h.1.kp c h0, fun k hk => (by obtain ⟨a, e, r⟩ := h.2.1 k hk; exact ⟨a, e, r.kp c (h1 k a hk e)⟩), h.2.2⟩
theorem ShE.kp (h : ShE G L f a0 o n xn xr) (c : pk P L f L' f') (h0 : ¬ P a0) (h1 : ∀ a m g, m < 5 → rowI G L f a m g → ¬ P a) : ShE G L' f' a0 o n xn xr :=
  ⟨h.1.kp c h0, fun p hp => (by obtain ⟨e0, a, e, r⟩ := h.2 p hp; exact ⟨e0, a, e, r.kp c (h1 a _ _ e0 r)⟩)⟩
theorem ShW.kp (h : ShW G L f a0 o wl wy) (c : pk P L f L' f') (h0 : ¬ P a0) (h1 : ∀ a m g, m < 5 → rowI G L f a m g → ¬ P a) : ShW G L' f' a0 o wl wy :=
  ⟨h.1.kp c h0, fun k hk => (by obtain ⟨a, e, r⟩ := h.2 k hk; exact ⟨a, e, r.kp c (h1 a _ _ (by decide) r)⟩)⟩
theorem ShG.kp {mp : Nat → Bool} {mm : Nat → Nat → Int32} (h : ShG G L f a0 o mp mm) (c : pk P L f L' f') (h0 : ¬ P a0) (h1 : ∀ a m g, m < 5 → rowI G L f a m g → ¬ P a) : ShG G L' f' a0 o mp mm :=
  ⟨h.1.kp c h0, fun p hp => (by
    rcases h.2 p hp with h2 | ⟨h2, b, e, r⟩
    · exact Or.inl h2
    · exact Or.inr ⟨h2, b, e, r.kp c (h1 b _ _ (by decide) r)⟩)⟩
theorem ShM.kp (h : ShM G L f a0 o om mp mm) (c : pk P L f L' f') (h0 : ¬ P a0) (h1 : ∀ a m g, m < 5 → rowI G L f a m g → ¬ P a) (h2 : ∀ g a, g < 10 → o g = some a → ¬ P a) : ShM G L' f' a0 o om mp mm :=
  ⟨h.1.kp c h0, h.2.1, fun g hg => (by obtain ⟨a, e, r⟩ := h.2.2 g hg; exact ⟨a, e, r.kp c (h2 g a hg e) h1⟩)⟩
theorem ShZ.kp (h : ShZ G L f a0 b0 sh ak) (c : pk P L f L' f') (h0 : ¬ P a0) (h1 : ¬ P b0) : ShZ G L' f' a0 b0 sh ak := ⟨h.1.kp c h0, h.2.1.kp c h1, h.2.2⟩
theorem ShA.fresh (h : ShA G L f ad oo om n xn xr nr rw sh ak wl wy mp mm) (c : pk (fun _ => False) L f L' f') : ShA G L' f' ad oo om n xn xr nr rw sh ak wl wy mp mm := by
  obtain ⟨h1, h2, h3, h4, h5, h6⟩ := h
  exact ⟨h1.kp c (fun h => h) (fun _ _ _ _ h => h), h2.kp c (fun h => h) (fun _ _ _ _ _ h => h), h3.kp c (fun h => h) (fun h => h), h4.kp c (fun h => h) (fun _ _ _ _ _ h => h), h5.kp c (fun h => h) (fun _ _ _ _ _ h => h) (fun _ _ _ _ h => h), h6⟩
/-- the object is written -/
theorem ShA.obj {fs : List Value} (h : ShA G L f ad oo om n xn xr nr rw sh ak wl wy mp mm) (hO : objS L f aS 4 fs) (c : pk (fun b => b = aS) L f L' f') : ShA G L' f' ad oo om n xn xr nr rw sh ak wl wy mp mm := by
  obtain ⟨h1, h2, h3, h4, h5, h6⟩ := h
  have hS : ∀ a m g, m < 5 → rowI G L f a m g → ¬ a = aS := fun a m g _ hr => (hO.neI hr).symm
  refine ⟨h1.kp c (hO.neA h1.1).symm (fun k a hk e => ?_), h2.kp c (hO.neA h2.1).symm hS, h3.kp c (hO.neZ h3.1).symm (hO.neZ h3.2.1).symm, h4.kp c (hO.neA h4.1).symm hS, h5.kp c (hO.neB h5.1).symm hS (fun g a hg e => ?_), h6⟩
  · obtain ⟨a', e', r⟩ := h1.2.1 k hk
    cases e.symm.trans e'
    exact (hO.neI r).symm
  · obtain ⟨a', e', r⟩ := h5.2.2 g hg
    cases e.symm.trans e'
    exact (hO.neA r.1).symm
/-- a row of flags is written -/
theorem ShA.flag {x : Nat} {g0 : Nat → Int32} (h : ShA G L f ad oo om n xn xr nr rw sh ak wl wy mp mm) (hx : rowZ G L f x 10 g0) (c : pk (fun b => b = x) L f L' f') : (ShR G L' f' (ad 0) (oo 0) nr rw ∧ ShE G L' f' (ad 1) (oo 1) n xn xr) ∧ ShW G L' f' (ad 4) (oo 2) wl wy ∧ ShM G L' f' (ad 5) (oo 3) om mp mm := by
  obtain ⟨h1, h2, h3, h4, h5, h6⟩ := h
  have hS : ∀ a m g, m < 5 → rowI G L f a m g → ¬ a = x := fun a m g hm hr => hr.neZ hx (by omega)
  refine ⟨⟨h1.kp c (hx.neA h1.1).symm (fun k a hk e => ?_), h2.kp c (hx.neA h2.1).symm hS⟩, h4.kp c (hx.neA h4.1).symm hS, h5.kp c (hx.neB h5.1).symm hS (fun g a hg e => ?_)⟩
  · obtain ⟨a', e', r⟩ := h1.2.1 k hk
    cases e.symm.trans e'
    exact r.neZ hx (by decide)
  · obtain ⟨a', e', r⟩ := h5.2.2 g hg
    cases e.symm.trans e'
    exact (hx.neA r.1).symm
theorem ShA.setSh {g1 : Nat → Int32} (h : ShA G L f ad oo om n xn xr nr rw sh ak wl wy mp mm) (c : pk (fun b => b = ad 2) L f L' f') (hr : rowZ G L' f' (ad 2) 10 g1) : ShA G L' f' ad oo om n xn xr nr rw g1 ak wl wy mp mm := by
  obtain ⟨⟨q1, q2⟩, q3, q4⟩ := h.flag h.2.2.1.1 c
  exact ⟨q1, q2, ⟨hr, h.2.2.1.2.1.kp c (fun e => h.2.2.1.2.2 e.symm), h.2.2.1.2.2⟩, q3, q4, h.2.2.2.2.2⟩
theorem ShA.setAk {g1 : Nat → Int32} (h : ShA G L f ad oo om n xn xr nr rw sh ak wl wy mp mm) (c : pk (fun b => b = ad 3) L f L' f') (hr : rowZ G L' f' (ad 3) 10 g1) : ShA G L' f' ad oo om n xn xr nr rw sh g1 wl wy mp mm := by
  obtain ⟨⟨q1, q2⟩, q3, q4⟩ := h.flag h.2.2.1.2.1 c
  exact ⟨q1, q2, ⟨h.2.2.1.1.kp c h.2.2.1.2.2, hr, h.2.2.1.2.2⟩, q3, q4, h.2.2.2.2.2⟩
/-- a road's row is written -/
theorem ShA.setRoad {k a : Nat} {g1 : Nat → Int32} (h : ShA G L f ad oo om n xn xr nr rw sh ak wl wy mp mm) (hk : k < nr) (e0 : oo 0 k = some a) (c : pk (fun b => b = a) L f L' f') (hr : rowI G L' f' a 5 g1) : ShA G L' f' ad oo om n xn xr nr (va_up rw k g1) sh ak wl wy mp mm := by
  obtain ⟨h1, h2, h3, h4, h5, h6⟩ := h
  obtain ⟨a', e', r0⟩ := h1.2.1 k hk
  cases e0.symm.trans e'
  have hS : ∀ b m g, m < 5 → rowI G L f b m g → ¬ b = a := fun b m g hm hr => hr.neI r0 (by omega)
  refine ⟨⟨h1.1.kp c (r0.neA h1.1).symm, fun j hj => ?_, h1.2.2⟩, h2.kp c (r0.neA h2.1).symm hS, h3.kp c (r0.neZ h3.1 (by decide)).symm (r0.neZ h3.2.1 (by decide)).symm, h4.kp c (r0.neA h4.1).symm hS, h5.kp c (r0.neB h5.1).symm hS (fun g b hg e => ?_), h6⟩
  · by_cases ej : j = k
    · subst ej
      exact ⟨a, e0, by rw [va_up_self]; exact hr⟩
    · obtain ⟨b, e, r⟩ := h1.2.1 j hj
      refine ⟨b, e, ?_⟩
      rw [va_up_ne _ _ ej]
      refine r.kp c (fun z => ej (h1.2.2 j k hj hk ?_))
      rw [e, e0, z]
  · obtain ⟨b', e2, r⟩ := h5.2.2 g hg
    cases e.symm.trans e2
    exact (r0.neA r.1).symm
/-- another row of asked flags -/
theorem ShA.newAk {q : Nat} {g1 : Nat → Int32} (h : ShA G L f ad oo om n xn xr nr rw sh ak wl wy mp mm) (hr : rowZ G L f q 10 g1) (hne : ad 2 ≠ q) : ShA G L f (va_up ad 3 q) oo om n xn xr nr rw sh g1 wl wy mp mm := by
  obtain ⟨h1, h2, h3, h4, h5, h6⟩ := h
  exact ⟨h1, h2, ⟨h3.1, hr, hne⟩, h4, h5, h6⟩
/-- another way -/
theorem ShA.newW {q wl1 : Nat} {o1 : Nat → Option Nat} {wy1 : Nat → Nat → Int32} (h : ShA G L f ad oo om n xn xr nr rw sh ak wl wy mp mm) (hr : ShW G L f q o1 wl1 wy1) (hne : ad 1 ≠ q) (hne2 : ∀ g a, g < 10 → oo 3 g = some a → a ≠ q) : ShA G L f (va_up ad 4 q) (va_up oo 2 o1) om n xn xr nr rw sh ak wl1 wy1 mp mm := by
  obtain ⟨h1, h2, h3, h4, h5, h6⟩ := h
  exact ⟨h1, h2, h3, hr, h5, ⟨h6.1.1, hne, h6.1.2.2⟩, fun g a hg e => ⟨(h6.2 g a hg e).1, (h6.2 g a hg e).2.1, hne2 g a hg e, (h6.2 g a hg e).2.2.2⟩⟩
/-- other roads -/
theorem ShA.newR {q nr1 : Nat} {o1 : Nat → Option Nat} {rw1 : Nat → Nat → Int32} (h : ShA G L f ad oo om n xn xr nr rw sh ak wl wy mp mm) (hr : ShR G L f q o1 nr1 rw1) (hne : ad 1 ≠ q) (hne2 : ∀ g a, g < 10 → oo 3 g = some a → a ≠ q) : ShA G L f (va_up ad 0 q) (va_up oo 0 o1) om n xn xr nr1 rw1 sh ak wl wy mp mm := by
  obtain ⟨h1, h2, h3, h4, h5, h6⟩ := h
  exact ⟨hr, h2, h3, h4, h5, ⟨hne, h6.1.2⟩, fun g a hg e => ⟨hne2 g a hg e, (h6.2 g a hg e).2⟩⟩
/-- other exits -/
theorem ShA.newE {q n1 : Nat} {o1 : Nat → Option Nat} {xn1 : Nat → Nat} {xr1 : Nat → Nat → Int32} (h : ShA G L f ad oo om n xn xr nr rw sh ak wl wy mp mm) (hr : ShE G L f q o1 n1 xn1 xr1) (hne0 : q ≠ ad 0) (hne4 : q ≠ ad 4) (hne5 : q ≠ ad 5) (hne2 : ∀ g a, g < 10 → oo 3 g = some a → a ≠ q) : ShA G L f (va_up ad 1 q) (va_up oo 1 o1) om n1 xn1 xr1 nr rw sh ak wl wy mp mm := by
  obtain ⟨h1, h2, h3, h4, h5, h6⟩ := h
  exact ⟨h1, hr, h3, h4, h5, ⟨hne0, hne4, hne5⟩, fun g a hg e => ⟨(h6.2 g a hg e).1, hne2 g a hg e, (h6.2 g a hg e).2.2⟩⟩
/-- a place gets another row of exits -/
theorem ShA.setE {p q m : Nat} {g1 : Nat → Int32} (h : ShA G L f ad oo om n xn xr nr rw sh ak wl wy mp mm) (c : pk (fun b => b = ad 1) L f L' f') (hr : rowA G L' f' (ad 1) n (va_up (oo 1) p (some q))) (hm : m < 5) (hq : rowI G L f q m g1) : ShA G L' f' ad (va_up oo 1 (va_up (oo 1) p (some q))) om n (va_up xn p m) (va_up xr p g1) nr rw sh ak wl wy mp mm := by
  obtain ⟨h1, h2, h3, h4, h5, h6⟩ := h
  have hS : ∀ b m g, m < 5 → rowI G L f b m g → ¬ b = ad 1 := fun b m g hm hr => hr.neA h2.1
  refine ⟨h1.kp c h6.1.1.symm (fun k a hk e => ?_), ⟨hr, fun j hj => ?_⟩, h3.kp c (h3.1.neA h2.1) (h3.2.1.neA h2.1), h4.kp c h6.1.2.1.symm hS, h5.kp c h6.1.2.2.symm hS (fun g b hg e => (h6.2 g b hg e).2.1), h6⟩
  · obtain ⟨a', e', r⟩ := h1.2.1 k hk
    cases e.symm.trans e'
    exact r.neA h2.1
  · by_cases ej : j = p
    · subst ej
      refine ⟨by rw [va_up_self]; exact hm, q, va_up_self _ _ _, ?_⟩
      rw [va_up_self, va_up_self]
      exact hq.kp c (hS q m g1 hm hq)
    · obtain ⟨e0, b, e, r⟩ := h2.2 j hj
      rw [va_up_ne _ _ ej, va_up_ne _ _ ej]
      exact ⟨e0, b, (va_up_ne _ _ ej).trans e, r.kp c (hS b _ _ e0 r)⟩
/-- a place of the memory is written -/
theorem ShA.setM {g p a : Nat} {x : Option Nat} {b1 : Bool} {g1 : Nat → Int32} (h : ShA G L f ad oo om n xn xr nr rw sh ak wl wy mp mm) (hg : g < 10) (e0 : oo 3 g = some a) (c : pk (fun b => b = a) L f L' f') (hr : rowA G L' f' a 10 (va_up (om g) p x)) (hq : (x = none ∧ b1 = false) ∨ (b1 = true ∧ ∃ b, x = some b ∧ rowI G L f b 2 g1)) : ShA G L' f' ad oo (va_up om g (va_up (om g) p x)) n xn xr nr rw sh ak wl wy (va_up mp g (va_up (mp g) p b1)) (va_up mm g (va_up (mm g) p g1)) := by
  obtain ⟨h1, h2, h3, h4, h5, h6⟩ := h
  obtain ⟨a', e', r0⟩ := h5.2.2 g hg
  cases e0.symm.trans e'
  obtain ⟨n0, n1, n4, n5⟩ := h6.2 g a hg e0
  have hS : ∀ b m g, m < 5 → rowI G L f b m g → ¬ b = a := fun b m g hm hr => hr.neA r0.1
  refine ⟨h1.kp c n0.symm (fun k b hk e => ?_), h2.kp c n1.symm hS, h3.kp c (h3.1.neA r0.1) (h3.2.1.neA r0.1), h4.kp c n4.symm hS, ⟨h5.1.kp c n5.symm, h5.2.1, fun i hi => ?_⟩, h6⟩
  · obtain ⟨b', e', r⟩ := h1.2.1 k hk
    cases e.symm.trans e'
    exact r.neA r0.1
  · by_cases ei : i = g
    · subst ei
      refine ⟨a, e0, ?_⟩
      rw [va_up_self, va_up_self, va_up_self]
      refine ⟨hr, fun j hj => ?_⟩
      by_cases ej : j = p
      · subst ej
        rw [va_up_self, va_up_self, va_up_self]
        rcases hq with hq | ⟨hq, b, e, r⟩
        · exact Or.inl hq
        · exact Or.inr ⟨hq, b, e, r.kp c (hS b _ _ (by decide) r)⟩
      · rw [va_up_ne _ _ ej, va_up_ne _ _ ej, va_up_ne _ _ ej]
        rcases r0.2 j hj with h | ⟨h, b, e, r⟩
        · exact Or.inl h
        · exact Or.inr ⟨h, b, e, r.kp c (hS b _ _ (by decide) r)⟩
    · obtain ⟨b, e, r⟩ := h5.2.2 i hi
      refine ⟨b, e, ?_⟩
      rw [va_up_ne _ _ ei, va_up_ne _ _ ei, va_up_ne _ _ ei]
      exact r.kp c (fun z => ei (h5.2.1 i g hi hg (by rw [e, e0, z]))) hS
end SH
