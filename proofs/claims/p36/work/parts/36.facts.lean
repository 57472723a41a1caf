theorem pX1_hasRoom {pl q r : Int32} {ex : Nat → Int32} (hpl : 0 ≤ pl.toInt ∧ pl.toInt ≤ 10) (hex4 : ∀ k, k < 10 → 0 ≤ (ex k).toInt ∧ (ex k).toInt ≤ 4) (hq : ¬ FX1_isPlace pl q = 0) (h : r = FX1_hasRoom pl ex q) (c : ¬ r = 0) : 0 ≤ (q * 4 + ex q.toNatClampNeg).toInt ∧ (q * 4 + ex q.toNatClampNeg).toInt < 40 := by
  have h10 := pX1_isPlace10 hpl rfl hq
  have h4 := hex4 _ (xcl h10)
  subst h
  unfold FX1_hasRoom at c
  dsimp only [xbind, xbind2] at c
  rw [if_neg hq] at c
  split at c
  · exact absurd rfl c
  · rename_i h
    rw [xle] at h
    have e : (4 : Int32).toInt = 4 := rfl
    exact xq4in h10 (by omega)
theorem pX3_checkRange {q x : Int32} (h : (FX3_checkRange q x).1 = 0) : 1 ≤ q.toInt ∧ q.toInt ≤ x.toInt := by
  unfold FX3_checkRange at h
  split at h
  · exact absurd h (by decide)
  · split at h
    · rename_i h1 h2
      rw [xltI] at h1; rw [xle] at h2
      have e : (1 : Int32).toInt = 1 := rfl
      omega
    · exact absurd h (by decide)
theorem xbP {α β : Type} {P : β → Prop} {a : α} {f : α → β} (h : ∀ r, r = a → P (f r)) : P (xbind a f) := h a rfl
theorem xb2P {α β γ : Type} {P : γ → Prop} {a : α × β} {f : α → β → γ} (h : ∀ r u, r = a.1 → u = a.2 → P (f r u)) : P (xbind2 a f) := h a.1 a.2 rfl rfl
theorem xiteP {β : Type} {P : β → Prop} {c : Prop} [Decidable c] {a b : β} (h1 : c → P a) (h2 : ¬ c → P b) : P (if c then a else b) := by
  by_cases h : c
  · rw [if_pos h]; exact h1 h
  · rw [if_neg h]; exact h2 h
theorem pX0_endErrand_wl {u : (Int32) × (Int32)} (h : u = FX0_endErrand) : 0 ≤ (u.2).toInt ∧ (u.2).toInt ≤ 20 := by
  subst h
  show 0 ≤ (0 : Int32).toInt ∧ (0 : Int32).toInt ≤ 20
  decide
def PX0_step (z : Int32 × ((Int32) × (Int32) × (Int32) × (Int32) × (Int32) × (Int32) × (Int32) × (Int32) × (Int32) × (Nat → Int32) × (Nat → Int32) × (Nat → Int32) × (Nat → Int32) × (Nat → Int32) × (Nat → Int32))) : Prop := 0 ≤ (z.2.2.2.2.1).toInt ∧ (z.2.2.2.2.1).toInt ≤ 20
theorem pX0_step_wl {po : Int32} {co : Int32} {go : Int32} {wl : Int32} {gu : Int32} {wk : Int32} {db : Int32} {dn : Int32} {iv : Int32} {qs : Int32} {wy : Nat → Int32} {tr : Nat → Int32} {ak : Nat → Int32} {mx : Nat → Int32} {ms : Nat → Int32} {pl : Int32} {ex : Nat → Int32} {sh : Nat → Int32} {ld : Nat → Int32} {tw : Nat → Int32} {le : Nat → Int32} {op : Nat → Int32} {fa : Nat → Int32} {u : (Int32) × (Int32) × (Int32) × (Int32) × (Int32) × (Int32) × (Int32) × (Int32) × (Int32) × (Nat → Int32) × (Nat → Int32) × (Nat → Int32) × (Nat → Int32) × (Nat → Int32) × (Nat → Int32)} (hwl : 0 ≤ wl.toInt ∧ wl.toInt ≤ 20) (h : u = (FX0_step po co go wl gu wk db dn iv qs wy tr ak mx ms pl ex sh ld tw le op fa).2) : 0 ≤ (u.2.2.2.1).toInt ∧ (u.2.2.2.1).toInt ≤ 20 := by
  rw [h]
  refine (?_ : PX0_step (FX0_step po co go wl gu wk db dn iv qs wy tr ak mx ms pl ex sh ld tw le op fa))
  clear h
  unfold FX0_step
  repeat' first | with_reducible refine xbP (P := PX0_step) (fun _ _ => ?_) | with_reducible refine xb2P (P := PX0_step) (fun _ _ _ _ => ?_) | with_reducible refine xiteP (P := PX0_step) (fun _ => ?_) (fun _ => ?_)
  all_goals unfold PX0_step
  all_goals dsimp only
  all_goals first | exact hwl | exact pX0_endErrand_wl (by assumption) | exact pX0_take_wl hwl (by assumption) | exact pX0_doubleBack_wl (xwp hwl (by assumption)) (by assumption) | (show 0 ≤ (0 : Int32).toInt ∧ (0 : Int32).toInt ≤ 20; decide)
theorem pX0_begin_wl {po : Int32} {dn : Int32} {tr : Nat → Int32} {ak : Nat → Int32} {g : Int32} {u : (Int32) × (Int32) × (Int32) × (Nat → Int32) × (Nat → Int32)} (h : u = FX0_begin po dn tr ak g) : 0 ≤ (u.2.1).toInt ∧ (u.2.1).toInt ≤ 20 := by
  subst h
  unfold FX0_begin
  dsimp only [xbind, xbind2]
  split <;> (show 0 ≤ (0 : Int32).toInt ∧ (0 : Int32).toInt ≤ 20; decide)
theorem FX1_turnEnd_01 {tw : Nat → Int32} {op : Nat → Int32} {e : Int32} {r : Int32} (h : r = (FX1_turnEnd tw op e).1) : narrow .boolean (.int r) = .int r := by
  subst h
  refine xz01 ?_
  unfold FX1_turnEnd
  dsimp only [xbind, xbind2]
  repeat' split
  all_goals first | exact Or.inl rfl | exact Or.inr rfl
