/-! the second carrier's measure, in plain numbers: passes over roads, both ways -/
/-- a road from t.1 to t.2.1 with t.2.2 miles is looked at -/
def dRx (t : Nat × Nat × Nat) (f : Nat → Nat) : Nat → Nat := if f t.2.1 + t.2.2 < f t.1 then zup f t.1 (f t.2.1 + t.2.2) else f
def dPs : List (Nat × Nat × Nat) → (Nat → Nat) → (Nat → Nat)
  | [], f => f
  | t :: T, f => dPs T (dRx t f)
def dRs (T : List (Nat × Nat × Nat)) : Nat → (Nat → Nat) → (Nat → Nat)
  | 0, f => f
  | k + 1, f => dPs T (dRs T k f)
theorem dRx_le {t : Nat × Nat × Nat} {f : Nat → Nat} (p : Nat) : dRx t f p ≤ f p := by
  unfold dRx
  split
  · by_cases h : p = t.1
    · subst h; rw [zup_s]; omega
    · rw [zup_n h]; exact Nat.le_refl _
  · exact Nat.le_refl _
theorem dPs_le : ∀ (T : List (Nat × Nat × Nat)) (f : Nat → Nat) (p : Nat), dPs T f p ≤ f p
  | [], _, _ => Nat.le_refl _
  | t :: T, f, p => Nat.le_trans (dPs_le T (dRx t f) p) (dRx_le p)
theorem dRx_edge {t : Nat × Nat × Nat} {f : Nat → Nat} : dRx t f t.1 ≤ f t.2.1 + t.2.2 := by
  unfold dRx
  split
  · rw [zup_s]; exact Nat.le_refl _
  · omega
theorem dPs_edge {t : Nat × Nat × Nat} : ∀ (T : List (Nat × Nat × Nat)) (f : Nat → Nat), t ∈ T → dPs T f t.1 ≤ f t.2.1 + t.2.2
  | [], _, h => absurd h (List.not_mem_nil)
  | u :: T, f, h => by
    rcases List.mem_cons.mp h with rfl | h
    · exact Nat.le_trans (dPs_le T _ _) dRx_edge
    · exact Nat.le_trans (dPs_edge T (dRx u f) h) (Nat.add_le_add_right (dRx_le _) _)
theorem dRx_lb {F f : Nat → Nat} {t : Nat × Nat × Nat} (hF : F t.1 ≤ F t.2.1 + t.2.2) (h : ∀ p, F p ≤ f p) (p : Nat) : F p ≤ dRx t f p := by
  unfold dRx
  split
  · by_cases c : p = t.1
    · subst c; rw [zup_s]; have := h t.2.1; omega
    · rw [zup_n c]; exact h p
  · exact h p
theorem dPs_lb {F : Nat → Nat} : ∀ (T : List (Nat × Nat × Nat)) (f : Nat → Nat), (∀ t ∈ T, F t.1 ≤ F t.2.1 + t.2.2) → (∀ p, F p ≤ f p) → ∀ p, F p ≤ dPs T f p
  | [], _, _, h, p => h p
  | t :: T, f, hF, h, p => dPs_lb T (dRx t f) (fun u hu => hF u (List.mem_cons_of_mem _ hu)) (dRx_lb (hF t (List.mem_cons_self)) h) p
theorem dPs_app : ∀ (A B : List (Nat × Nat × Nat)) (f : Nat → Nat), dPs (A ++ B) f = dPs B (dPs A f)
  | [], _, _ => rfl
  | t :: A, B, f => dPs_app A B (dRx t f)
section DF
variable {T : List (Nat × Nat × Nat)} {F f : Nat → Nat} {g n : Nat}
theorem dset (hFe : ∀ t ∈ T, F t.1 ≤ F t.2.1 + t.2.2) (hw : ∀ t ∈ T, 1 ≤ t.2.2 ∧ t.2.1 < n) (hsu : ∀ p, F p < 9999 → p = g ∨ ∃ t ∈ T, t.1 = p ∧ F t.2.1 + t.2.2 ≤ F p) (hlb : ∀ p, F p ≤ f p) (h9 : ∀ p, f p ≤ 9999) (hg : f g = F g) : ∀ (v p : Nat), F p < v → p < n → f p ≠ F p → ∃ p0, p0 < n ∧ f p0 ≠ F p0 ∧ dPs T f p0 = F p0 := by
  intro v
  induction v with
  | zero => intro p hv; exact absurd hv (by omega)
  | succ v ih =>
    intro p hv hp hne
    have h1 := hlb p
    have h2 := h9 p
    rcases hsu p (by omega) with h3 | ⟨t, a1, a2, a3⟩
    · rw [h3] at hne; exact absurd hg hne
    · obtain ⟨a4, a5⟩ := hw t a1
      by_cases c : f t.2.1 = F t.2.1
      · refine ⟨p, hp, hne, ?_⟩
        have b1 := dPs_edge T f a1
        have b2 := dPs_lb T f hFe hlb p
        rw [a2] at b1
        omega
      · exact ih t.2.1 (by omega) a5 c
theorem drnd (hFe : ∀ t ∈ T, F t.1 ≤ F t.2.1 + t.2.2) (hw : ∀ t ∈ T, 1 ≤ t.2.2 ∧ t.2.1 < n) (hsu : ∀ p, F p < 9999 → p = g ∨ ∃ t ∈ T, t.1 = p ∧ F t.2.1 + t.2.2 ≤ F p) (hlb : ∀ p, F p ≤ f p) (h9 : ∀ p, f p ≤ 9999) (hg : f g = F g) : zun F (dPs T f) n ≤ zun F f n - 1 := by
  have hkeep : ∀ p, f p = F p → dPs T f p = F p := fun p hp => Nat.le_antisymm (hp ▸ dPs_le T f p) (dPs_lb T f hFe hlb p)
  by_cases c : ∃ p, p < n ∧ f p ≠ F p
  · obtain ⟨p, h1, h2⟩ := c
    obtain ⟨p0, k1, k2, k3⟩ := dset hFe hw hsu hlb h9 hg (F p + 1) p (Nat.lt_succ_self _) h1 h2
    have := zun_lt hkeep k2 k3 n k1
    omega
  · have h0 : zun F f n = 0 := zun_all n (fun p hp => Decidable.byContradiction fun h => c ⟨p, hp, h⟩)
    have := zun_mono hkeep n
    omega
theorem drs (hFe : ∀ t ∈ T, F t.1 ≤ F t.2.1 + t.2.2) (hw : ∀ t ∈ T, 1 ≤ t.2.2 ∧ t.2.1 < n) (hsu : ∀ p, F p < 9999 → p = g ∨ ∃ t ∈ T, t.1 = p ∧ F t.2.1 + t.2.2 ≤ F p) (hlb : ∀ p, F p ≤ f p) (h9 : ∀ p, f p ≤ 9999) (hg : f g = F g) : ∀ k, (∀ p, F p ≤ dRs T k f p) ∧ (∀ p, dRs T k f p ≤ f p) ∧ zun F (dRs T k f) n ≤ zun F f n - k
  | 0 => ⟨hlb, fun _ => Nat.le_refl _, Nat.le_refl _⟩
  | k + 1 => by
    obtain ⟨h1, h2, h3⟩ := drs hFe hw hsu hlb h9 hg k
    have h4 : dRs T k f g = F g := Nat.le_antisymm (hg ▸ h2 g) (h1 g)
    have := drnd hFe hw hsu h1 (fun p => Nat.le_trans (h2 p) (h9 p)) h4
    refine ⟨dPs_lb T _ hFe h1, fun p => Nat.le_trans (dPs_le T _ p) (h2 p), ?_⟩
    rw [dRs]
    omega
/-- behind as many rounds as there are places all is measured -/
theorem dall (hFe : ∀ t ∈ T, F t.1 ≤ F t.2.1 + t.2.2) (hw : ∀ t ∈ T, 1 ≤ t.2.2 ∧ t.2.1 < n) (hsu : ∀ p, F p < 9999 → p = g ∨ ∃ t ∈ T, t.1 = p ∧ F t.2.1 + t.2.2 ≤ F p) (h0 : F g = 0) (hF9 : ∀ p, F p ≤ 9999) {p : Nat} (hp : p < n) : dRs T n (fun p => if p = g then 0 else 9999) p = F p := by
  obtain ⟨-, -, h3⟩ := drs (f := fun p => if p = g then 0 else 9999) hFe hw hsu (fun p => by
    show F p ≤ if p = g then 0 else 9999
    split
    · next h => rw [h, h0]; exact Nat.le_refl _
    · exact hF9 p) (fun p => by
    show (if p = g then 0 else 9999) ≤ 9999
    split <;> omega) (by show (if g = g then 0 else 9999) = F g; rw [if_pos rfl, h0]) n
  have := zun_le (F := F) (f := fun p => if p = g then 0 else 9999) n
  exact zun_0 n (by omega) p hp
end DF
theorem dup_s {f : Nat → Int32} {k : Nat} {x : Int32} : upd f k x k = x := if_pos rfl
theorem dup_n {f : Nat → Int32} {k j : Nat} {x : Int32} (h : j ≠ k) : upd f k x j = f j := if_neg h
/-! the second carrier's rows of miles beside plain numbers -/
def dT (rw : Nat → Nat → Int32) : Nat → List (Nat × Nat × Nat)
  | 0 => []
  | k + 1 => dT rw k ++ if rw k 3 = 0 then [] else [((rw k 0).toNatClampNeg, (rw k 1).toNatClampNeg, (rw k 2).toNatClampNeg), ((rw k 1).toNatClampNeg, (rw k 0).toNatClampNeg, (rw k 2).toNatClampNeg)]
theorem dT_in {rw : Nat → Nat → Int32} {t : Nat × Nat × Nat} : ∀ n, t ∈ dT rw n ↔ ∃ k, k < n ∧ ¬ rw k 3 = 0 ∧ (t = ((rw k 0).toNatClampNeg, (rw k 1).toNatClampNeg, (rw k 2).toNatClampNeg) ∨ t = ((rw k 1).toNatClampNeg, (rw k 0).toNatClampNeg, (rw k 2).toNatClampNeg))
  | 0 => ⟨fun h => absurd h (List.not_mem_nil), fun ⟨k, h, _⟩ => absurd h (by omega)⟩
  | n + 1 => by
    rw [dT, List.mem_append, dT_in n]
    constructor
    · rintro (⟨k, h1, h2⟩ | h)
      · exact ⟨k, by omega, h2⟩
      · by_cases c : rw n 3 = 0
        · rw [if_pos c] at h; exact absurd h (List.not_mem_nil)
        · rw [if_neg c] at h
          refine ⟨n, by omega, c, ?_⟩
          rcases List.mem_cons.mp h with h | h
          · exact Or.inl h
          · exact Or.inr (List.mem_singleton.mp h)
    · rintro ⟨k, h1, h2, h3⟩
      by_cases c : k = n
      · subst c
        right
        rw [if_neg h2]
        rcases h3 with h | h
        · rw [h]; exact List.mem_cons_self
        · rw [h]; exact List.mem_cons_of_mem _ List.mem_cons_self
      · exact Or.inl ⟨k, by omega, h2, h3⟩
/-- a row of miles beside plain ones -/
def dfr (n : Nat) (d : Nat → Int32) (f : Nat → Nat) : Prop := ∀ p, p < n → (d p).toInt = (f p : Nat) ∧ f p ≤ 9999
theorem dfr_rx {n a b : Nat} {w : Int32} {d : Nat → Int32} {f : Nat → Nat} (h : dfr n d f) (ha : a < n) (hb : b < n) (hw : 0 ≤ w.toInt ∧ w.toInt ≤ 9) : dfr n (upd d a (sMin (d a) (d b + w))) (dRx (a, b, w.toNatClampNeg) f) := by
  obtain ⟨a1, a2⟩ := h a ha
  obtain ⟨b1, b2⟩ := h b hb
  have hwn := znat hw.1
  have hs : (d b + w).toInt = (d b).toInt + w.toInt := zadd (by omega)
  intro p hp
  obtain ⟨p1, p2⟩ := h p hp
  unfold dRx sMin
  by_cases c : d b + w < d a
  · have c' := c
    rw [xltI, hs] at c'
    rw [if_pos c, if_pos (show f b + w.toNatClampNeg < f a by omega)]
    by_cases e : p = a
    · subst e
      rw [dup_s, zup_s]
      show _ = ((f b + w.toNatClampNeg : Nat) : Int) ∧ f b + w.toNatClampNeg ≤ 9999
      omega
    · rw [dup_n e, zup_n e]
      exact ⟨p1, p2⟩
  · have c' := c
    rw [xltI, hs] at c'
    rw [if_neg c, if_neg (show ¬ f b + w.toNatClampNeg < f a by omega)]
    by_cases e : p = a
    · subst e
      rw [dup_s]
      exact ⟨p1, p2⟩
    · rw [dup_n e]
      exact ⟨p1, p2⟩
