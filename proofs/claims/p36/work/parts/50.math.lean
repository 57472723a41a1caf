/-! shortest ways in plain numbers: passes over the ends of a land (E: open, q: where it leads, w: its miles) -/
def zup (f : Nat → Nat) (p v : Nat) : Nat → Nat := fun k => if k = p then v else f k
theorem zup_s {f : Nat → Nat} {p v : Nat} : zup f p v p = v := if_pos rfl
theorem zup_n {f : Nat → Nat} {p v k : Nat} (h : k ≠ p) : zup f p v k = f k := if_neg h
def zrx (E : Nat → Bool) (q w f : Nat → Nat) (e : Nat) : Nat → Nat := if E e = true ∧ f (q e) + w e < f (e / 4) then zup f (e / 4) (f (q e) + w e) else f
def zps (E : Nat → Bool) (q w : Nat → Nat) : Nat → Nat → (Nat → Nat) → (Nat → Nat)
  | 0, _, f => f
  | n + 1, i, f => zps E q w n (i + 1) (zrx E q w f i)
theorem zrx_le {E : Nat → Bool} {q w f : Nat → Nat} {e : Nat} (p : Nat) : zrx E q w f e p ≤ f p := by
  unfold zrx
  split
  · rename_i h
    by_cases c : p = e / 4
    · rw [c, zup_s]; exact Nat.le_of_lt h.2
    · rw [zup_n c]; exact Nat.le_refl _
  · exact Nat.le_refl _
theorem zrx_edge {E : Nat → Bool} {q w f : Nat → Nat} {e : Nat} (hE : E e = true) : zrx E q w f e (e / 4) ≤ f (q e) + w e := by
  unfold zrx
  split
  · rw [zup_s]; exact Nat.le_refl _
  · rename_i h
    exact Nat.not_lt.mp (fun c => h ⟨hE, c⟩)
theorem zps_le {E : Nat → Bool} {q w : Nat → Nat} : ∀ (n i : Nat) (f : Nat → Nat) (p : Nat), zps E q w n i f p ≤ f p
  | 0, _, _, _ => Nat.le_refl _
  | n + 1, i, f, p => Nat.le_trans (zps_le n (i + 1) (zrx E q w f i) p) (zrx_le p)
theorem zps_edge {E : Nat → Bool} {q w : Nat → Nat} {e : Nat} (hE : E e = true) : ∀ (n i : Nat) (f : Nat → Nat), i ≤ e → e < i + n → zps E q w n i f (e / 4) ≤ f (q e) + w e
  | 0, _, _, h1, h2 => absurd h2 (by omega)
  | n + 1, i, f, h1, h2 => by
    show zps E q w n (i + 1) (zrx E q w f i) (e / 4) ≤ f (q e) + w e
    by_cases c : i = e
    · rw [c]
      exact Nat.le_trans (zps_le n _ _ _) (zrx_edge hE)
    · exact Nat.le_trans (zps_edge hE n (i + 1) _ (by omega) (by omega)) (Nat.add_le_add_right (zrx_le _) _)
theorem zps_no {E : Nat → Bool} {q w : Nat → Nat} : ∀ (n i : Nat) (f : Nat → Nat), (∀ e, i ≤ e → e < i + n → ¬ E e = true) → zps E q w n i f = f
  | 0, _, _, _ => rfl
  | n + 1, i, f, h => by
    show zps E q w n (i + 1) (zrx E q w f i) = f
    have h1 : zrx E q w f i = f := if_neg (fun c => h i (Nat.le_refl _) (by omega) c.1)
    rw [h1]
    exact zps_no n (i + 1) f (fun e h2 h3 => h e (by omega) (by omega))
theorem zrx_lb {E : Nat → Bool} {q w f F : Nat → Nat} {e : Nat} (hF : E e = true → F (e / 4) ≤ F (q e) + w e) (h : ∀ p, F p ≤ f p) (p : Nat) : F p ≤ zrx E q w f e p := by
  unfold zrx
  split
  · rename_i c
    by_cases c2 : p = e / 4
    · rw [c2, zup_s]; exact Nat.le_trans (hF c.1) (Nat.add_le_add_right (h _) _)
    · rw [zup_n c2]; exact h p
  · exact h p
theorem zps_lb {E : Nat → Bool} {q w F : Nat → Nat} (hF : ∀ e, E e = true → F (e / 4) ≤ F (q e) + w e) : ∀ (n i : Nat) (f : Nat → Nat), (∀ p, F p ≤ f p) → ∀ p, F p ≤ zps E q w n i f p
  | 0, _, _, h, p => h p
  | n + 1, i, f, h, p => zps_lb hF n (i + 1) (zrx E q w f i) (zrx_lb (hF i) h) p
/-- each number below 9999 has an end that bears it out -/
def zsu (E : Nat → Bool) (q w : Nat → Nat) (g : Nat) (f : Nat → Nat) : Prop := ∀ p, f p < 9999 → p = g ∨ ∃ e, E e = true ∧ e / 4 = p ∧ f (q e) + w e ≤ f p
theorem zrx_su {E : Nat → Bool} {q w f : Nat → Nat} {g e : Nat} (h : zsu E q w g f) : zsu E q w g (zrx E q w f e) := by
  intro p hp
  by_cases c : E e = true ∧ f (q e) + w e < f (e / 4)
  · have e1 : zrx E q w f e = zup f (e / 4) (f (q e) + w e) := if_pos c
    by_cases c2 : p = e / 4
    · right
      refine ⟨e, c.1, c2.symm, ?_⟩
      have h1 : zrx E q w f e (q e) ≤ f (q e) := zrx_le _
      have h2 : zrx E q w f e p = f (q e) + w e := by rw [e1, c2, zup_s]
      omega
    · have h2 : zrx E q w f e p = f p := by rw [e1, zup_n c2]
      rcases h p (by omega) with h3 | ⟨e2, a1, a2, a3⟩
      · exact Or.inl h3
      · right
        have h1 : zrx E q w f e (q e2) ≤ f (q e2) := zrx_le _
        exact ⟨e2, a1, a2, by omega⟩
  · have e1 : zrx E q w f e = f := if_neg c
    rw [e1] at hp ⊢
    exact h p hp
theorem zps_su {E : Nat → Bool} {q w : Nat → Nat} {g : Nat} : ∀ (n i : Nat) (f : Nat → Nat), zsu E q w g f → zsu E q w g (zps E q w n i f)
  | 0, _, _, h => h
  | n + 1, i, f, h => zps_su n (i + 1) (zrx E q w f i) (zrx_su h)
/-- how many places differ -/
def zun (F f : Nat → Nat) : Nat → Nat
  | 0 => 0
  | n + 1 => zun F f n + (if f n = F n then 0 else 1)
theorem zun_le {F f : Nat → Nat} : ∀ n, zun F f n ≤ n
  | 0 => Nat.le_refl 0
  | n + 1 => by
    have h := zun_le (F := F) (f := f) n
    unfold zun
    split <;> omega
theorem zun_mono {F f f' : Nat → Nat} (h : ∀ p, f p = F p → f' p = F p) : ∀ n, zun F f' n ≤ zun F f n
  | 0 => Nat.le_refl 0
  | n + 1 => by
    have h1 := zun_mono h n
    have h2 := h n
    unfold zun
    by_cases c : f n = F n
    · rw [if_pos c, if_pos (h2 c)]; omega
    · rw [if_neg c]; split <;> omega
theorem zun_lt {F f f' : Nat → Nat} (h : ∀ p, f p = F p → f' p = F p) {p0 : Nat} (h1 : f p0 ≠ F p0) (h2 : f' p0 = F p0) : ∀ n, p0 < n → zun F f' n < zun F f n
  | 0, c => absurd c (by omega)
  | n + 1, c => by
    unfold zun
    by_cases e : p0 = n
    · have h3 := zun_mono h n
      rw [if_pos (by rw [← e]; exact h2), if_neg (by rw [← e]; exact h1)]
      omega
    · have h3 := zun_lt h h1 h2 n (by omega)
      have h4 := h n
      by_cases c2 : f n = F n
      · rw [if_pos c2, if_pos (h4 c2)]; omega
      · rw [if_neg c2]; split <;> omega
theorem zun_0 {F f : Nat → Nat} : ∀ n, zun F f n = 0 → ∀ p, p < n → f p = F p
  | 0, _, p, h => absurd h (by omega)
  | n + 1, h0, p, h => by
    unfold zun at h0
    by_cases c : f n = F n
    · by_cases e : p = n
      · rw [e]; exact c
      · exact zun_0 n (by omega) p (by omega)
    · rw [if_neg c] at h0; omega
theorem zun_all {F f : Nat → Nat} : ∀ n, (∀ p, p < n → f p = F p) → zun F f n = 0
  | 0, _ => rfl
  | n + 1, h => by
    unfold zun
    rw [zun_all n (fun p hp => h p (by omega)), if_pos (h n (by omega))]
theorem zset {E : Nat → Bool} {q w F f : Nat → Nat} {g : Nat} (hFe : ∀ e, E e = true → F (e / 4) ≤ F (q e) + w e) (hw : ∀ e, E e = true → 1 ≤ w e) (hE : ∀ e, E e = true → e < 40 ∧ q e < 10) (hsu : zsu E q w g F) (hlb : ∀ p, F p ≤ f p) (h9 : ∀ p, f p ≤ 9999) (hg : f g = F g) : ∀ (v p : Nat), F p < v → p < 10 → f p ≠ F p → ∃ p0, p0 < 10 ∧ f p0 ≠ F p0 ∧ zps E q w 40 0 f p0 = F p0 := by
  intro v
  induction v with
  | zero => intro p hv; exact absurd hv (by omega)
  | succ v ih =>
    intro p hv hp hne
    have h1 := hlb p
    have h2 := h9 p
    rcases hsu p (by omega) with h3 | ⟨e, a1, a2, a3⟩
    · rw [h3] at hne; exact absurd hg hne
    · have a4 := hw e a1
      by_cases c : f (q e) = F (q e)
      · refine ⟨p, hp, hne, ?_⟩
        have b1 := zps_edge (q := q) (w := w) a1 40 0 f (by omega) (by have := (hE e a1).1; omega)
        have b2 := zps_lb hFe 40 0 f hlb p
        rw [a2] at b1
        omega
      · exact ih (q e) (by omega) (hE e a1).2 c
theorem zrnd {E : Nat → Bool} {q w F f : Nat → Nat} {g : Nat} (hFe : ∀ e, E e = true → F (e / 4) ≤ F (q e) + w e) (hw : ∀ e, E e = true → 1 ≤ w e) (hE : ∀ e, E e = true → e < 40 ∧ q e < 10) (hsu : zsu E q w g F) (hlb : ∀ p, F p ≤ f p) (h9 : ∀ p, f p ≤ 9999) (hg : f g = F g) : zun F f 10 = 0 ∨ zun F (zps E q w 40 0 f) 10 < zun F f 10 := by
  by_cases c : ∃ p, p < 10 ∧ f p ≠ F p
  · right
    obtain ⟨p, hp, hne⟩ := c
    obtain ⟨p0, b1, b2, b3⟩ := zset hFe hw hE hsu hlb h9 hg (F p + 1) p (by omega) hp hne
    refine zun_lt (fun k hk => ?_) b2 b3 10 b1
    have c1 := zps_le (E := E) (q := q) (w := w) 40 0 f k
    have c2 := zps_lb hFe 40 0 f hlb k
    omega
  · left
    exact zun_all 10 (fun p hp => Classical.byContradiction fun h => c ⟨p, hp, h⟩)
