/-! the second carrier beside the reference: a night -/
/-- what is remembered has a strength of 1 to 9, on the reference's side -/
def rM9 (xe sg : Nat → Int32) : Prop := ∀ k, k < 100 → xe k = -1 ∨ (1 ≤ (sg k).toInt ∧ (sg k).toInt ≤ 9)
theorem sNc_le (mp : Nat → Nat → Bool) (mm : Nat → Nat → Nat → Int32) : ∀ k, sNc mp mm k ≤ k
  | 0 => Nat.le_refl _
  | k + 1 => by
    have := sNc_le mp mm k
    unfold sNc
    split <;> omega
theorem dNight {mp : Nat → Nat → Bool} {mm : Nat → Nat → Nat → Int32} {xe sg : Nat → Int32} (hM : rM mp mm xe sg) (h9 : rM9 xe sg) : ∀ (m i : Nat) (xe2 sg2 : Nat → Int32) (many : Int32), i + m = 101 → i ≤ 100 → many = nI (sNc mp mm i) → (∀ k, k < 100 → i ≤ k → xe2 k = xe k ∧ sg2 k = sg k) → (∀ k, k < i → (sNp mp mm (k / 10) (k % 10) = false ∧ xe2 k = -1) ∨ (sNp mp mm (k / 10) (k % 10) = true ∧ ¬ xe2 k = -1 ∧ sNm mp mm (k / 10) (k % 10) 0 = xe2 k ∧ sNm mp mm (k / 10) (k % 10) 1 = sg2 k ∧ 1 ≤ (sg2 k).toInt ∧ (sg2 k).toInt ≤ 9)) →
    ∃ xe3 sg3, LX5_night_t m i many xe2 sg2 = (nI (sNc mp mm 100), xe3, sg3) ∧ rM (sNi 10 0 (sNp mp mm) mp) (sNi 10 0 (sNm mp mm) mm) xe3 sg3 ∧ rM9 xe3 sg3 := by
  intro m
  induction m with
  | zero => intro i xe2 sg2 many h1 h2; exact absurd h1 (by omega)
  | succ m ih =>
    intro i xe2 sg2 many h1 h2 hm hnew hold
    rw [LX5_night_t]
    by_cases c : 100 ≤ i
    · have ei : i = 100 := by omega
      subst ei
      rw [if_pos (show (100 : Int32) ≤ nI 100 by decide), hm]
      refine ⟨xe2, sg2, rfl, fun g q hg hq => ?_, fun k hk => ?_⟩
      · have ek : (10 * g + q) / 10 = g ∧ (10 * g + q) % 10 = q := by omega
        have e1 : sNi 10 0 (sNp mp mm) mp g q = sNp mp mm g q := if_pos (Or.inl hg)
        have e2 : sNi 10 0 (sNm mp mm) mm g q = sNm mp mm g q := if_pos (Or.inl hg)
        rw [e1, e2]
        have h := hold (10 * g + q) (by omega)
        rw [ek.1, ek.2] at h
        rcases h with h | ⟨h3, h4, h5, h6, -⟩
        · exact Or.inl h
        · exact Or.inr ⟨h3, h4, h5, h6⟩
      · rcases hold k hk with h | ⟨-, -, -, -, h⟩
        · exact Or.inl h.2
        · exact Or.inr h
    · rw [if_neg (show ¬ (100 : Int32) ≤ nI i from nI_ge (b := 100) (by omega) (by omega)), nI_clamp (by omega)]
      obtain ⟨n1, n2⟩ := hnew i (by omega) (Nat.le_refl _)
      rw [n1, n2]
      have hq : i % 10 < 10 := by omega
      have hmi := hM (i / 10) (i % 10) (by omega) hq
      rw [show 10 * (i / 10) + i % 10 = i by omega] at hmi
      have hsp : ∀ k, k < i + 1 → k = i ∨ k < i := fun k hk => by omega
      rcases hmi with ⟨k1, k2⟩ | ⟨k1, k2, k3, k4⟩
      · rw [if_pos k2]
        refine ih (i + 1) _ _ _ (by omega) (by omega) ?_ (fun k hk hk2 => hnew k hk (by omega)) (fun k hk => ?_)
        · rw [hm, sNc, if_neg (fun h => by rw [k1] at h; exact absurd h.1 (by decide)), Nat.add_zero]
        · rcases hsp k hk with e | e
          · subst e
            left
            refine ⟨?_, by rw [n1]; exact k2⟩
            unfold sNp
            rw [if_pos hq, k1]
            rfl
          · exact hold k e
      · rw [if_neg k2, dup_s]
        obtain ⟨s1, s2⟩ := (h9 i (by omega)).resolve_left k2
        have hs1 : (sg i - 1).toInt = (sg i).toInt - 1 := by
          rw [Int32.toInt_sub, show (1 : Int32).toInt = 1 from rfl, Int.bmod_eq_of_le (by omega) (by omega)]
        have hone : mm (i / 10) (i % 10) 1 = 1 ↔ sg i - 1 ≤ 0 := by
          rw [k4, xle, hs1, show (0 : Int32).toInt = 0 from rfl, xeqI, show (1 : Int32).toInt = 1 from rfl]
          omega
        by_cases d : sg i - 1 ≤ 0
        · rw [if_pos d]
          have d1 := hone.mpr d
          refine ih (i + 1) _ _ _ (by omega) (by omega) ?_ (fun k hk hk2 => ?_) (fun k hk => ?_)
          · rw [hm, sNc, if_pos ⟨k1, d1⟩, nI_1]
          · rw [dup_n (by omega), dup_n (by omega)]
            exact hnew k hk (by omega)
          · rcases hsp k hk with e | e
            · subst e
              left
              refine ⟨?_, dup_s⟩
              unfold sNp
              rw [if_pos hq, k1, decide_eq_true d1]
              rfl
            · rw [dup_n (by omega), dup_n (by omega)]
              exact hold k e
        · rw [if_neg d]
          have d1 : ¬ mm (i / 10) (i % 10) 1 = 1 := fun h => d (hone.mp h)
          refine ih (i + 1) _ _ _ (by omega) (by omega) ?_ (fun k hk hk2 => ?_) (fun k hk => ?_)
          · rw [hm, sNc, if_neg (fun h => d1 h.2), Nat.add_zero]
          · rw [dup_n (by omega)]
            exact hnew k hk (by omega)
          · rcases hsp k hk with e | e
            · subst e
              right
              rw [dup_s, n1]
              rw [xle, hs1, show (0 : Int32).toInt = 0 from rfl] at d
              refine ⟨?_, k2, ?_, ?_, by omega, by omega⟩
              · unfold sNp
                rw [if_pos hq, k1, decide_eq_false d1]
                rfl
              · unfold sNm
                rw [if_pos ⟨hq, k1, d1⟩]
                exact k3
              · unfold sNm
                rw [if_pos ⟨hq, k1, d1⟩, ← k4]
                rfl
            · rw [dup_n (by omega)]
              exact hold k e
