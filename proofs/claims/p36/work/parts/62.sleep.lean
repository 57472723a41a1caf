/-! nights -/
def zsv (ms : Nat → Int32) (j k : Nat) : Int := if (j : Int) < (ms k).toInt then (ms k).toInt - j else 0
def zsr (mx xe sg : Nat → Int32) (w : Int) (k : Nat) : Prop := (w = 0 ∧ xe k = -1) ∨ ((1 ≤ w ∧ w ≤ 9) ∧ (sg k).toInt = w ∧ xe k = mx k ∧ 0 ≤ (mx k).toInt)
def zc1 (w : Nat → Int) : Nat → Nat
  | 0 => 0
  | n + 1 => zc1 w n + (if w n = 1 then 1 else 0)
def zcs (ms : Nat → Int32) (j : Nat) : Nat → Nat
  | 0 => 0
  | n + 1 => zcs ms j n + (if 1 ≤ (ms n).toInt ∧ (ms n).toInt ≤ j then 1 else 0)
theorem zcc (ms : Nat → Int32) (j : Nat) : ∀ n, zcs ms (j + 1) n = zcs ms j n + zc1 (zsv ms j) n
  | 0 => rfl
  | n + 1 => by
    have h := zcc ms j n
    have hz : zsv ms j n = 1 ↔ (ms n).toInt = j + 1 := by
      unfold zsv
      split <;> omega
    unfold zcs zc1
    rw [h]
    by_cases c1 : 1 ≤ (ms n).toInt ∧ (ms n).toInt ≤ j
    · rw [if_pos c1, if_pos (by omega), if_neg (fun h => by have := hz.mp h; omega)]; omega
    · rw [if_neg c1]
      by_cases c2 : (ms n).toInt = j + 1
      · rw [if_pos (hz.mpr c2), if_pos (by omega)]; omega
      · rw [if_neg (fun h => c2 (hz.mp h)), if_neg (by omega)]; omega
theorem zcs0 (ms : Nat → Int32) : ∀ n, zcs ms 0 n = 0
  | 0 => rfl
  | n + 1 => by
    unfold zcs
    rw [zcs0 ms n, if_neg (by omega)]
theorem zfade {ms : Nat → Int32} {m : Nat} (hm : m ≤ 9) (h9 : ∀ k, k < 100 → 0 ≤ (ms k).toInt ∧ (ms k).toInt ≤ 9) : ∀ (n i : Nat) (f : Nat → Int32) (fg : Int32), i + n = 101 → i ≤ 100 → fg = nI (zcs ms m i) → (∀ k, i ≤ k → k < 100 → f k = ms k) → (∀ k, k < i → (f k).toInt = zsv ms m k) → (LX2_fade_a (nI m) n i f fg).2 = nI (zcs ms m 100) ∧ ∀ k, k < 100 → ((LX2_fade_a (nI m) n i f fg).1 k).toInt = zsv ms m k
  | 0, i, f, fg, h, h1, _, _, _ => absurd h1 (by omega)
  | n + 1, i, f, fg, h, h1, h2, h3, h4 => by
    have e0 : (0 : Int32).toInt = 0 := rfl
    by_cases c : 100 ≤ nI i
    · rw [LX2_fade_a, if_pos c]
      rw [show (100 : Int32) = nI 100 from rfl, nI_leI (by decide) (by omega)] at c
      have hi : i = 100 := by omega
      rw [hi] at h2 h4
      exact ⟨h2, h4⟩
    · have c' := c
      rw [show (100 : Int32) = nI 100 from rfl, nI_leI (by decide) (by omega)] at c'
      have hic : (nI i).toNatClampNeg = i := nI_clamp (by omega)
      have hfi := h3 i (Nat.le_refl i) (by omega)
      have hv := h9 i (by omega)
      have hmi : (nI m).toInt = m := nI_toInt (by omega)
      have hsub : (f i - nI m).toInt = (ms i).toInt - m := by
        rw [hfi, Int32.toInt_sub, hmi, Int.bmod_eq_of_le (by omega) (by omega)]
      have hnew : ((if 0 < f i - nI m then f i - nI m else 0 : Int32)).toInt = zsv ms m i := by
        unfold zsv
        by_cases c2 : 0 < f i - nI m
        · have c3 := c2
          rw [xltI, e0, hsub] at c3
          rw [if_pos c2, if_pos (by omega), hsub]
        · have c3 := c2
          rw [xltI, e0, hsub] at c3
          rw [if_neg c2, if_neg (by omega), e0]
      have hup : ∀ k, k < i + 1 → ((upd f i (if 0 < f i - nI m then f i - nI m else 0)) k).toInt = zsv ms m k := fun k hk => by
        by_cases c2 : k = i
        · rw [c2, pk_us]; exact hnew
        · rw [pk_un c2]; exact h4 k (by omega)
      have hkeep : ∀ k, i + 1 ≤ k → k < 100 → (upd f i (if 0 < f i - nI m then f i - nI m else 0)) k = ms k := fun k hk hk2 => by
        rw [pk_un (by omega)]; exact h3 k (by omega) hk2
      by_cases c2 : f i ≤ 0
      · have c3 := c2
        rw [xle, e0, hfi] at c3
        rw [LX2_fade_a, if_neg c, hic, if_pos c2]
        refine zfade hm h9 n (i + 1) _ _ (by omega) (by omega) ?_ hkeep hup
        rw [h2]
        show nI (zcs ms m i) = nI (zcs ms m i + (if 1 ≤ (ms i).toInt ∧ (ms i).toInt ≤ m then 1 else 0))
        rw [if_neg (by omega), Nat.add_zero]
      · have c3 := c2
        rw [xle, e0, hfi] at c3
        rw [LX2_fade_a, if_neg c, hic, if_neg c2, pk_us]
        by_cases c4 : (if 0 < f i - nI m then f i - nI m else 0 : Int32) = 0
        · rw [if_pos c4]
          rw [xeqI, hnew, e0] at c4
          unfold zsv at c4
          refine zfade hm h9 n (i + 1) _ _ (by omega) (by omega) ?_ hkeep hup
          rw [h2, nI_1]
          show nI (zcs ms m i + 1) = nI (zcs ms m i + (if 1 ≤ (ms i).toInt ∧ (ms i).toInt ≤ m then 1 else 0))
          have c5 : 1 ≤ (ms i).toInt ∧ (ms i).toInt ≤ m := by
            by_cases c6 : (m : Int) < (ms i).toInt
            · rw [if_pos c6] at c4; omega
            · omega
          rw [if_pos c5]
        · rw [if_neg c4]
          rw [xeqI, hnew, e0] at c4
          unfold zsv at c4
          refine zfade hm h9 n (i + 1) _ _ (by omega) (by omega) ?_ hkeep hup
          rw [h2]
          show nI (zcs ms m i) = nI (zcs ms m i + (if 1 ≤ (ms i).toInt ∧ (ms i).toInt ≤ m then 1 else 0))
          have c5 : ¬ (1 ≤ (ms i).toInt ∧ (ms i).toInt ≤ m) := fun hh => by
            rw [if_neg (by omega)] at c4; exact c4 rfl
          rw [if_neg c5, Nat.add_zero]
theorem znight {mx : Nat → Int32} {w : Nat → Int} {M : Nat} : ∀ (n i : Nat) (many : Int32) (xe sg : Nat → Int32), i + n = 101 → i ≤ 100 → many = nI (M + zc1 w i) → (∀ k, i ≤ k → k < 100 → zsr mx xe sg (w k) k) → (∀ k, k < i → zsr mx xe sg (if w k = 0 then 0 else w k - 1) k) → (LX5_night_t n i many xe sg).1 = nI (M + zc1 w 100) ∧ ∀ k, k < 100 → zsr mx (LX5_night_t n i many xe sg).2.1 (LX5_night_t n i many xe sg).2.2 (if w k = 0 then 0 else w k - 1) k
  | 0, i, many, xe, sg, h, h1, _, _, _ => absurd h1 (by omega)
  | n + 1, i, many, xe, sg, h, h1, h2, h3, h4 => by
    have e0 : (0 : Int32).toInt = 0 := rfl
    have e1 : (1 : Int32).toInt = 1 := rfl
    by_cases c : 100 ≤ nI i
    · rw [LX5_night_t, if_pos c]
      rw [show (100 : Int32) = nI 100 from rfl, nI_leI (by decide) (by omega)] at c
      have hi : i = 100 := by omega
      rw [hi] at h2 h4
      exact ⟨h2, h4⟩
    · have c' := c
      rw [show (100 : Int32) = nI 100 from rfl, nI_leI (by decide) (by omega)] at c'
      have hic : (nI i).toNatClampNeg = i := nI_clamp (by omega)
      have hcnt : zc1 w (i + 1) = zc1 w i + (if w i = 1 then 1 else 0) := rfl
      rcases h3 i (Nat.le_refl i) (by omega) with ⟨a1, a2⟩ | ⟨a1, a2, a3, a4⟩
      · rw [LX5_night_t, if_neg c, hic, if_pos a2]
        refine znight n (i + 1) many xe sg (by omega) (by omega) ?_ (fun k hk hk2 => h3 k (by omega) hk2) (fun k hk => ?_)
        · rw [h2, hcnt, if_neg (by omega), Nat.add_zero]
        · by_cases ck : k = i
          · rw [ck, if_pos a1]; exact Or.inl ⟨rfl, a2⟩
          · exact h4 k (by omega)
      · have hx : ¬ xe i = -1 := by rw [a3, xeqI, show (-1 : Int32).toInt = -1 from rfl]; omega
        have hs : (sg i - 1).toInt = w i - 1 := by rw [Int32.toInt_sub, e1, a2, Int.bmod_eq_of_le (by omega) (by omega)]
        rw [LX5_night_t, if_neg c, hic, if_neg hx, pk_us]
        by_cases cw : w i = 1
        · rw [if_pos (by rw [xle, hs, e0]; omega)]
          refine znight n (i + 1) _ _ _ (by omega) (by omega) ?_ (fun k hk hk2 => ?_) (fun k hk => ?_)
          · rw [h2, hcnt, if_pos cw, nI_1]; rfl
          · have hne : k ≠ i := by omega
            unfold zsr
            rw [pk_un hne, pk_un hne]
            exact h3 k (by omega) hk2
          · by_cases ck : k = i
            · rw [ck, if_neg (by omega)]
              exact Or.inl ⟨by omega, pk_us⟩
            · unfold zsr
              rw [pk_un ck, pk_un ck]
              exact h4 k (by omega)
        · rw [if_neg (by rw [xle, hs, e0]; omega)]
          refine znight n (i + 1) _ _ _ (by omega) (by omega) ?_ (fun k hk hk2 => ?_) (fun k hk => ?_)
          · rw [h2, hcnt, if_neg cw, Nat.add_zero]
          · have hne : k ≠ i := by omega
            unfold zsr
            rw [pk_un hne]
            exact h3 k (by omega) hk2
          · by_cases ck : k = i
            · rw [ck, if_neg (by omega)]
              exact Or.inr ⟨by omega, by rw [pk_us]; exact hs, a3, a4⟩
            · unfold zsr
              rw [pk_un ck]
              exact h4 k (by omega)
theorem zslp {mx ms : Nat → Int32} {m : Nat} (hm : m ≤ 9) : ∀ (n i : Nat) (many : Int32) (xe sg : Nat → Int32), i + n = 10 → i ≤ m → many = nI (zcs ms i 100) → (∀ k, k < 100 → zsr mx xe sg (zsv ms i k) k) → (LX5_sleep_t (nI m) n i many xe sg).1 = nI (zcs ms m 100) ∧ ∀ k, k < 100 → zsr mx (LX5_sleep_t (nI m) n i many xe sg).2.1 (LX5_sleep_t (nI m) n i many xe sg).2.2 (zsv ms m k) k
  | 0, i, many, xe, sg, h, h1, _, _ => absurd h1 (by omega)
  | n + 1, i, many, xe, sg, h, h1, h2, h3 => by
    by_cases c : nI m ≤ nI i
    · rw [LX5_sleep_t, if_pos c]
      rw [nI_leI (by omega) (by omega)] at c
      have hi : i = m := by omega
      rw [hi] at h2 h3
      exact ⟨h2, h3⟩
    · have c' := c
      rw [nI_leI (by omega) (by omega)] at c'
      obtain ⟨k1, k2⟩ := znight (mx := mx) (w := zsv ms i) (M := 0) 101 0 0 xe sg rfl (by omega) rfl (fun k _ hk => h3 k hk) (fun k hk => absurd hk (by omega))
      rw [LX5_sleep_t, if_neg c]
      unfold xbind2
      refine zslp hm n (i + 1) _ _ _ (by omega) (by omega) ?_ (fun k hk => ?_)
      · show many + (LX5_night_t 101 0 0 xe sg).1 = _
        rw [k1, h2, nI_add, zcc, Nat.zero_add]
      · have := k2 k hk
        have e : zsv ms (i + 1) k = if zsv ms i k = 0 then 0 else zsv ms i k - 1 := by
          unfold zsv
          split <;> split <;> split <;> omega
        rw [e]
        exact this
theorem zo_sleep {N : Nat} {pl rs po pq go wl gu iv : Int32} {ex sh ld tw le op rd ml cz wy tr ak mx ms ur uk uy xe sg : Nat → Int32} (hI : zI N pl rs ex sh ld tw le op rd ml cz po pq go wl gu iv wy tr ak mx ms ur uk uy xe sg) (nn : Int32) (ot : Nat → Int64) : ∃ (k b : Int32) (ms2 xe2 sg2 : Nat → Int32) (ot2 : Nat → Int64), FL_sleep ms nn ot = (k, ms2, ot2) ∧ FX5_sleep xe sg nn = (b, k, xe2, sg2) ∧ (k = 0 → ot2 0 = b.toInt64) ∧ zI N pl rs ex sh ld tw le op rd ml cz po pq go wl gu iv wy tr ak mx ms2 ur uk uy xe2 sg2 := by
  have hM := zI_M hI
  rcases zrg (q := nn) (m := 9) with ⟨h1, h2⟩ | ⟨h0, h1, h2⟩
  · refine ⟨1, 0, ms, xe, sg, ot, ?_, ?_, fun h => absurd h (by decide), hI⟩
    · unfold FL_sleep FX3_sleep
      rw [h1]; rfl
    · unfold FX5_sleep
      rw [h2]; rfl
  · rw [show (9 : Int32).toInt = 9 from rfl] at h0
    obtain ⟨m, g1, g2, g3⟩ := xofI (x := nn) (by omega)
    have h9 : ∀ k, k < 100 → 0 ≤ (ms k).toInt ∧ (ms k).toInt ≤ 9 := fun k hk => by
      rcases hM k hk with a | a
      · omega
      · omega
    obtain ⟨f1, f2⟩ := zfade (m := m) (by omega) h9 101 0 ms 0 rfl (by omega) rfl (fun k _ _ => rfl) (fun k hk => absurd hk (by omega))
    have hs0 : ∀ k, k < 100 → zsr mx xe sg (zsv ms 0 k) k := fun k hk => by
      unfold zsv
      rcases hM k hk with ⟨a1, a2⟩ | ⟨a1, a2, a3, a4, a5, a6⟩
      · rw [if_neg (by omega)]; exact Or.inl ⟨rfl, a2⟩
      · rw [if_pos (by omega)]; exact Or.inr ⟨by omega, by rw [a2]; omega, a3, a5⟩
    obtain ⟨s1, s2⟩ := zslp (mx := mx) (ms := ms) (m := m) (by omega) 10 0 0 xe sg rfl (Nat.zero_le _) (by rw [zcs0]; rfl) hs0
    rw [← g2] at f1 f2 s1 s2
    refine ⟨0, nI (zcs ms m 100), (LX2_fade_a nn 101 0 ms 0).1, (LX5_sleep_t nn 10 0 0 xe sg).2.1, (LX5_sleep_t nn 10 0 0 xe sg).2.2, vp_updL ot (0 : Int32).toNatClampNeg (nI (zcs ms m 100)).toInt64, ?_, ?_, fun _ => zot, hI.1, hI.2.1, hI.2.2.1, hI.2.2.2.1, ?_⟩
    · unfold FL_sleep FX3_sleep
      rw [h1, ← f1]; rfl
    · unfold FX5_sleep
      rw [h2, ← s1]; rfl
    · have hM2 : zM pl ex mx (LX2_fade_a nn 101 0 ms 0).1 (LX5_sleep_t nn 10 0 0 xe sg).2.1 (LX5_sleep_t nn 10 0 0 xe sg).2.2 := fun k hk => by
        have a := f2 k hk
        rcases s2 k hk with ⟨b1, b2⟩ | ⟨b1, b2, b3, b4⟩
        · exact Or.inl ⟨a.trans b1, b2⟩
        · right
          rcases hM k hk with ⟨a1, a2⟩ | ⟨a1, a2, a3, a4, a5, a6⟩
          · unfold zsv at b1
            rw [if_neg (by omega)] at b1
            omega
          · exact ⟨by rw [a]; exact b1, by rw [xeqI, a, b2], b3, a4, a5, a6⟩
      rcases hI.2.2.2.2 with ⟨y0, y1, y2, y3, y4⟩ | ⟨y1, y2, y3, y4, y5, y6, y7, y8⟩
      · exact Or.inl ⟨y0, y1, y2, hM2, y4⟩
      · exact Or.inr ⟨y1, y2, y3, y4, y5, y6, hM2, y8⟩
