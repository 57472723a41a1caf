/-! the second carrier's steps, one behind the other, beside the reference's -/
/-- what changes of it stays in range -/
theorem sL_in {n : Nat} {xn : Nat → Nat} {wy : Nat → Nat → Int32} {wl : Nat} (hw : ∀ k, k < wl → ∃ q x, wy k 0 = nI q ∧ q < n ∧ wy k 1 = nI x ∧ x < xn q) (hn : n ≤ 10) {g : Nat} {mp : Nat → Nat → Bool} {mm : Nat → Nat → Nat → Int32} (hM : ∀ g q, g < 10 → q < n → mp g q = true → ∃ x, mm g q 0 = nI x ∧ x < xn q) : ∀ k, k ≤ wl → ∀ g' q', g' < 10 → q' < n → sLp wy g mp k g' q' = true → ∃ x, sLm wy g mp mm k g' q' 0 = nI x ∧ x < xn q'
  | 0, _, g', q', h1, h2, h3 => hM g' q' h1 h2 h3
  | k + 1, hk, g', q', h1, h2, h3 => by
    obtain ⟨q, x, w1, w2, w3, w4⟩ := hw k (by omega)
    have cq : (wy k 0).toNatClampNeg = q := by rw [w1, nI_clamp (by omega)]
    rw [sLp, cq] at h3
    rw [sLm, cq]
    by_cases c : g' = g
    · subst c
      rw [va_up_self] at h3 ⊢
      by_cases d : q' = q
      · subst d
        rw [va_up_self]
        exact ⟨x, w3, w4⟩
      · rw [va_up_ne _ _ d] at h3 ⊢
        exact sL_in hw hn hM k (by omega) g' q' h1 h2 h3
    · rw [va_up_ne _ _ c] at h3 ⊢
      exact sL_in hw hn hM k (by omega) g' q' h1 h2 h3
/-- the miles and coins are in range, behind i steps -/
def rN (B : Int) (i : Nat) (v : Nat → Int32) : Prop := (0 ≤ (v 5).toInt ∧ (v 5).toInt ≤ 99) ∧ 0 ≤ (v 10).toInt ∧ (v 10).toInt ≤ (v 9).toInt ∧ (v 9).toInt ≤ B + 9 * i
/-- where it is on its errand, behind i steps -/
def rQ (n nr i : Nat) (v : Nat → Int32) (rw : Nat → Nat → Int32) (wl : Nat) : Prop := ∃ a, v 4 = nI a ∧ a < n ∧ (v 6 = -1 ∨ ∃ b, v 6 = nI b ∧ b < n ∧ a ≠ b ∧ i + 2 * (20 - eCn (tT nr rw) 20) + wl ≤ 40 ∧ wl ≤ eCn (tT nr rw) 20)
section LO
variable {n : Nat} {xn : Nat → Nat} {xr : Nat → Nat → Int32} {nr : Nat} {rw : Nat → Nat → Int32} {pl rs : Int32} {ex ld tw le op rd ml cz : Nat → Int32}
theorem dIn (hL : zL pl rs ex ld tw le op rd ml cz) (hR : rL n xn xr nr rw pl rs ex ld rd ml cz) {v v' : Nat → Int32} {rw' : Nat → Nat → Int32} {sh ak ak' : Nat → Int32} {wl wl' : Nat} {wy wy' : Nat → Nat → Int32} {mp mp' : Nat → Nat → Bool} {mm mm' : Nat → Nat → Nat → Int32} {a g i : Nat} {b : Int32} {B : Int} (hB : 0 ≤ B ∧ B ≤ 1000000) (ha : a < n) (h4 : v 4 = nI a) (hg : g < n) (h6 : v 6 = nI g)
    (hV : sVd n xn v wl wy mp mm) (hN : rN B i v) (hQ : i + 2 * (20 - eCn (tT nr rw) 20) + wl ≤ 40 ∧ wl ≤ eCn (tT nr rw) 20) (hst : sStR v n xn xr nr rw sh ak wl wy mp mm a g b v' rw' ak' wl' wy' mp' mm') :
    (b = 0 ∨ b = 1) ∧ sVd n xn v' wl' wy' mp' mm' ∧ rN B (i + 1) v' ∧ rQ n nr (i + 1) v' rw' wl' := by
  have hn := rL_n hL hR
  have hx4 := hn.2.2 a ha
  obtain ⟨hr20, hw9, -⟩ := zr_f hL
  obtain ⟨⟨n1, n2⟩, n3, n4, n5⟩ := hN
  obtain ⟨r, v1, ak1, mp1, mm1, hc, hTl⟩ := hst
  obtain ⟨j1, j2, j3, ⟨j4, j5, j6⟩⟩ := sChR_in hV (by omega) ha hc
  obtain ⟨⟨y4, y6, y9, y10, y11, y12⟩, hch, -⟩ := dch (fun h => hV.1 g a (by omega) ha h) hx4 hc
  have y5 : 0 ≤ (v1 5).toInt ∧ (v1 5).toInt ≤ 99 := by
    rcases hc with ⟨-, -, rfl, -⟩ | ⟨-, -, -, rfl, -⟩ | ⟨-, ⟨-, -, c4⟩, rfl, -⟩
    · exact ⟨n1, n2⟩
    · exact ⟨n1, n2⟩
    · rw [xltI, show (0 : Int32).toInt = 0 from rfl] at c4
      have : (v 5 - 1).toInt = (v 5).toInt - 1 := by
        rw [Int32.toInt_sub, show (1 : Int32).toInt = 1 from rfl, Int.bmod_eq_of_le (by omega) (by omega)]
      show 0 ≤ (v 5 - 1).toInt ∧ (v 5 - 1).toInt ≤ 99
      omega
  have hcn := eCn_le (tT nr rw) 20
  rcases hTl with ⟨h0, hw0, rfl, rfl, rfl, rfl, rfl, rfl, rfl, rfl⟩ | ⟨v2, rw2, wl2, wy2, hm, rfl, hd⟩
  · refine ⟨Or.inl rfl, ⟨j4, Nat.zero_le _, fun k hk => absurd hk (by omega)⟩, ⟨y5, ?_, ?_, ?_⟩, a, ?_, ha, Or.inl rfl⟩
    · show 0 ≤ (v1 10).toInt; rw [y10]; exact n3
    · show (v1 10).toInt ≤ (v1 9).toInt; rw [y10, y9]; exact n4
    · show (v1 9).toInt ≤ _; rw [y9]; omega
    · show v1 4 = _; rw [y4, h4]
  · rcases hm with ⟨x', z1, z2, rfl, rfl, rfl, rfl⟩ | ⟨h0, hw0, rfl, rfl, rfl, mi, m1, rfl⟩
    · rcases hch with ⟨r1, -⟩ | ⟨x, x1, r2, r3⟩
      · rw [r1] at z1
        exact absurd z1.symm (zm1 (by omega))
      · have exx : x' = x := nI_inj (by omega) (by omega) (by rw [← z1, r2])
        subst exx
        obtain ⟨he, ht⟩ := (dfree2 hL hR ha x1).mp r3
        obtain ⟨e1, e2, e3, e4, e5⟩ := rL_e hL hR ha x1
        obtain ⟨t1, t2, t3, t4, t5, t6⟩ := rL_to hL hR ha x1
        obtain ⟨b2, s1, s2⟩ := sTo_in (rL_sX hL hR) ha x1
        have hmi := (hL.2.2.2.2.2.2.2.2.2.1 _ e1).2.2.1
        have hk : (xr a x').toNatClampNeg = zr rd (4 * a + x') := t6.symm
        have hc2 := eCn_set (T := tT nr rw) (T2 := tT nr (va_up rw (xr a x').toNatClampNeg (upd (rw (xr a x').toNatClampNeg) 4 1))) ht (by
          unfold tT
          rw [← hk, va_up_self, dup_s, decide_eq_true t5]
          rfl) (fun k hk' => by
          unfold tT
          rw [va_up_ne _ _ (by rw [hk]; exact hk')]) 20 (hr20 _ he)
        have hc20 := eCn_le (tT nr (va_up rw (xr a x').toNatClampNeg (upd (rw (xr a x').toNatClampNeg) 4 1))) 20
        have hwv : ∀ k, k < wl + 1 → ∃ q x, sWy wy wl a x' k 0 = nI q ∧ q < n ∧ sWy wy wl a x' k 1 = nI x ∧ x < xn q := fun k hk => by
          unfold sWy
          by_cases c : k = wl
          · subst c
            rw [va_up_self]
            exact ⟨a, x', rfl, ha, rfl, x1⟩
          · rw [va_up_ne _ _ c]
            exact j6 k (by omega)
        have h9 : (v1 9 + rw (xr a x').toNatClampNeg 2).toInt = (v 9).toInt + (le (4 * a + x')).toInt := by
          rw [y9, t2, zadd (by omega)]
        have hN2 : rN B (i + 1) (upd (upd v1 4 (sTo rw xr a x')) 9 (v1 9 + rw (xr a x').toNatClampNeg 2)) := by
          refine ⟨y5, ?_, ?_, ?_⟩
          · show 0 ≤ (v1 10).toInt; rw [y10]; exact n3
          · show (v1 10).toInt ≤ (v1 9 + rw (xr a x').toNatClampNeg 2).toInt; rw [y10, h9]; omega
          · show (v1 9 + rw (xr a x').toNatClampNeg 2).toInt ≤ _; rw [h9]; omega
        rcases hd with ⟨d0, rfl, rfl, rfl, rfl, rfl, rfl, rfl⟩ | ⟨d0, rfl, rfl, rfl, rfl, rfl, rfl, rfl⟩
        · refine ⟨Or.inr rfl, ⟨j4, by omega, hwv⟩, hN2, b2, s1, s2, Or.inr ⟨g, ?_, hg, fun h => d0 ?_, by omega, by omega⟩⟩
          · show v1 6 = _; rw [y6, h6]
          · show sTo rw xr a x' = v1 6
            rw [s1, y6, h6, h]
        · exact ⟨Or.inr rfl, ⟨sL_in hwv hn.1 j4 (wl + 1) (Nat.le_refl _), Nat.zero_le _, fun k hk => absurd hk (by omega)⟩, hN2, b2, s1, s2, Or.inl rfl⟩
    · rcases hch with ⟨r1, r2⟩ | ⟨x, x1, rfl, -⟩
      · obtain ⟨q, x, q1, q2, q3, q4⟩ := j6 (wl - 1) (by omega)
        have hxq := hn.2.2 q q2
        obtain ⟨t1, t2, t3, t4, t5, t6⟩ := rL_to hL hR q2 q4
        obtain ⟨e1, e2, e3, e4, e5⟩ := rL_e hL hR q2 q4
        have hmi := (hL.2.2.2.2.2.2.2.2.2.1 _ e1).2.2.1
        rw [q1, q3, nI_clamp (by omega), nI_clamp (by omega), t2] at m1
        have hN2 : rN B (i + 1) (upd (upd (upd v1 4 (wy2 (wl - 1) 0)) 9 (v1 9 + mi)) 10 (v1 10 + mi)) := by
          have k9 : (v1 9 + mi).toInt = (v 9).toInt + mi.toInt := by rw [y9, m1, zadd (by omega)]
          have k10 : (v1 10 + mi).toInt = (v 10).toInt + mi.toInt := by rw [y10, m1, zadd (by omega)]
          rw [← m1] at hmi
          refine ⟨y5, ?_, ?_, ?_⟩
          · show 0 ≤ (v1 10 + mi).toInt; omega
          · show (v1 10 + mi).toInt ≤ (v1 9 + mi).toInt; omega
          · show (v1 9 + mi).toInt ≤ _; omega
        rcases hd with ⟨d0, d1, d2, d3, d4, d5, d6, d7⟩ | ⟨d0, d1, d2, d3, d4, d5, d6, d7⟩
        · rw [d1, d2, d4, d5, d6, d7]
          refine ⟨Or.inr rfl, ⟨j4, by omega, fun k hk => j6 k (by omega)⟩, hN2, q, q1, q2, Or.inr ⟨g, ?_, hg, fun h => d0 ?_, by omega, by omega⟩⟩
          · show v1 6 = _; rw [y6, h6]
          · show wy2 (wl - 1) 0 = v1 6
            rw [q1, y6, h6, h]
        · rw [d1, d2, d4, d5, d6, d7]
          exact ⟨Or.inr rfl, ⟨sL_in (fun k hk => j6 k (by omega)) hn.1 j4 (wl - 1) (Nat.le_refl _), Nat.zero_le _, fun k hk => absurd hk (by omega)⟩, hN2, q, q1, q2, Or.inl rfl⟩
      · exact absurd h0 (dneg (by omega))
end LO
