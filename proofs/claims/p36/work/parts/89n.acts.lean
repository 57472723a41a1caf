/-! what is done, on all three sides: some nights; an errand begun -/
/-- what is remembered behind j nights, and how much is forgotten -/
def dNs (mp : Nat → Nat → Bool) (mm : Nat → Nat → Nat → Int32) : Nat → (Nat → Nat → Bool) × (Nat → Nat → Nat → Int32) × Nat
  | 0 => (mp, mm, 0)
  | j + 1 => (sNi 10 0 (sNp (dNs mp mm j).1 (dNs mp mm j).2.1) (dNs mp mm j).1, sNi 10 0 (sNm (dNs mp mm j).1 (dNs mp mm j).2.1) (dNs mp mm j).2.1, (dNs mp mm j).2.2 + sNc (dNs mp mm j).1 (dNs mp mm j).2.1 100)
section AF
variable {N : Nat} {B : Int} {pl rs : Int32} {ex sh ld tw le op rd ml cz : Nat → Int32} {po co go wl gu wk db dn iv qs : Int32} {wy tr ak mx ms ur uk uy xe sg : Nat → Int32} {n : Nat} {xn : Nat → Nat} {xr : Nat → Nat → Int32} {nr : Nat} {v : Nat → Int32} {rw : Nat → Nat → Int32} {ak' : Nat → Int32} {wl' : Nat} {wy' : Nat → Nat → Int32} {mp : Nat → Nat → Bool} {mm : Nat → Nat → Nat → Int32}
theorem sV_M (hR : rL n xn xr nr rw pl rs ex ld rd ml cz) (hn : n ≤ 10) (hM : rM mp mm xe sg) (hZ : zM pl ex mx ms xe sg) : ∀ g q, g < 10 → q < n → mp g q = true → ∃ x, mm g q 0 = nI x ∧ x < xn q := fun g q hg hq hm => by
  rcases hM g q hg (by omega) with ⟨k1, -⟩ | ⟨k1, k2, k3, -⟩
  · rw [k1] at hm; exact absurd hm (by decide)
  · rcases hZ (10 * g + q) (by omega) with ⟨-, h⟩ | ⟨-, -, h1, -, h2, h3⟩
    · exact absurd h k2
    · rw [show (10 * g + q) % 10 = q by omega] at h3
      have hx := hR.2.1 q hq
      have hz := znat h2
      refine ⟨(mx (10 * g + q)).toNatClampNeg, by rw [k3, h1]; exact (znI h2).symm, by omega⟩
theorem dSleep {K : Nat} (hK : K ≤ 9) : ∀ (m j : Nat) (xe2 sg2 : Nat → Int32), j + m = 10 → j ≤ K → rM (dNs mp mm j).1 (dNs mp mm j).2.1 xe2 sg2 → rM9 xe2 sg2 → ∃ xe3 sg3, LX5_sleep_t (nI K) m j (nI (dNs mp mm j).2.2) xe2 sg2 = (nI (dNs mp mm K).2.2, xe3, sg3) ∧ rM (dNs mp mm K).1 (dNs mp mm K).2.1 xe3 sg3 ∧ rM9 xe3 sg3 := by
  intro m
  induction m with
  | zero => intro j xe2 sg2 h1 h2; exact absurd h1 (by omega)
  | succ m ih =>
    intro j xe2 sg2 h1 h2 hM h9
    rw [LX5_sleep_t]
    by_cases c : K ≤ j
    · have ej : j = K := by omega
      subst ej
      rw [if_pos (nI_le (by omega) (by omega))]
      exact ⟨xe2, sg2, rfl, hM, h9⟩
    · rw [if_neg (nI_ge (by omega) (by omega))]
      obtain ⟨xe3, sg3, k1, k2, k3⟩ := dNight1 hM h9
      rw [k1]
      unfold xbind2
      dsimp only
      rw [nI_add]
      exact ih (j + 1) xe3 sg3 (by omega) (by omega) k2 k3
theorem a_sleep (h : rA N B pl rs ex sh ld tw le op rd ml cz po co go wl gu wk db dn iv qs wy tr ak mx ms ur uk uy xe sg n xn xr nr v rw ak' wl' wy' mp mm) {K : Nat} (hK : 1 ≤ K ∧ K ≤ 9) : ∃ ms2 xe2 sg2, FX3_sleep ms (nI K) = (0, nI (dNs mp mm K).2.2, ms2) ∧ rA N B pl rs ex sh ld tw le op rd ml cz po co go wl gu wk db dn iv qs wy tr ak mx ms2 ur uk uy xe2 sg2 n xn xr nr v rw ak' wl' wy' (dNs mp mm K).1 (dNs mp mm K).2.1 := by
  obtain ⟨m1, m2, m3, m4, m5⟩ := rA_n h
  obtain ⟨hI, hR, ⟨hs, hu, hk, hW, hM⟩, hV, hN, hQ⟩ := h
  obtain ⟨k, b, ms2, xe2, sg2, ot2, z1, z2, z3, z4⟩ := zo_sleep hI (nI K) (fun _ => 0)
  obtain ⟨xe3, sg3, h1, h2, h3⟩ := dSleep (mp := mp) (mm := mm) hK.2 10 0 xe sg rfl (Nat.zero_le _) hM (rM9_I (zI_M hI))
  have hc : FX3_checkRange (nI K) 9 = (0, ()) := lcr (by rw [nI_toInt (by omega), show (9 : Int32).toInt = 9 from rfl]; omega)
  have e5 : FX5_sleep xe sg (nI K) = (nI (dNs mp mm K).2.2, 0, xe3, sg3) := by
    unfold FX5_sleep
    rw [zin1 (by rw [nI_toInt (by omega), show (9 : Int32).toInt = 9 from rfl, show (1 : Int32).toInt = 1 from rfl]; omega)]
    unfold xbind
    dsimp only
    rw [if_neg (by decide)]
    have h1 : LX5_sleep_t (nI K) 10 0 0 xe sg = (nI (dNs mp mm K).2.2, xe3, sg3) := h1
    rw [h1]
  rw [e5] at z2
  simp only [Prod.mk.injEq] at z2
  obtain ⟨q1, q2, q3, q4⟩ := z2
  subst q3; subst q4
  have e3 : FX3_sleep ms (nI K) = (0, (FX2_fade ms (nI K)).1, (FX2_fade ms (nI K)).2) := by
    unfold FX3_sleep
    rw [hc]
    rfl
  unfold FL_sleep yc3 at z1
  rw [e3, if_pos rfl] at z1
  simp only [Prod.mk.injEq] at z1
  obtain ⟨w1, w2, w3⟩ := z1
  have w4 := z3 w1.symm
  rw [← w3, zot, ← q1] at w4
  rw [i64inj w4, w2] at e3
  exact ⟨ms2, xe3, sg3, e3, z4, hR, ⟨hs, hu, hk, hW, h2⟩, ⟨sV_M hR m4 h2 (zI_M z4), hV.2⟩, hN, hQ⟩
/-- how far it is, as the second carrier tells -/
theorem a_far (h : rA N B pl rs ex sh ld tw le op rd ml cz po co go wl gu wk db dn iv qs wy tr ak mx ms ur uk uy xe sg n xn xr nr v rw ak' wl' wy' mp mm) {a b : Nat} (ha : a < n) (hb : b < n) : ∃ x, dI pl ex ld le op a b x ∧ (x = 9999 ∨ x ≤ 9990) ∧ sFar rw nr n (nI a) (nI b) = nI x ∧ ∀ fa, (FX3_distance pl ld le op fa (nI a) (nI b)).1 = 0 ∧ (FX3_distance pl ld le op fa (nI a) (nI b)).2.1 = tD x := by
  obtain ⟨m1, m2, m3, m4, m5⟩ := rA_n h
  obtain ⟨hI, hR, -⟩ := h
  obtain ⟨F, f1, f2, -⟩ := dF hI.1 (fun _ => 0) (fun _ => 0) (g := b) (by omega)
  refine ⟨F a, ⟨F, f1, f2, rfl⟩, f2 a, dfarS hI.1 hR ha hb f1 (dF9 f2), fun fa => ?_⟩
  obtain ⟨x, fa2, l1, l2, l3⟩ := l_distance hI.1 fa (p := a) (g := b) (by omega) (by omega)
  rw [l1]
  have : x = F a := by
    obtain ⟨P, p1, p2, p3⟩ := dF hI.1 (fun _ => 0) (fun _ => 0) (g := a) (by omega)
    have e1 := dI_u hI.1 (by omega) (by omega) l2 ⟨P, p1, p2, rfl⟩
    have e2 := dI_u hI.1 (b := b) (a := a) (by omega) (by omega) ⟨F, f1, f2, rfl⟩ ⟨P, p1, p2, rfl⟩
    rw [e1, ← e2]
  rw [this]
  exact ⟨rfl, rfl⟩
end AF
