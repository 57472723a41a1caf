/-! what is done, on all three sides: places, roads, the end of an errand, nights -/
section AD
variable {N : Nat} {B : Int} {pl rs : Int32} {ex sh ld tw le op rd ml cz : Nat → Int32} {po co go wl gu wk db dn iv qs : Int32} {wy tr ak mx ms ur uk uy xe sg : Nat → Int32} {n : Nat} {xn : Nat → Nat} {xr : Nat → Nat → Int32} {nr : Nat} {v : Nat → Int32} {rw : Nat → Nat → Int32} {ak' : Nat → Int32} {wl' : Nat} {wy' : Nat → Nat → Int32} {mp : Nat → Nat → Bool} {mm : Nat → Nat → Nat → Int32}
theorem a_place (h : rA N B pl rs ex sh ld tw le op rd ml cz po co go wl gu wk db dn iv qs wy tr ak mx ms ur uk uy xe sg n xn xr nr v rw ak' wl' wy' mp mm) (hn : n < 10) : FX3_addPlace pl = (0, nI n, nI (n + 1)) ∧ ¬ v 4 < 0 ∧ rA N B (nI (n + 1)) rs ex sh ld tw le op rd ml cz po co go wl gu wk db dn iv qs wy tr ak mx ms ur uk uy xe sg (n + 1) (va_up xn n 0) xr nr v rw ak' wl' wy' mp mm := by
  obtain ⟨m1, m2, m3, m4, m5⟩ := rA_n h
  obtain ⟨hI, hR, hS, ⟨hV1, hV2, hV3⟩, hN, a, a1, a2, a3⟩ := h
  have e1 : pl + 1 = nI (n + 1) := by rw [m2, nI_1]
  have hz := zo_addPlace hI (fun _ => 0)
  obtain ⟨k, b, pl2, pq2, ot2, z1, z2, z3, z4⟩ := hz
  have e5 : FX5_addPlace pl po = ((pl + 1) - 1, 0, pl + 1, po) := by
    unfold FX5_addPlace
    rw [if_neg (fun h => by rw [h, show (10 : Int32).toInt = 10 from rfl] at m1; omega), if_neg (fun h => by rw [h, show (0 : Int32).toInt = 0 from rfl] at m1; omega)]
  rw [e5] at z2
  obtain ⟨q1, q2, q3, q4⟩ : (pl + 1) - 1 = b ∧ (0 : Int32) = k ∧ pl + 1 = pl2 ∧ po = pq2 := by
    simp only [Prod.mk.injEq] at z2
    exact z2
  have hR2 := rL_place hI.1 hR hn
  rw [← q3, ← q4, e1] at z4
  rw [e1] at hR2
  refine ⟨?_, fun h => ?_, z4, hR2, hS, ⟨fun g q hg hq hm => ?_, hV2, fun k hk => ?_⟩, hN, a, a1, by omega, ?_⟩
  · unfold FX3_addPlace
    rw [if_pos (by rw [xltI, show (10 : Int32).toInt = 10 from rfl]; omega), e1, nI_pred]
  · rw [a1, xltI, nI_toInt (by omega), show (0 : Int32).toInt = 0 from rfl] at h
    omega
  · by_cases c : q = n
    · -- nothing is remembered at a new place
      exfalso
      subst c
      rcases hS.2.2.2.2 g q hg (by omega) with ⟨k1, -⟩ | ⟨-, k2, -⟩
      · rw [k1] at hm; exact absurd hm (by decide)
      · rcases zI_M hI (10 * g + q) (by omega) with ⟨-, k3⟩ | ⟨-, -, -, k3, -⟩
        · exact k2 k3
        · rw [show (10 * g + q) % 10 = q by omega] at k3
          omega
    · rw [va_up_ne _ _ c]
      exact hV1 g q hg (by omega) hm
  · obtain ⟨q, x, w1, w2, w3, w4⟩ := hV3 k hk
    exact ⟨q, x, w1, by omega, w3, by rw [va_up_ne _ _ (by omega)]; exact w4⟩
  · rcases a3 with h | ⟨b, b1, b2, b3⟩
    · exact Or.inl h
    · exact Or.inr ⟨b, b1, by omega, b3⟩
/-- an errand is given up -/
theorem a_giveUp (h : rA N B pl rs ex sh ld tw le op rd ml cz po co go wl gu wk db dn iv qs wy tr ak mx ms ur uk uy xe sg n xn xr nr v rw ak' wl' wy' mp mm) (h6 : ¬ go = -1) : FX3_giveUp go wl = (0, nI wl', -1, 0) ∧ ∃ ur2 uk2, rA N B pl rs ex sh ld tw le op rd ml cz po co (-1) 0 gu wk db dn iv qs wy tr ak mx ms ur2 uk2 uy xe sg n xn xr nr (upd v 6 (-1)) (sOv rw nr) (fun _ => 0) 0 wy' mp mm := by
  obtain ⟨m1, m2, m3, m4, m5⟩ := rA_n h
  obtain ⟨hI, hR, ⟨⟨s4, s5, s6, s9, s10, s11, s12, s13⟩, hu, hk, hW, hM⟩, ⟨hV1, hV2, hV3⟩, hN, a, a1, a2, a3⟩ := h
  obtain ⟨k, b, go2, wl2, ur2, uk2, ot2, z1, z2, z3, z4⟩ := zo_giveUp hI (fun _ => 0)
  obtain ⟨y2, y5, h1, h2, h3⟩ := rS_end (rw := rw) (ur := ur) (uk := uk) m5
  have e5 : FX5_giveUp go wl ur uk = (wl, 0, -1, 0, y2, y5) := by
    unfold FX5_giveUp
    rw [if_neg h6, h1]
    rfl
  rw [e5] at z2
  simp only [Prod.mk.injEq] at z2
  obtain ⟨q1, q2, q3, q4, q5, q6⟩ := z2
  subst q3; subst q4; subst q5; subst q6
  have ewl : wl = nI wl' := by rw [xeqI, nI_toInt (by omega), ← hW.1]
  refine ⟨?_, y2, y5, z4, rL_tr hR rK_ov, ⟨⟨s4, s5, rfl, s9, s10, s11, s12, s13⟩, h2, h3, ⟨rfl, fun k hk => absurd hk (by omega)⟩, hM⟩, ⟨hV1, Nat.zero_le _, fun k hk => absurd hk (by omega)⟩, hN, a, a1, a2, Or.inl rfl⟩
  unfold FX3_giveUp FX3_checkUnderway
  rw [zun2 h6, ← ewl]
  rfl
end AD
