/-! what can't be done -/
section AJ
variable {N : Nat} {B : Int} {pl rs : Int32} {ex sh ld tw le op rd ml cz : Nat → Int32} {po co go wl gu wk db dn iv qs : Int32} {wy tr ak mx ms ur uk uy xe sg : Nat → Int32} {n : Nat} {xn : Nat → Nat} {xr : Nat → Nat → Int32} {nr : Nat} {v : Nat → Int32} {rw : Nat → Nat → Int32} {ak' : Nat → Int32} {wl' : Nat} {wy' : Nat → Nat → Int32} {mp : Nat → Nat → Bool} {mm : Nat → Nat → Nat → Int32}
theorem t_place (h : rA N B pl rs ex sh ld tw le op rd ml cz po co go wl gu wk db dn iv qs wy tr ak mx ms ur uk uy xe sg n xn xr nr v rw ak' wl' wy' mp mm) (hn : ¬ n < 10) : FX3_addPlace pl = (3, 0, pl) := by
  obtain ⟨m1, m2, m3, m4, m5⟩ := rA_n h
  unfold FX3_addPlace
  rw [if_neg (by rw [xltI, show (10 : Int32).toInt = 10 from rfl]; omega)]
theorem t_giveUp : FX3_giveUp (-1) wl = (3, 0, -1, wl) := by
  unfold FX3_giveUp FX3_checkUnderway
  rw [zun1 rfl]
  rfl
theorem t_goOn {fa : Nat → Int32} {K : Nat} (hK : 1 ≤ K ∧ K ≤ 100) : FX3_goOn po co (-1) wl gu wk db dn iv qs wy tr ak mx ms pl ex sh ld tw le op fa (nI K) = (3, 0, po, co, -1, wl, wk, db, dn, iv, qs, wy, tr, ak, mx, ms, fa) := by
  unfold FX3_goOn FX3_checkUnderway
  rw [lcr (by rw [nI_toInt (by omega), show (100 : Int32).toInt = 100 from rfl]; omega), zun1 rfl]
  rfl
theorem t_begin (h : rA N B pl rs ex sh ld tw le op rd ml cz po co go wl gu wk db dn iv qs wy tr ak mx ms ur uk uy xe sg n xn xr nr v rw ak' wl' wy' mp mm) (hgo : ¬ go = -1) {g : Nat} (hg : g < n) {fa : Nat → Int32} : FX3_beginErrand po go wl dn tr ak pl ld le op fa (nI g) = (3, 0, go, wl, dn, tr, ak, fa) := by
  obtain ⟨m1, m2, m3, m4, m5⟩ := rA_n h
  unfold FX3_beginErrand FX3_checkIdle
  rw [lpc h.1.1 (by omega), zun2 hgo]
  rfl
theorem t_road (h : rA N B pl rs ex sh ld tw le op rd ml cz po co go wl gu wk db dn iv qs wy tr ak mx ms ur uk uy xe sg n xn xr nr v rw ak' wl' wy' mp mm) {a b : Nat} (ha : a < n) (hb : b < n) (hab : a ≠ b) (hx : xn a = 4 ∨ xn b = 4) {mil : Int32} (hm : 1 ≤ mil.toInt ∧ mil.toInt ≤ 9) : FX3_addRoad pl ex ld tw le op (nI a) (nI b) mil = (3, 0, ex, ld, tw, le, op) := by
  obtain ⟨m1, m2, m3, m4, m5⟩ := rA_n h
  obtain ⟨hI, hR, -⟩ := h
  have room : ∀ p, p < n → FX1_hasRoom pl ex (nI p) = if xn p = 4 then 0 else 1 := fun p hp => by
    have e := hR.2.1 p hp
    have h4 := (rL_n hI.1 hR).2.2 p hp
    have hz := zpl (pl := pl) (q := nI p) (by rw [nI_toInt (by omega)]; omega)
    unfold FX1_hasRoom xbind
    rw [hz]
    dsimp only
    rw [if_neg (show ¬ (1 : Int32) = 0 by decide), nI_clamp (by omega)]
    by_cases c : xn p = 4
    · rw [if_pos c, if_pos (by rw [xle, show (4 : Int32).toInt = 4 from rfl]; omega)]
    · rw [if_neg c, if_neg (by rw [xle, show (4 : Int32).toInt = 4 from rfl]; omega)]
  have hne : ¬ (nI a : Int32) = nI b := fun h => hab (nI_inj (by omega) (by omega) h)
  unfold FX3_addRoad
  rw [lpc hI.1 (by omega), lpc hI.1 (by omega), lcr (by rw [show (9 : Int32).toInt = 9 from rfl]; omega), if_neg hne, room a ha, room b hb]
  unfold xbt1 xbind
  dsimp only
  rw [if_pos rfl, if_pos rfl, if_pos rfl]
  by_cases c : xn a = 4
  · rw [if_pos c, if_pos rfl]
  · rw [if_neg c, if_neg (by decide), if_pos (hx.resolve_left c), if_pos rfl]
end AJ
/-- the first place: there is none yet -/
theorem a_first {N : Nat} {B : Int} {rs : Int32} {ex sh ld tw le op rd ml cz : Nat → Int32} {gu iv : Int32} {wy tr ak mx ms ur uk uy xe sg : Nat → Int32} {xn : Nat → Nat} {xr : Nat → Nat → Int32} {rw : Nat → Nat → Int32} {wy' : Nat → Nat → Int32} {mm : Nat → Nat → Nat → Int32} (hI : zI N 0 rs ex sh ld tw le op rd ml cz 0 (-1) (-1) 0 gu iv wy tr ak mx ms ur uk uy xe sg) (hrs : rs = 0) (hiv : iv = 0) (hB : 0 ≤ B) (hk : ∀ p, p < 10 → uk p = 0) (hx : ∀ k, k < 100 → xe k = -1) : FX3_addPlace 0 = (0, nI 0, nI 1) ∧ rA N B (nI 1) rs ex sh ld tw le op rd ml cz 0 0 (-1) 0 gu 0 0 0 iv 0 wy tr ak mx ms ur uk uy xe sg 1 (va_up xn 0 0) xr 0 (upd sv0 4 0) rw (fun _ => 0) 0 wy' (fun _ _ => false) mm := by
  obtain ⟨k, b, pl2, pq2, ot2, z1, z2, z3, z4⟩ := zo_addPlace hI (fun _ => 0)
  have e5 : FX5_addPlace 0 (-1) = (0, 0, 1, 0) := by decide
  rw [e5] at z2
  simp only [Prod.mk.injEq] at z2
  obtain ⟨q1, q2, q3, q4⟩ := z2
  rw [← q3, ← q4] at z4
  have h0 : (ex 0).toInt = 0 := hI.1.2.2.1 0 (by omega) (by decide)
  refine ⟨by decide, z4, ⟨rfl, fun p hp => ?_, fun p x hp hx => ?_, by rw [hrs]; rfl, fun k hk => absurd hk (by omega)⟩, ⟨⟨rfl, rfl, rfl, rfl, rfl, rfl, hiv.symm, rfl⟩, fun k hk => absurd hk (by omega), fun p hp => (hk p hp).symm, ⟨rfl, fun k hk => absurd hk (by omega)⟩, fun g q hg hq => Or.inl ⟨rfl, hx _ (by omega)⟩⟩, ⟨fun g q _ _ h => absurd h (show ¬ false = true by decide), Nat.zero_le _, fun k hk => absurd hk (by omega)⟩, ⟨⟨by decide, by decide⟩, by decide, by decide, ?_⟩, 0, rfl, by omega, Or.inl rfl⟩
  · rw [show p = 0 by omega, va_up_self, h0]; rfl
  · rw [show p = 0 by omega, va_up_self] at hx; exact absurd hx (by omega)
  · show (0 : Int32).toInt ≤ _
    rw [show (0 : Int32).toInt = 0 from rfl]; omega
