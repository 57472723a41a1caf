/-! what is done, on all three sides -/
theorem i64inj {a b : Int32} (h : a.toInt64 = b.toInt64) : a = b := by
  have h2 := congrArg Int64.toInt h
  rw [Int32.toInt_toInt64, Int32.toInt_toInt64] at h2
  exact Int32.toInt_inj.mp h2
/-- between the law's calls: the class (zI), the reference beside it, the second carrier beside the reference -/
def rA (N : Nat) (B : Int) (pl rs : Int32) (ex sh ld tw le op rd ml cz : Nat → Int32) (po co go wl gu wk db dn iv qs : Int32) (wy tr ak mx ms ur uk uy xe sg : Nat → Int32) (n : Nat) (xn : Nat → Nat) (xr : Nat → Nat → Int32) (nr : Nat) (v : Nat → Int32) (rw : Nat → Nat → Int32) (ak' : Nat → Int32) (wl' : Nat) (wy' : Nat → Nat → Int32) (mp : Nat → Nat → Bool) (mm : Nat → Nat → Nat → Int32) : Prop :=
  zI N pl rs ex sh ld tw le op rd ml cz po po go wl gu iv wy tr ak mx ms ur uk uy xe sg ∧ rL n xn xr nr rw pl rs ex ld rd ml cz ∧ rS nr v rw ak' wl' wy' mp mm po co go wl wk db dn iv qs ur uk uy xe sg ∧ sVd n xn v wl' wy' mp mm ∧ rN B 0 v ∧ rQ n nr 0 v rw wl'
theorem lcr {x m : Int32} (h : 1 ≤ x.toInt ∧ x.toInt ≤ m.toInt) : FX3_checkRange x m = (0, ()) := by
  unfold FX3_checkRange
  rw [if_neg (by rw [xltI, show (1 : Int32).toInt = 1 from rfl]; omega), if_pos (by rw [xle]; omega)]
section AC
variable {N : Nat} {B : Int} {pl rs : Int32} {ex sh ld tw le op rd ml cz : Nat → Int32} {po co go wl gu wk db dn iv qs : Int32} {wy tr ak mx ms ur uk uy xe sg : Nat → Int32} {n : Nat} {xn : Nat → Nat} {xr : Nat → Nat → Int32} {nr : Nat} {v : Nat → Int32} {rw : Nat → Nat → Int32} {ak' : Nat → Int32} {wl' : Nat} {wy' : Nat → Nat → Int32} {mp : Nat → Nat → Bool} {mm : Nat → Nat → Nat → Int32}
theorem rA_n (h : rA N B pl rs ex sh ld tw le op rd ml cz po co go wl gu wk db dn iv qs wy tr ak mx ms ur uk uy xe sg n xn xr nr v rw ak' wl' wy' mp mm) : (n : Int) = pl.toInt ∧ pl = nI n ∧ 1 ≤ n ∧ n ≤ 10 ∧ nr ≤ 20 := by
  obtain ⟨hI, hR, -, -, -, a, -, a2, -⟩ := h
  have hn := rL_n hI.1 hR
  have h1 := hR.1
  exact ⟨h1, by rw [xeqI, nI_toInt (by omega)]; exact h1.symm, by omega, hn.1, hn.2.1⟩
theorem a_pay (h : rA N B pl rs ex sh ld tw le op rd ml cz po co go wl gu wk db dn iv qs wy tr ak mx ms ur uk uy xe sg n xn xr nr v rw ak' wl' wy' mp mm) {x : Int32} (hx : 1 ≤ x.toInt ∧ x.toInt ≤ 99) : FX3_pay co x = (0, sMin 99 (v 5 + x), sMin 99 (v 5 + x)) ∧ rA N B pl rs ex sh ld tw le op rd ml cz po (sMin 99 (v 5 + x)) go wl gu wk db dn iv qs wy tr ak mx ms ur uk uy xe sg n xn xr nr (upd v 5 (sMin 99 (v 5 + x))) rw ak' wl' wy' mp mm := by
  obtain ⟨hI, hR, ⟨⟨s4, s5, s6, s9, s10, s11, s12, s13⟩, hS⟩, hV, ⟨⟨n1, n2⟩, n3⟩, hQ⟩ := h
  have h99 : (99 : Int32).toInt = 99 := rfl
  have hs : (co + x).toInt = co.toInt + x.toInt := by rw [s5] at n1 n2; exact zadd (by omega)
  have hr : FX3_checkRange x 99 = (0, ()) := lcr (by omega)
  refine ⟨?_, hI, hR, ⟨⟨s4, rfl, s6, s9, s10, s11, s12, s13⟩, hS⟩, hV, ⟨?_, n3⟩, hQ⟩
  · unfold FX3_pay
    rw [hr, s5]
    rfl
  · show 0 ≤ (sMin 99 (v 5 + x)).toInt ∧ (sMin 99 (v 5 + x)).toInt ≤ 99
    rw [s5] at n1 n2 ⊢
    unfold sMin
    by_cases c : co + x < 99
    · rw [if_pos c, hs]
      rw [xltI, hs, h99] at c
      omega
    · rw [if_neg c, h99]; omega
theorem a_shep (h : rA N B pl rs ex sh ld tw le op rd ml cz po co go wl gu wk db dn iv qs wy tr ak mx ms ur uk uy xe sg n xn xr nr v rw ak' wl' wy' mp mm) {p : Nat} (hp : p < n) : ∃ b sh2, FX3_turnShepherd pl sh (nI p) = (0, b, sh2) ∧ b = (if sh p = 0 then 1 else 0) ∧ sh2 = upd sh p b ∧ rA N B pl rs ex sh2 ld tw le op rd ml cz po co go wl gu wk db dn iv qs wy tr ak mx ms ur uk uy xe sg n xn xr nr v rw ak' wl' wy' mp mm := by
  have hn := rA_n h
  obtain ⟨hI, hrest⟩ := h
  have hc : (nI p).toNatClampNeg = p := nI_clamp (by omega)
  refine ⟨if sh p = 0 then 1 else 0, upd sh p (if sh p = 0 then 1 else 0), ?_, rfl, rfl, ⟨hI.1, fun k hk => ?_, hI.2.2⟩, hrest⟩
  · unfold FX3_turnShepherd
    rw [lpc hI.1 (by omega), hc]
    by_cases c : sh p = 0
    · show (if sh p = 0 then _ else _) = _
      rw [if_pos c, if_pos c, dup_s]
    · show (if sh p = 0 then _ else _) = _
      rw [if_neg c, if_neg c, dup_s]
  · by_cases c : k = p
    · subst c
      rw [dup_s]
      by_cases d : sh k = 0
      · rw [if_pos d]; exact Or.inr rfl
      · rw [if_neg d]; exact Or.inl rfl
    · rw [dup_n c]; exact hI.2.1 k hk
end AC
