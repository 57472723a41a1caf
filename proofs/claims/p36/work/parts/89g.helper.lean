/-! the best shepherd -/
section HE
variable {n : Nat} {xn : Nat → Nat} {xr : Nat → Nat → Int32} {nr : Nat} {rw : Nat → Nat → Int32} {pl rs : Int32} {ex ld tw le op rd ml cz : Nat → Int32}
variable {v : Nat → Int32} {wl : Nat} {wy : Nat → Nat → Int32} {mp : Nat → Nat → Bool} {mm : Nat → Nat → Nat → Int32} {a g : Nat}
variable {po co ln wk db dn iv qs : Int32} {ur uk uy xe sg : Nat → Int32}
/-- a trial's answer hangs on no scratch -/
theorem dTell (hL : zL pl rs ex ld tw le op rd ml cz) (hR : rL n xn xr nr rw pl rs ex ld rd ml cz) {sh2 : Nat → Int32} {B : Int} (hB : 0 ≤ B ∧ B ≤ 1000000) (h4 : v 4 = nI a) (ha : a < n) (hg : g < n) (hN : rN B 0 v) (hV : sVd n xn v wl wy mp mm)
    {ak : Nat → Int32} (hS : rS nr v rw ak wl wy mp mm po co (-1) ln wk db dn iv qs ur uk uy xe sg) (hiv : 0 ≤ iv.toInt ∧ iv.toInt ≤ 1000000) (fa vtr vak vwy vxe vsg fa2 vtr2 vak2 vwy2 vxe2 vsg2 : Nat → Int32) :
    (FX5_walkTo pl ex rd ld ml cz sh2 fa po co (-1) ln wk db dn iv qs ur uk uy xe sg vtr vak vwy vxe vsg (nI g)).1 = (FX5_walkTo pl ex rd ld ml cz sh2 fa2 po co (-1) ln wk db dn iv qs ur uk uy xe sg vtr2 vak2 vwy2 vxe2 vsg2 (nI g)).1 := by
  have hn := rL_n hL hR
  have hgp : (g : Int) < pl.toInt := by have := hR.1; omega
  obtain ⟨F, f1, -⟩ := dF hL (fun _ => 0) (fun _ => 0) hgp
  have h1 := dWalk hL hR (sh := sh2) (sh2 := sh2) (fun _ _ => Iff.rfl) hB h4 ha hg hN hV f1 (K := False) (N := 0) (S := 0) (fun h => h.elim) hS hiv fa vtr vak vwy vxe vsg
  have h2 := dWalk hL hR (sh := sh2) (sh2 := sh2) (fun _ _ => Iff.rfl) hB h4 ha hg hN hV f1 (K := False) (N := 0) (S := 0) (fun h => h.elim) hS hiv fa2 vtr2 vak2 vwy2 vxe2 vsg2
  have v12 : v 12 = iv := hS.1.2.2.2.2.2.2.1
  have hiv1 : ¬ v 12 + 1 = v 12 := fun h => by
    rw [v12, xeqI, zadd (by rw [show (1 : Int32).toInt = 1 from rfl]; omega), show (1 : Int32).toInt = 1 from rfl] at h
    omega
  rcases h1 with ⟨c, e1⟩ | ⟨c, k1, Z1, s1, e1⟩
  · rcases h2 with ⟨_, e2⟩ | ⟨c2, -⟩
    · rw [e1, e2]
    · exact absurd c c2
  · rcases h2 with ⟨c2, -⟩ | ⟨_, k2, Z2, s2, e2⟩
    · exact absurd c2 c
    · have := sEnds_det hn.1 _ _ _ s1 s2
      subst this
      rcases e1 with ⟨x1, e1⟩ | ⟨x1, e1⟩
      · rcases e2 with ⟨x2, e2⟩ | ⟨x2, e2⟩
        · rw [e1, e2]
        · exact absurd (x2.1.2.2.2.symm.trans x1.1.2.2.2) hiv1
      · rcases e2 with ⟨x2, e2⟩ | ⟨x2, e2⟩
        · exact absurd (x1.1.2.2.2.symm.trans x2.1.2.2.2) hiv1
        · rw [e1, e2]
theorem dHelp_t {pl : Int32} {ex rd ld ml cz sh : Nat → Int32} {po co go ln wk db dn iv qs : Int32} {ur uk uy xe sg : Nat → Int32} {gg : Int32} {n : Nat} (hpl : (n : Int) = pl.toInt) (hn : n ≤ 10) {tl : Nat → Int32} (hT : ∀ p, p < n → ∀ fa vtr vak vwy vxe vsg : Nat → Int32, (FX5_walkTo pl ex rd ld ml cz (upd sh p 1) fa po co go ln wk db dn iv qs ur uk uy xe sg vtr vak vwy vxe vsg gg).1 = tl p) {lst0 : Int32} : ∀ (m i : Nat) (bt lst vpo vco vgo vln vwk vdb vdn viv vqs : Int32) (vtr vak vwy vxe vsg fa : Nat → Int32), i + m = 11 → i ≤ n → ((bt = -1 ∧ lst = lst0) ∨ ∃ p, p < n ∧ bt = nI p ∧ sh p = 0 ∧ lst = tl p ∧ ¬ tl p = -1 ∧ tl p < lst0) →
    ((LX5_helper_t pl ex rd ld ml cz po co go ln wk db dn iv qs ur uk uy xe sg gg m i bt lst vpo vco vgo vln vwk vdb vdn viv vqs vtr vak vwy vxe vsg fa sh).1 = -1 ∨ ∃ p, p < n ∧ (LX5_helper_t pl ex rd ld ml cz po co go ln wk db dn iv qs ur uk uy xe sg gg m i bt lst vpo vco vgo vln vwk vdb vdn viv vqs vtr vak vwy vxe vsg fa sh).1 = nI p ∧ sh p = 0 ∧ ¬ tl p = -1 ∧ tl p < lst0) := by
  intro m
  induction m with
  | zero => intro i bt lst vpo vco vgo vln vwk vdb vdn viv vqs vtr vak vwy vxe vsg fa h1 h2; exact absurd h1 (by omega)
  | succ m ih =>
    intro i bt lst vpo vco vgo vln vwk vdb vdn viv vqs vtr vak vwy vxe vsg fa h1 h2 hP
    have hle : pl ≤ nI i ↔ n ≤ i := by rw [xle, nI_toInt (by omega), ← hpl]; omega
    rw [LX5_helper_t]
    by_cases c : n ≤ i
    · rw [if_pos (hle.mpr c)]
      rcases hP with ⟨a, b⟩ | ⟨p, a, b, d, e, f⟩
      · exact Or.inl a
      · exact Or.inr ⟨p, a, b, d, f⟩
    · rw [if_neg (fun h => c (hle.mp h)), nI_clamp (by omega)]
      by_cases s : sh i = 0
      · rw [if_pos s]
        have ht := hT i (by omega) fa vtr vak vwy vxe vsg
        generalize FX5_walkTo pl ex rd ld ml cz (upd sh i 1) fa po co go ln wk db dn iv qs ur uk uy xe sg vtr vak vwy vxe vsg gg = W at ht ⊢
        unfold xbind2
        rw [zuu s]
        dsimp only
        by_cases k1 : W.1 = -1
        · rw [if_pos k1]
          exact ih (i + 1) _ _ _ _ _ _ _ _ _ _ _ _ _ _ _ _ _ (by omega) (by omega) hP
        · rw [if_neg k1]
          by_cases k2 : W.1 < lst
          · rw [if_pos k2]
            refine ih (i + 1) _ _ _ _ _ _ _ _ _ _ _ _ _ _ _ _ _ (by omega) (by omega) (Or.inr ⟨i, by omega, rfl, s, ht, by rw [← ht]; exact k1, ?_⟩)
            rw [ht] at k2
            rcases hP with ⟨a, b⟩ | ⟨p, a, b, d, e, f1, f2⟩
            · rw [← b]; exact k2
            · rw [e] at k2; exact Int32.lt_trans k2 f2
          · rw [if_neg k2]
            exact ih (i + 1) _ _ _ _ _ _ _ _ _ _ _ _ _ _ _ _ _ (by omega) (by omega) hP
      · rw [if_neg s]
        exact ih (i + 1) _ _ _ _ _ _ _ _ _ _ _ _ _ _ _ _ _ (by omega) (by omega) hP
/-- a shepherd who helps is where none is, and makes it shorter -/
theorem dHelp {pl : Int32} {ex rd ld ml cz sh : Nat → Int32} {po co go ln wk db dn iv qs : Int32} {ur uk uy xe sg : Nat → Int32} {gg : Int32} {n : Nat} (hpl : (n : Int) = pl.toInt) (hn : n ≤ 10) {tl : Nat → Int32} {t0 : Int32} (hT : ∀ p, p < n → ∀ fa vtr vak vwy vxe vsg : Nat → Int32, (FX5_walkTo pl ex rd ld ml cz (upd sh p 1) fa po co go ln wk db dn iv qs ur uk uy xe sg vtr vak vwy vxe vsg gg).1 = tl p) (h0 : ∀ fa vtr vak vwy vxe vsg : Nat → Int32, (FX5_walkTo pl ex rd ld ml cz sh fa po co go ln wk db dn iv qs ur uk uy xe sg vtr vak vwy vxe vsg gg).1 = t0) (fa vtr vak vwy vxe vsg : Nat → Int32) :
    ((FX5_helper pl ex rd ld ml cz sh fa po co go ln wk db dn iv qs ur uk uy xe sg vtr vak vwy vxe vsg gg).1 = -1 ∨ ∃ p, p < n ∧ (FX5_helper pl ex rd ld ml cz sh fa po co go ln wk db dn iv qs ur uk uy xe sg vtr vak vwy vxe vsg gg).1 = nI p ∧ sh p = 0 ∧ ¬ tl p = -1 ∧ (t0 = -1 ∨ tl p < t0)) := by
  unfold FX5_helper
  have ht := h0 fa vtr vak vwy vxe vsg
  generalize FX5_walkTo pl ex rd ld ml cz sh fa po co go ln wk db dn iv qs ur uk uy xe sg vtr vak vwy vxe vsg gg = W at ht ⊢
  unfold xbind2 xbind
  dsimp only
  by_cases k1 : W.1 = -1
  · rw [if_pos k1]
    rcases dHelp_t (lst0 := 9999) hpl hn hT 11 0 (-1) 9999 W.2.1 W.2.2.1 W.2.2.2.1 W.2.2.2.2.1 W.2.2.2.2.2.1 W.2.2.2.2.2.2.1 W.2.2.2.2.2.2.2.1 W.2.2.2.2.2.2.2.2.1 W.2.2.2.2.2.2.2.2.2.1 W.2.2.2.2.2.2.2.2.2.2.1 W.2.2.2.2.2.2.2.2.2.2.2.1 W.2.2.2.2.2.2.2.2.2.2.2.2.1 W.2.2.2.2.2.2.2.2.2.2.2.2.2.1 W.2.2.2.2.2.2.2.2.2.2.2.2.2.2.1 W.2.2.2.2.2.2.2.2.2.2.2.2.2.2.2 rfl (Nat.zero_le _) (Or.inl ⟨rfl, rfl⟩) with h | ⟨p, p1, p2, p3, p4, p5⟩
    · exact Or.inl h
    · exact Or.inr ⟨p, p1, p2, p3, p4, Or.inl (ht.symm.trans k1)⟩
  · rw [if_neg k1]
    rcases dHelp_t (lst0 := W.1) hpl hn hT 11 0 (-1) W.1 W.2.1 W.2.2.1 W.2.2.2.1 W.2.2.2.2.1 W.2.2.2.2.2.1 W.2.2.2.2.2.2.1 W.2.2.2.2.2.2.2.1 W.2.2.2.2.2.2.2.2.1 W.2.2.2.2.2.2.2.2.2.1 W.2.2.2.2.2.2.2.2.2.2.1 W.2.2.2.2.2.2.2.2.2.2.2.1 W.2.2.2.2.2.2.2.2.2.2.2.2.1 W.2.2.2.2.2.2.2.2.2.2.2.2.2.1 W.2.2.2.2.2.2.2.2.2.2.2.2.2.2.1 W.2.2.2.2.2.2.2.2.2.2.2.2.2.2.2 rfl (Nat.zero_le _) (Or.inl ⟨rfl, rfl⟩) with h | ⟨p, p1, p2, p3, p4, p5⟩
    · exact Or.inl h
    · exact Or.inr ⟨p, p1, p2, p3, p4, Or.inr (by rw [← ht]; exact p5)⟩
end HE
