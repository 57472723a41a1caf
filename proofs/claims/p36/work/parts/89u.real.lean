/-! an errand of the second carrier's own: it ends as a trial does -/
section AM
variable {n : Nat} {xn : Nat → Nat} {xr : Nat → Nat → Int32} {nr : Nat} {pl rs : Int32} {ex ld tw le op rd ml cz sh sh2 : Nat → Int32}
def rJ (n : Nat) (xn : Nat → Nat) (xr : Nat → Nat → Int32) (nr : Nat) (pl rs : Int32) (ex ld le op rd ml cz sh sh2 : Nat → Int32) (B : Int) (L0 : rLoop) (Z : sS) (F : Nat → Nat) (fr g : Nat) (wk0 db0 : Int) (dn0 iv0 : Int32) (K : Prop) (M S : Nat) (mp0 : Nat → Nat → Bool) (mm0 : Nat → Nat → Nat → Int32) (i : Nat) (v : Nat → Int32) (rw : Nat → Nat → Int32) (ak : Nat → Int32) (wl : Nat) (wy : Nat → Nat → Int32) (mp : Nat → Nat → Bool) (mm : Nat → Nat → Nat → Int32) : Prop :=
  rG n xn xr nr pl rs ex ld rd ml cz sh2 B L0 i v rw ak wl wy mp mm ∧ ((rX nr (zeo pl ex op) (zq ld) (zq le) (zr rd) F fr g wk0 db0 dn0 iv0 K M S mp0 mm0 i v rw wl wy mp mm ∧ ∃ k, sEnds n xn xr nr sh Z k (v, rw, ak, wl, wy, mp, mm)) ∨ ((v, rw, ak, wl, wy, mp, mm) = Z ∧ v 6 < 0))
theorem sEnds_0 {Z S : sS} {k : Nat} (h : sEnds n xn xr nr sh Z k S) (h6 : S.1 6 < 0) : S = Z := by
  cases k with
  | zero => exact h.1
  | succ k => exact absurd h6 h.1
theorem rJ_step (hL : zL pl rs ex ld tw le op rd ml cz) {B : Int} (hB : 0 ≤ B ∧ B ≤ 1000000) {L0 : rLoop} {Z : sS} (hsh : ∀ p, p < n → (sh p = 0 ↔ sh2 p = 0)) {F : Nat → Nat} {fr g : Nat} (hF : eD (zeo pl ex op) (zq ld) (zq le) g F) (hg : g < n) {wk0 db0 : Int} (hwk0 : 0 ≤ wk0 ∧ wk0 ≤ 1000000) (hdb0 : 0 ≤ db0 ∧ db0 ≤ 1000000) {dn0 iv0 : Int32} {K : Prop} {M S : Nat} {mp0 : Nat → Nat → Bool} {mm0 : Nat → Nat → Nat → Int32}
    (i : Nat) (v : Nat → Int32) (rw : Nat → Nat → Int32) (ak : Nat → Int32) (wl : Nat) (wy : Nat → Nat → Int32) (mp : Nat → Nat → Bool) (mm : Nat → Nat → Nat → Int32) (hJ : rJ n xn xr nr pl rs ex ld le op rd ml cz sh sh2 B L0 Z F fr g wk0 db0 dn0 iv0 K M S mp0 mm0 i v rw ak wl wy mp mm) (h6 : ¬ v 6 < 0) :
    ∃ q g', sX n xn xr nr rw ∧ sVd n xn v wl wy mp mm ∧ v 4 = nI q ∧ q < n ∧ v 6 = nI g' ∧ g' < n ∧ ∀ b v2 rw2 ak2 wl2 wy2 mp2 mm2, sStR v n xn xr nr rw sh ak wl wy mp mm q g' b v2 rw2 ak2 wl2 wy2 mp2 mm2 → (¬ b = 0 → rJ n xn xr nr pl rs ex ld le op rd ml cz sh sh2 B L0 Z F fr g wk0 db0 dn0 iv0 K M S mp0 mm0 (i + 1) v2 rw2 ak2 wl2 wy2 mp2 mm2) ∧ (b = 0 → rE n xn xr nr pl rs ex ld rd ml cz B L0 i v2 rw2 ak2 wl2 wy2 mp2 mm2 ∧ (v2, rw2, ak2, wl2, wy2, mp2, mm2) = Z) := by
  obtain ⟨hG, hX⟩ := hJ
  have hn := (rL_n hL hG.2.1).1
  rcases hX with ⟨hX, k, hE⟩ | ⟨-, h⟩
  · have hv6 : v 6 = nI g := by
      obtain ⟨-, -, -, -, ⟨-, h, -⟩, -⟩ := id hX
      exact h
    obtain ⟨q, g', a1, a2, a3, a4, -⟩ := rG_at hn hG h6
    have eg : g' = g := nI_inj (by omega) (by omega) (a3.symm.trans hv6)
    subst eg
    refine ⟨q, g', rL_sX hL hG.2.1, hG.2.2.1, a1, a2, a3, a4, fun b v2 rw2 ak2 wl2 wy2 mp2 mm2 hst => ?_⟩
    obtain ⟨-, s1, s2⟩ := rG_step hL hB hsh hG h6 a1 a2 a3 a4 hst
    obtain ⟨k', hE'⟩ := sEnds_step hn hE h6 ⟨a1, a2⟩ ⟨a3, a4⟩ hst
    rcases dX hL hG.2.1 hF hwk0 hdb0 a2 a1 hg hG.2.2.1 hX hst with ⟨b1, k2⟩ | ⟨b1, k2⟩ | ⟨b0, k2⟩
    · exact ⟨fun h => ⟨s1 h, Or.inl ⟨k2, k', hE'⟩⟩, fun h => by rw [h] at b1; exact absurd b1 (by decide)⟩
    · have h6' : v2 6 < 0 := by rw [k2.1.2.1]; decide
      exact ⟨fun h => ⟨s1 h, Or.inr ⟨sEnds_0 hE' h6', h6'⟩⟩, fun h => by rw [h] at b1; exact absurd b1 (by decide)⟩
    · have h6' : v2 6 < 0 := by rw [k2.1.2.1]; decide
      exact ⟨fun h => absurd b0 h, fun h => ⟨s2 h, sEnds_0 hE' h6'⟩⟩
  · exact absurd h h6
/-- behind a hundred steps it is at its end -/
theorem rJ_end {B : Int} {L0 : rLoop} {Z : sS} {F : Nat → Nat} {fr g : Nat} (hg : g < 10) {wk0 db0 : Int} {dn0 iv0 : Int32} {K : Prop} {M S : Nat} {mp0 : Nat → Nat → Bool} {mm0 : Nat → Nat → Nat → Int32} {i : Nat} {v : Nat → Int32} {rw : Nat → Nat → Int32} {ak : Nat → Int32} {wl : Nat} {wy : Nat → Nat → Int32} {mp : Nat → Nat → Bool} {mm : Nat → Nat → Nat → Int32} (hJ : rJ n xn xr nr pl rs ex ld le op rd ml cz sh sh2 B L0 Z F fr g wk0 db0 dn0 iv0 K M S mp0 mm0 i v rw ak wl wy mp mm) (h : 100 ≤ i ∨ v 6 < 0) : (v, rw, ak, wl, wy, mp, mm) = Z := by
  obtain ⟨hG, hX⟩ := hJ
  have hi := hG.1
  rcases hX with ⟨⟨a, W, wk, db, ⟨-, h6, -⟩, -⟩, -⟩ | ⟨h, -⟩
  · rcases h with h | h
    · omega
    · rw [h6] at h
      rw [xltI, nI_toInt (by omega), show (0 : Int32).toInt = 0 from rfl] at h
      omega
  · exact h
end AM
