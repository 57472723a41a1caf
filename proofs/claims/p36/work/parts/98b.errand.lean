/-! the law's errand: what is told of it, and how it goes -/
theorem eRs9 {E : Nat → Bool} {q w : Nat → Nat} {has : Nat → Bool} {me : Nat → Nat} {g : Nat} (hw : ∀ e, E e = true → w e ≤ 9) : ∀ {n p : Nat}, eR E q has me g n p → eRs q w me n p ≤ 9 * n
  | 0, _, _ => Nat.zero_le _
  | n + 1, p, h => by
    have h1 := hw _ h.2.2.1
    have h2 := eRs9 hw h.2.2.2.2
    show w (me p) + eRs q w me n (q (me p)) ≤ _
    omega
theorem upback {r : Nat → Nat → Int32} {p : Nat} (h : r 1 p = 0) : va_up (va_up r 1 (upd (r 1) p 1)) 1 (upd (upd (r 1) p 1) p 0) = r := by
  funext k
  by_cases c : k = 1
  · subst c
    rw [va_up_self]
    funext j
    by_cases e : j = p
    · subst e; rw [pk_us, h]
    · rw [pk_un e, pk_un e]
  · rw [va_up_ne _ _ c, va_up_ne _ _ c]
/-- the errand of the second carrier's, from its start to its end -/
theorem rJ_run {n : Nat} {xn : Nat → Nat} {xr : Nat → Nat → Int32} {nr : Nat} {pl rs : Int32} {ex ld tw le op rd ml cz sh : Nat → Int32} (hL : zL pl rs ex ld tw le op rd ml cz) (hn : n ≤ 10) (hx4 : ∀ p, p < n → xn p ≤ 4) {B : Int} (hB : 0 ≤ B ∧ B ≤ 1000000) {L0 : rLoop} {Z : sS} {F : Nat → Nat} {fr g : Nat} (hF : eD (zeo pl ex op) (zq ld) (zq le) g F) (hg : g < n) {wk0 db0 : Int} (hwk0 : 0 ≤ wk0 ∧ wk0 ≤ 1000000) (hdb0 : 0 ≤ db0 ∧ db0 ≤ 1000000) {dn0 iv0 : Int32} {K : Prop} {M S : Nat} {mp0 : Nat → Nat → Bool} {mm0 : Nat → Nat → Nat → Int32} :
    ∀ (d i : Nat), i + d = 100 → ∀ (v : Nat → Int32) (rw : Nat → Nat → Int32) (ak : Nat → Int32) (wl : Nat) (wy : Nat → Nat → Int32) (mp : Nat → Nat → Bool) (mm : Nat → Nat → Nat → Int32), rJ n xn xr nr pl rs ex ld le op rd ml cz sh sh B L0 Z F fr g wk0 db0 dn0 iv0 K M S mp0 mm0 i v rw ak wl wy mp mm → ∃ j, j ≤ 100 ∧ ((rG n xn xr nr pl rs ex ld rd ml cz sh B L0 j Z.1 Z.2.1 Z.2.2.1 Z.2.2.2.1 Z.2.2.2.2.1 Z.2.2.2.2.2.1 Z.2.2.2.2.2.2 ∧ (100 ≤ j ∨ Z.1 6 < 0)) ∨ (j < 100 ∧ rE n xn xr nr pl rs ex ld rd ml cz B L0 j Z.1 Z.2.1 Z.2.2.1 Z.2.2.2.1 Z.2.2.2.2.1 Z.2.2.2.2.2.1 Z.2.2.2.2.2.2)) := by
  intro d
  induction d with
  | zero =>
    intro i hd v rw ak wl wy mp mm hJ
    have e := rJ_end (show g < 10 by omega) hJ (Or.inl (by omega))
    refine ⟨i, by omega, Or.inl ⟨?_, Or.inl (by omega)⟩⟩
    rw [← e]
    exact hJ.1
  | succ d ih =>
    intro i hd v rw ak wl wy mp mm hJ
    by_cases h6 : v 6 < 0
    · have e := rJ_end (show g < 10 by omega) hJ (Or.inr h6)
      refine ⟨i, by omega, Or.inl ⟨?_, Or.inr ?_⟩⟩
      · rw [← e]; exact hJ.1
      · rw [← e]; exact h6
    · obtain ⟨q, g', a1, a2, a3, a4, a5, a6, a7⟩ := rJ_step hL hB (fun _ _ => Iff.rfl) hF hg hwk0 hdb0 i v rw ak wl wy mp mm hJ h6
      obtain ⟨b, v2, rw2, ak2, wl2, wy2, mp2, mm2, hst⟩ := sStR_tot v n xn xr nr rw sh ak wl wy mp mm q g' a4 (by omega) (hx4 q a4) a2
      obtain ⟨s1, s2⟩ := a7 _ _ _ _ _ _ _ _ hst
      by_cases hb : b = 0
      · obtain ⟨hE, e⟩ := s2 hb
        refine ⟨i, by omega, Or.inr ⟨by omega, ?_⟩⟩
        rw [← e]
        exact hE
      · exact ih (i + 1) (by omega) v2 rw2 ak2 wl2 wy2 mp2 mm2 (s1 hb)
/-- what a trial tells, out of what is between the calls -/
def cT (z : Nat → Int32) (r q : Nat → Nat → Int32) (g : Nat) : Int32 := tW (z 0) (r 0) (q 0) (r 2) (q 1) (q 2) (r 1) (z 1) (z 2) (z 4) (z 6) (z 7) (z 8) (z 9) (z 10) (q 3) (q 4) (q 5) (q 6) (q 7) g
section LE
variable {N : Nat} {B : Int} {z : Nat → Int32} {r : Nat → Nat → Int32} {rs : Int32} {q : Nat → Nat → Int32} {n : Nat} {xn : Nat → Nat} {xr : Nat → Nat → Int32} {nr : Nat} {v : Nat → Int32} {rw : Nat → Nat → Int32} {ak : Nat → Int32} {wl : Nat} {wy : Nat → Nat → Int32} {mp : Nat → Nat → Bool} {mm : Nat → Nat → Nat → Int32}
theorem c_idle (h : cA N B z r rs q n xn xr nr v rw ak wl wy mp mm) (h3 : z 3 = -1) : rA N B (z 0) rs (r 0) (r 1) (r 2) (r 3) (r 4) (r 5) (q 0) (q 1) (q 2) (z 1) (z 2) (-1) (z 4) (z 5) (z 6) (z 7) (z 8) (z 9) (z 10) (r 6) (r 7) (r 8) (r 9) (r 10) (q 3) (q 4) (q 5) (q 6) (q 7) n xn xr nr v rw ak wl wy mp mm := by
  unfold cA at h
  rw [h3] at h
  exact h
theorem c_known (h : cA N B z r rs q n xn xr nr v rw ak wl wy mp mm) {y g M : Nat} (hyn : y < n) (hg : g < n) (hE : eR (zeo (z 0) (r 0) (r 5)) (zq (r 2)) (mp g) (dme mm g) g M y) : kN (r 0) (r 2) (r 4) (r 5) (q 6) g 10 y 0 = nI (eRs (zq (r 2)) (zq (r 4)) (dme mm g) M y) ∧ eRs (zq (r 2)) (zq (r 4)) (dme mm g) M y ≤ 90 := by
  have hn := cA_n h
  obtain ⟨z8, z9, -, -, z10⟩ := zr_f (cA_L h)
  have hM := eR_9 z10 (show y < 10 by omega) hE
  have h9 := eRs9 z9 hE
  refine ⟨?_, by omega⟩
  rcases kN_eq (cA_L h) h.2.1 h.2.2.1.2.2.2.2 (c_V h).1 hg 10 y 0 (Nat.le_refl _) hyn (by omega) with ⟨M2, k1, k2, k3⟩ | ⟨k1, -⟩
  · have e := eR_inj k2 hE
    subst e
    rw [show (0 : Int32) = nI 0 from rfl, k3, Nat.zero_add]
  · exact absurd ⟨M, by omega, hE⟩ k1
theorem c_err (h : cA N B z r rs q n xn xr nr v rw ak wl wy mp mm) (h3 : z 3 = -1) (hN : N < 1000000) (hB : 0 ≤ B ∧ B ≤ 1000000) {y g : Nat} (hy : v 4 = nI y) (hyn : y < n) (hg : g < n) :
    ∃ (d : Nat) (F : Nat → Nat) (M S : Nat), eD (zeo (z 0) (r 0) (r 5)) (zq (r 2)) (zq (r 4)) g F ∧ F y = d ∧ (d = 9999 ∨ d ≤ 9990) ∧ dI (z 0) (r 0) (r 2) (r 4) (r 5) y g d ∧
      (∀ fa, (FX3_distance (z 0) (r 2) (r 4) (r 5) fa (nI y) (nI g)).1 = 0 ∧ (FX3_distance (z 0) (r 2) (r 4) (r 5) fa (nI y) (nI g)).2.1 = tD d) ∧
      (sKn rw xr mp mm g 10 y = 1 → eR (zeo (z 0) (r 0) (r 5)) (zq (r 2)) (mp g) (dme mm g) g M y ∧ eRs (zq (r 2)) (zq (r 4)) (dme mm g) M y = S) ∧
      (sKn rw xr mp mm g 10 y = 1 → kN (r 0) (r 2) (r 4) (r 5) (q 6) g 10 y 0 = nI S) ∧
      ((y = g ∧ cT z r q g = 0 ∧ d = 0 ∧ (sKn rw xr mp mm g 10 y = 1 → S = 0)) ∨
       (y ≠ g ∧ ∃ (k : Nat) (Z : sS), sEnds n xn xr nr (r 1) Z k (rS0 nr v rw wy mp mm g) ∧
         ((rXd (zeo (z 0) (r 0) (r 5)) (zq (r 2)) F y g (v 9).toInt (v 10).toInt (v 11) (v 12) (sKn rw xr mp mm g 10 y = 1) S Z.1 Z.2.2.2.2.2.1 Z.2.2.2.2.2.2 ∧ cT z r q g = Z.1 9 - z 6 ∧ d ≤ 9990 ∧ ∃ w, cT z r q g = nI w ∧ w ≤ 360 ∧ d ≤ w ∧ (sKn rw xr mp mm g 10 y = 1 → w = S)) ∨
          (rXv F y (v 9).toInt (v 10).toInt (v 11) (v 12) Z.1 ∧ cT z r q g = -1 ∧ d = 9999 ∧ ¬ sKn rw xr mp mm g 10 y = 1)))) := by
  have hn := cA_n h
  have hv := c_v h
  have hc := c_N h
  obtain ⟨d, hd1, hd2, -, hd4⟩ := a_far h hyn hg
  obtain ⟨F, hF, hF9, hFd⟩ := id hd1
  obtain ⟨z8, z9, -, -, z10⟩ := zr_f (cA_L h)
  -- the way that is known
  obtain ⟨M, hM⟩ : ∃ M, sKn rw xr mp mm g 10 y = 1 → eR (zeo (z 0) (r 0) (r 5)) (zq (r 2)) (mp g) (dme mm g) g M y := by
    rcases (dKn (cA_L h) h.2.1 h.2.2.1.2.2.2.2 (c_V h).1 hg 10 y (Nat.le_refl _) hyn).2 with ⟨-, M, -, k⟩ | ⟨k, -⟩
    · exact ⟨M, fun _ => k⟩
    · exact ⟨0, fun k2 => absurd (k.symm.trans k2) (by decide)⟩
  refine ⟨d, F, M, eRs (zq (r 2)) (zq (r 4)) (dme mm g) M y, hF, hFd, hd2, hd1, hd4, fun k => ⟨hM k, rfl⟩, fun k => (c_known h hyn hg (hM k)).1, ?_⟩
  rcases a_tells (c_idle h h3) hN hB hy hyn hg hF (K := sKn rw xr mp mm g 10 y = 1) (M := M) (S := eRs (zq (r 2)) (zq (r 4)) (dme mm g) M y) (fun k => ⟨hM k, rfl⟩) with ⟨t1, t2⟩ | ⟨t1, k, Z, t2, t3⟩
  · refine Or.inl ⟨t1, t2, (dI_0 (cA_L h) hd1).mpr t1, fun k => ?_⟩
    have hE := hM k
    subst t1
    have e0 : eR (zeo (z 0) (r 0) (r 5)) (zq (r 2)) (mp y) (dme mm y) y 0 y := rfl
    have e := eR_inj hE e0
    rw [e]
    rfl
  · refine Or.inr ⟨t1, k, Z, t2, ?_⟩
    rcases t3 with ⟨t4, t5⟩ | ⟨t4, t5⟩
    · left
      obtain ⟨-, ⟨wk, db, w1, w2, w3, w4, w5, w6⟩, -⟩ := id t4
      refine ⟨t4, t5, by omega, wk, ?_, w5, by omega, w6⟩
      show tW _ _ _ _ _ _ _ _ _ _ _ _ _ _ _ _ _ _ _ _ _ = _
      rw [t5, ← hv.1.2.2.2.1, xeqI, Int32.toInt_sub, w1, nI_toInt (by omega), show (v 9).toInt + ↑wk - (v 9).toInt = (wk : Int) by omega]
      exact Int.bmod_eq_of_le (by omega) (by omega)
    · right
      obtain ⟨-, w1, -⟩ := id t4
      refine ⟨t4, t5, by omega, fun k => ?_⟩
      have h8 := eR_F hF (hM k)
      have h9 := (c_known h hyn hg (hM k)).2
      omega
/-- the errand itself, on both sides -/
theorem c_go (h : cA N B z r rs q n xn xr nr v rw ak wl wy mp mm) (hN : N < 1000000) (hB : 0 ≤ B ∧ B ≤ 1000000) {y g : Nat} (hy : v 4 = nI y) (hyn : y < n) (hg : g < n) (hne : y ≠ g) {Z : sS} {k : Nat} (hEn : sEnds n xn xr nr (r 1) Z k (rS0 nr v rw wy mp mm g)) {F : Nat → Nat} (hF : eD (zeo (z 0) (r 0) (r 5)) (zq (r 2)) (zq (r 4)) g F)
    {z1 : Nat → Int32} {r1 : Nat → Nat → Int32} {ur2 uk2 : Nat → Int32} (e0 : z1 0 = z 0) (e1 : ∀ k, k < 6 → r1 k = r k) (h1 : cA N B z1 r1 rs (qq (q 0) (q 1) (q 2) ur2 uk2 (q 5) (q 6) (q 7)) n xn xr nr (upd v 6 (nI g)) (sOv rw nr) (fun _ => 0) 0 wy mp mm) (h13 : ¬ z1 3 = -1) :
    ∃ (L0 : rLoop), L0 = rL0 (z1 0) (r1 0) (q 0) (r1 2) (q 1) (q 2) (r1 1) (z1 1) (z1 2) (z1 3) (z1 4) (z1 6) (z1 7) (z1 8) (z1 9) (z1 10) ur2 uk2 (q 5) (q 6) (q 7) ∧
    ∃ (j : Nat), j ≤ 100 ∧ ((rG n xn xr nr (z1 0) rs (r1 0) (r1 2) (q 0) (q 1) (q 2) (r1 1) B L0 j Z.1 Z.2.1 Z.2.2.1 Z.2.2.2.1 Z.2.2.2.2.1 Z.2.2.2.2.2.1 Z.2.2.2.2.2.2 ∧ (100 ≤ j ∨ Z.1 6 < 0)) ∨ (j < 100 ∧ rE n xn xr nr (z1 0) rs (r1 0) (r1 2) (q 0) (q 1) (q 2) B L0 j Z.1 Z.2.1 Z.2.2.1 Z.2.2.2.1 Z.2.2.2.2.1 Z.2.2.2.2.2.1 Z.2.2.2.2.2.2)) ∧
      ∃ (J E : Nat → (Nat → Int32) → (Nat → Nat → Int32) → (Nat → Int32) → Nat → (Nat → Nat → Int32) → (Nat → Nat → Bool) → (Nat → Nat → Nat → Int32) → Prop),
        (∀ i (v : Nat → Int32) (rw : Nat → Nat → Int32) (ak : Nat → Int32) (wl : Nat) (wy : Nat → Nat → Int32) (mp : Nat → Nat → Bool) (mm : Nat → Nat → Nat → Int32), J i v rw ak wl wy mp mm → ¬ v 6 < 0 → ∃ q g, sX n xn xr nr rw ∧ sVd n xn v wl wy mp mm ∧ v 4 = nI q ∧ q < n ∧ v 6 = nI g ∧ g < n ∧ ∀ b v2 rw2 ak2 wl2 wy2 mp2 mm2, sStR v n xn xr nr rw (r1 1) ak wl wy mp mm q g b v2 rw2 ak2 wl2 wy2 mp2 mm2 → (¬ b = 0 → J (i + 1) v2 rw2 ak2 wl2 wy2 mp2 mm2) ∧ (b = 0 → E i v2 rw2 ak2 wl2 wy2 mp2 mm2)) ∧
        J 0 (upd v 6 (nI g)) (sOv rw nr) (fun _ => 0) 0 wy mp mm ∧
        ∀ i v2 rw2 ak2 wl2 wy2 mp2 mm2, i ≤ 100 → ((J i v2 rw2 ak2 wl2 wy2 mp2 mm2 ∧ (100 ≤ i ∨ v2 6 < 0)) ∨ (i < 100 ∧ E i v2 rw2 ak2 wl2 wy2 mp2 mm2)) → (v2, rw2, ak2, wl2, wy2, mp2, mm2) = Z ∧ (nI i : Int32) = nI j := by
  have hn := cA_n h
  have hc := c_N h
  have hL1 := cA_L h1
  have hF1 : eD (zeo (z1 0) (r1 0) (r1 5)) (zq (r1 2)) (zq (r1 4)) g F := by rw [e0, e1 0 (by omega), e1 5 (by omega), e1 2 (by omega), e1 4 (by omega)]; exact hF
  have hwk : 0 ≤ (v 9).toInt ∧ (v 9).toInt ≤ 1000000 := by omega
  have hdb : 0 ≤ (v 10).toInt ∧ (v 10).toInt ≤ 1000000 := by omega
  have hG := a_rG h1
  refine ⟨_, rfl, ?_⟩
  generalize hL0 : rL0 (z1 0) (r1 0) (q 0) (r1 2) (q 1) (q 2) (r1 1) (z1 1) (z1 2) (z1 3) (z1 4) (z1 6) (z1 7) (z1 8) (z1 9) (z1 10) ur2 uk2 (q 5) (q 6) (q 7) = L0
  have hG : rG n xn xr nr (z1 0) rs (r1 0) (r1 2) (q 0) (q 1) (q 2) (r1 1) B L0 0 (upd v 6 (nI g)) (sOv rw nr) (fun _ => 0) 0 wy mp mm := by rw [← hL0]; exact hG
  have hX := (dStart (cA_L h) h.2.1 hy hyn hg hne (K := False) (N := 0) (S := 0) h.2.2.2.2.1 (c_V h) F (fun h => h.elim)).2.2.2.2
  have hJ : rJ n xn xr nr (z1 0) rs (r1 0) (r1 2) (r1 4) (r1 5) (q 0) (q 1) (q 2) (r1 1) (r1 1) B L0 Z F y g (v 9).toInt (v 10).toInt (v 11) (v 12) False 0 0 mp mm 0 (upd v 6 (nI g)) (sOv rw nr) (fun _ => 0) 0 wy mp mm := by
    refine ⟨hG, Or.inl ⟨?_, k, ?_⟩⟩
    · rw [e0, e1 0 (by omega), e1 5 (by omega), e1 2 (by omega), e1 4 (by omega)]; exact hX
    · rw [e1 1 (by omega)]; exact hEn
  obtain ⟨j, hj, hjE⟩ := rJ_run hL1 hn.2.2.2.1 (fun p hp => c_x4 h hp) hB hF1 hg hwk hdb 100 0 rfl _ _ _ _ _ _ _ hJ
  refine ⟨j, hj, hjE, _, fun i v2 rw2 ak2 wl2 wy2 mp2 mm2 => rE n xn xr nr (z1 0) rs (r1 0) (r1 2) (q 0) (q 1) (q 2) B L0 i v2 rw2 ak2 wl2 wy2 mp2 mm2 ∧ (v2, rw2, ak2, wl2, wy2, mp2, mm2) = Z, rJ_step hL1 hB (fun _ _ => Iff.rfl) hF1 hg hwk hdb, hJ, fun i v2 rw2 ak2 wl2 wy2 mp2 mm2 hi hend => ?_⟩
  have key : ∀ i, i ≤ 100 → ((rG n xn xr nr (z1 0) rs (r1 0) (r1 2) (q 0) (q 1) (q 2) (r1 1) B L0 i Z.1 Z.2.1 Z.2.2.1 Z.2.2.2.1 Z.2.2.2.2.1 Z.2.2.2.2.2.1 Z.2.2.2.2.2.2 ∧ (100 ≤ i ∨ Z.1 6 < 0)) ∨ (i < 100 ∧ rE n xn xr nr (z1 0) rs (r1 0) (r1 2) (q 0) (q 1) (q 2) B L0 i Z.1 Z.2.1 Z.2.2.1 Z.2.2.2.1 Z.2.2.2.2.1 Z.2.2.2.2.2.1 Z.2.2.2.2.2.2)) → (FX3_goOn (z1 1) (z1 2) (z1 3) (z1 4) (z1 5) (z1 6) (z1 7) (z1 8) (z1 9) (z1 10) (r1 6) (r1 7) (r1 8) (r1 9) (r1 10) (z1 0) (r1 0) (r1 1) (r1 2) (r1 3) (r1 4) (r1 5) (fun _ => 0) (nI 100)).2.1 = nI i := by
    intro i hi hE
    subst hL0
    obtain ⟨po3, co3, go3, wl3, wk3, db3, dn3, iv3, qs3, wy3, tr3, ak3, mx3, ms3, fa3, ur3, uk3, uy3, xe3, sg3, g1, -⟩ := a_goOn h1 h13 hN (K := 100) (by omega) hi hE (fun _ => 0)
    rw [g1]
  have hZ : (v2, rw2, ak2, wl2, wy2, mp2, mm2) = Z ∧ ((rG n xn xr nr (z1 0) rs (r1 0) (r1 2) (q 0) (q 1) (q 2) (r1 1) B L0 i v2 rw2 ak2 wl2 wy2 mp2 mm2 ∧ (100 ≤ i ∨ v2 6 < 0)) ∨ (i < 100 ∧ rE n xn xr nr (z1 0) rs (r1 0) (r1 2) (q 0) (q 1) (q 2) B L0 i v2 rw2 ak2 wl2 wy2 mp2 mm2)) := by
    rcases hend with ⟨hJ2, h8⟩ | ⟨h8, hE2, e⟩
    · exact ⟨rJ_end (show g < 10 by omega) hJ2 h8, Or.inl ⟨hJ2.1, h8⟩⟩
    · exact ⟨e, Or.inr ⟨h8, hE2⟩⟩
  obtain ⟨e, hZ2⟩ := hZ
  refine ⟨e, ?_⟩
  subst e
  exact (key i hi hZ2).symm.trans (key j hj hjE)
end LE
section LC
variable {l : Launch} {G : xG} {sz : Nat} {a : Nat → Nat} {u : cU}
variable {N : Nat} {B : Int} {z : Nat → Int32} {r : Nat → Nat → Int32} {rs : Int32} {q : Nat → Nat → Int32} {n : Nat} {xn : Nat → Nat} {xr : Nat → Nat → Int32} {nr : Nat} {v : Nat → Int32} {rw : Nat → Nat → Int32} {ak : Nat → Int32} {wl : Nat} {wy : Nat → Nat → Int32} {mp : Nat → Nat → Bool} {mm : Nat → Nat → Nat → Int32}
theorem kk_would (hst : l.stackTraces = false) (h : cA N B z r rs q n xn xr nr v rw ak wl wy mp mm) (h3 : z 3 = -1) (hN : N < 1000000) {g : Nat} (hg : g < n) : xM l yX3_wouldWalk wsX3_wouldWalk ⟨7, 2, 12, 138⟩ G [.ref (a 0), .int (nI g)] (cW G a z r u) sz (xQi G (cW G a z r u) sz (fun x (_ : cU) => x = cT z r q g) (fun v => cW G a z r v)) := by
  have hw := a_would (c_idle h h3) hN hg (u.2.1 0) (u.2.1 1) (u.2.1 2) (u.2.1 3) (u.2.1 4) (u.2.1 5) (u.2.1 6) (u.2.1 7) (u.2.1 8) (u.2.1 9) (u.2.2 0) (u.2.2 1) (u.2.2 2) (u.2.2 3) (u.2.2 4) u.1
  exact k_wouldWalk hst sz a z r u _ (cA_H h) (by rw [h3]; exact hw.1) (by rw [h3]; exact hw.2)
theorem kk_best (hst : l.stackTraces = false) (h : cA N B z r rs q n xn xr nr v rw ak wl wy mp mm) (h3 : z 3 = -1) (hN : N < 1000000) (hB : 0 ≤ B ∧ B ≤ 1000000) {y g : Nat} (hy : v 4 = nI y) (hyn : y < n) (hg : g < n) : xM l yX3_bestShepherd wsX3_bestShepherd ⟨7, 2, 12, 138⟩ G [.ref (a 0), .int (nI g)] (cW G a z r u) sz (xQi G (cW G a z r u) sz (fun x (_ : cU) => x = -1 ∨ ∃ p, p < n ∧ x = nI p ∧ r 1 p = 0 ∧ ¬ cT z (va_up r 1 (upd (r 1) p 1)) q g = -1 ∧ (cT z r q g = -1 ∨ cT z (va_up r 1 (upd (r 1) p 1)) q g < cT z r q g)) (fun v => cW G a z r v)) := by
  have hw := a_help (c_idle h h3) hN hB hy hyn hg (u.2.1 0) (u.2.1 1) (u.2.1 2) (u.2.1 3) (u.2.1 4) (u.2.1 5) (u.2.1 6) (u.2.1 7) (u.2.1 8) (u.2.1 9) (u.2.2 0) (u.2.2 1) (u.2.2 2) (u.2.2 3) (u.2.2 4) u.1
  refine xM_map (k_bestShepherd hst sz a z r u _ (cA_H h) (by rw [h3]; exact hw.1) (by rw [h3])) (fun x w hx => ⟨w, ?_, rfl⟩)
  rw [hx]
  exact hw.2
end LC
