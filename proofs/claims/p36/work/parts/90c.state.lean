/-! what is between the law's calls, over the class's world: cA (with the reference's own contents), cB (some of them) -/
theorem xM_map {l : Launch} {y : MethodName} {wds : List Cond} {rm : Room} {G : xG} {av : List Value} {ws : va_W} {sz : Nat} {S T : Type} {wn : S → va_W} {w2 : T → va_W} {post : Int32 → S → Prop} {post2 : Int32 → T → Prop} (h : xM l y wds rm G av ws sz (xQi G ws sz post wn)) (k : ∀ (r : Int32) (u : S), post r u → ∃ v : T, post2 r v ∧ wn u = w2 v) : xM l y wds rm G av ws sz (xQi G ws sz post2 w2) := by
  refine MetFree.mono h (fun _ _ hp => hp) (fun _ _ _ _ _ h => h) (fun a st oc t hp hq => ?_)
  obtain ⟨⟨⟨r, u, e1, hpo, hB⟩, hF⟩, L, hL, hfr⟩ := hq
  obtain ⟨v, hv, hw⟩ := k r u hpo
  refine ⟨⟨⟨r, v, e1, hv, ?_⟩, hF⟩, L, hL, hfr⟩
  unfold xB at hB ⊢
  rw [← hw]
  exact hB
abbrev cV : Type := (Nat → Int32) × (Nat → Nat → Int32) × cU
def cN (G : xG) (a : Nat → Nat) (w : cV) : va_W := cW G a w.1 w.2.1 w.2.2
def cA (N : Nat) (B : Int) (z : Nat → Int32) (r : Nat → Nat → Int32) (rs : Int32) (q : Nat → Nat → Int32) (n : Nat) (xn : Nat → Nat) (xr : Nat → Nat → Int32) (nr : Nat) (v : Nat → Int32) (rw : Nat → Nat → Int32) (ak : Nat → Int32) (wl : Nat) (wy : Nat → Nat → Int32) (mp : Nat → Nat → Bool) (mm : Nat → Nat → Nat → Int32) : Prop :=
  rA N B (z 0) rs (r 0) (r 1) (r 2) (r 3) (r 4) (r 5) (q 0) (q 1) (q 2) (z 1) (z 2) (z 3) (z 4) (z 5) (z 6) (z 7) (z 8) (z 9) (z 10) (r 6) (r 7) (r 8) (r 9) (r 10) (q 3) (q 4) (q 5) (q 6) (q 7) n xn xr nr v rw ak wl wy mp mm
def cB (N : Nat) (B : Int) (z : Nat → Int32) (r : Nat → Nat → Int32) (n : Nat) (xn : Nat → Nat) (xr : Nat → Nat → Int32) (nr : Nat) (v : Nat → Int32) (rw : Nat → Nat → Int32) (ak : Nat → Int32) (wl : Nat) (wy : Nat → Nat → Int32) (mp : Nat → Nat → Bool) (mm : Nat → Nat → Nat → Int32) : Prop := ∃ rs q, cA N B z r rs q n xn xr nr v rw ak wl wy mp mm
def qq (rd ml cz ur uk uy xe sg : Nat → Int32) : Nat → Nat → Int32 := fun k => if k = 0 then rd else if k = 1 then ml else if k = 2 then cz else if k = 3 then ur else if k = 4 then uk else if k = 5 then uy else if k = 6 then xe else sg
section CS
variable {N : Nat} {B : Int} {z : Nat → Int32} {r : Nat → Nat → Int32} {rs : Int32} {q : Nat → Nat → Int32} {n : Nat} {xn : Nat → Nat} {xr : Nat → Nat → Int32} {nr : Nat} {v : Nat → Int32} {rw : Nat → Nat → Int32} {ak : Nat → Int32} {wl : Nat} {wy : Nat → Nat → Int32} {mp : Nat → Nat → Bool} {mm : Nat → Nat → Nat → Int32}
theorem cA_up (h : cA N B z r rs q n xn xr nr v rw ak wl wy mp mm) {N2 : Nat} {B2 : Int} (hN : N ≤ N2) (hB : B ≤ B2) : cA N2 B2 z r rs q n xn xr nr v rw ak wl wy mp mm := by
  obtain ⟨hI, hR, hS, hV, ⟨n1, n2, n3, n4⟩, hQ⟩ := h
  exact ⟨zI_up hI hN, hR, hS, hV, ⟨n1, n2, n3, by omega⟩, hQ⟩
theorem cB_up (h : cB N B z r n xn xr nr v rw ak wl wy mp mm) {N2 : Nat} {B2 : Int} (hN : N ≤ N2) (hB : B ≤ B2) : cB N2 B2 z r n xn xr nr v rw ak wl wy mp mm := by
  obtain ⟨rs, q, h⟩ := h
  exact ⟨rs, q, cA_up h hN hB⟩
theorem cA_H (h : cA N B z r rs q n xn xr nr v rw ak wl wy mp mm) : cH z r := by
  obtain ⟨hI, -⟩ := h
  have hb := (zI_B hI).2.2.1
  have h2 := ycnt_le (q 3) 20
  exact ⟨hI.1.1, hI.1.2.1, hI.1.2.2.2.1, hI.1.2.2.2.2.1, hI.2.1, hb.1, by omega⟩
theorem cB_H (h : cB N B z r n xn xr nr v rw ak wl wy mp mm) : cH z r := by
  obtain ⟨rs, q, h⟩ := h
  exact cA_H h
theorem cA_n (h : cA N B z r rs q n xn xr nr v rw ak wl wy mp mm) : (n : Int) = (z 0).toInt ∧ z 0 = nI n ∧ 1 ≤ n ∧ n ≤ 10 ∧ nr ≤ 20 := rA_n h
theorem cB_n (h : cB N B z r n xn xr nr v rw ak wl wy mp mm) : (n : Int) = (z 0).toInt ∧ z 0 = nI n ∧ 1 ≤ n ∧ n ≤ 10 ∧ nr ≤ 20 := by
  obtain ⟨rs, q, h⟩ := h
  exact cA_n h
theorem cA_L (h : cA N B z r rs q n xn xr nr v rw ak wl wy mp mm) : zL (z 0) rs (r 0) (r 2) (r 3) (r 4) (r 5) (q 0) (q 1) (q 2) := h.1.1
theorem cB_sX (h : cB N B z r n xn xr nr v rw ak wl wy mp mm) : sX n xn xr nr rw := by
  obtain ⟨rs, q, h⟩ := h
  exact rL_sX h.1.1 h.2.1
theorem cB_V (h : cB N B z r n xn xr nr v rw ak wl wy mp mm) : sVd n xn v wl wy mp mm := by
  obtain ⟨rs, q, h⟩ := h
  exact h.2.2.2.1
theorem cB_x4 (h : cB N B z r n xn xr nr v rw ak wl wy mp mm) {p : Nat} (hp : p < n) : xn p ≤ 4 := by
  obtain ⟨rs, q, h⟩ := h
  exact (rL_n h.1.1 h.2.1).2.2 p hp
theorem cB_at (h : cB N B z r n xn xr nr v rw ak wl wy mp mm) : ∃ a, v 4 = nI a ∧ a < n := by
  obtain ⟨rs, q, h⟩ := h
  obtain ⟨a, h1, h2, -⟩ := h.2.2.2.2.2
  exact ⟨a, h1, h2⟩
theorem cB_v (h : cB N B z r n xn xr nr v rw ak wl wy mp mm) : (v 4 = z 1 ∧ v 5 = z 2 ∧ v 6 = z 3 ∧ v 9 = z 6 ∧ v 10 = z 7 ∧ v 11 = z 8 ∧ v 12 = z 9 ∧ v 13 = z 10) ∧ z 4 = nI wl := by
  obtain ⟨rs, q, h⟩ := h
  obtain ⟨hI, hR, ⟨h1, -, -, hW, -⟩, hV, -⟩ := h
  refine ⟨h1, ?_⟩
  have := hV.2.1
  rw [xeqI, nI_toInt (by omega)]
  exact hW.1.symm
/-- on an errand or not -/
theorem cB_6 (h : cB N B z r n xn xr nr v rw ak wl wy mp mm) : (v 6 = -1 ∧ z 3 = -1) ∨ (∃ g, v 6 = nI g ∧ g < n ∧ ¬ z 3 = -1 ∧ ¬ v 6 < 0) := by
  have h3 := (cB_v h).1.2.2.1
  have hn := cB_n h
  obtain ⟨rs, q, h⟩ := h
  obtain ⟨a, -, -, h1⟩ := h.2.2.2.2.2
  rcases h1 with h1 | ⟨b, h1, h2, -⟩
  · exact Or.inl ⟨h1, h3.symm.trans h1⟩
  · refine Or.inr ⟨b, h1, h2, ?_, ?_⟩
    · rw [← h3, h1]
      intro c
      have := congrArg Int32.toInt c
      rw [nI_toInt (by omega), show (-1 : Int32).toInt = -1 from rfl] at this
      omega
    · rw [h1, xltI, nI_toInt (by omega), show (0 : Int32).toInt = 0 from rfl]
      omega
end CS
section CK
variable {l : Launch} {G : xG} {sz : Nat} {a : Nat → Nat} {u : cU}
variable {N : Nat} {B : Int} {z : Nat → Int32} {r : Nat → Nat → Int32} {rs : Int32} {q : Nat → Nat → Int32} {n : Nat} {xn : Nat → Nat} {xr : Nat → Nat → Int32} {nr : Nat} {v : Nat → Int32} {rw : Nat → Nat → Int32} {ak : Nat → Int32} {wl : Nat} {wy : Nat → Nat → Int32} {mp : Nat → Nat → Bool} {mm : Nat → Nat → Nat → Int32}
theorem kk_addPlace (hst : l.stackTraces = false) (h : cB N B z r n xn xr nr v rw ak wl wy mp mm) (hn : n < 10) : xM l yX3_addPlace wsX3_addPlace ⟨6, 1, 6, 82⟩ G [.ref (a 0)] (cW G a z r u) sz (xQi G (cW G a z r u) sz (fun x (w : cV) => x = nI n ∧ cB N B w.1 w.2.1 (n + 1) (va_up xn n 0) xr nr v rw ak wl wy mp mm ∧ w.2.1 1 = r 1) (cN G a)) := by
  obtain ⟨rs, q, h⟩ := h
  obtain ⟨h1, -, h2⟩ := a_place h hn
  exact xM_map (k_addPlace hst sz a z r u h1) (fun x w hx => ⟨(upd z 0 (nI (n + 1)), r, w), ⟨hx, ⟨rs, q, h2⟩, rfl⟩, rfl⟩)
theorem kk_addRoad (hst : l.stackTraces = false) (h : cB N B z r n xn xr nr v rw ak wl wy mp mm) {x y : Nat} (hx : x < n) (hy : y < n) (hxy : x ≠ y) (hxa : xn x ≤ 3) (hxb : xn y ≤ 3) {mil : Int32} (hm : 1 ≤ mil.toInt ∧ mil.toInt ≤ 9) : xM l yX3_addRoad wsX3_addRoad ⟨7, 4, 24, 104⟩ G [.ref (a 0), .int (nI x), .int (nI y), .int mil] (cW G a z r u) sz (xQi G (cW G a z r u) sz (fun x0 (w : cV) => x0 = nI (xn x) ∧ cB N B w.1 w.2.1 n (va_up (va_up xn x (xn x + 1)) y (xn y + 1)) (va_up (va_up xr x (upd (xr x) (xn x) (nI nr))) y (upd (xr y) (xn y) (nI nr))) (nr + 1) v (va_up rw nr (sRow x y mil)) ak wl wy mp mm ∧ w.2.1 1 = r 1) (cN G a)) := by
  have hH := cB_H h
  obtain ⟨rs, q, h⟩ := h
  obtain ⟨rs2, ex2, ld2, tw2, le2, op2, rd2, ml2, cz2, ur2, h1, h2⟩ := a_road h hx hy hxy hxa hxb hm
  exact xM_map (k_addRoad hst sz a z r u _ _ _ hH h1) (fun x0 w hx0 => ⟨(z, va_up (va_up (va_up (va_up (va_up r 0 ex2) 2 ld2) 3 tw2) 4 le2) 5 op2, w), ⟨hx0, ⟨rs2, qq rd2 ml2 cz2 ur2 (q 4) (q 5) (q 6) (q 7), h2⟩, rfl⟩, rfl⟩)
theorem kk_turnRoad (hst : l.stackTraces = false) (h : cB N B z r n xn xr nr v rw ak wl wy mp mm) {p x : Nat} (hp : p < n) (hx : x < xn p) : xM l yX3_turnRoad wsX3_turnRoad ⟨7, 1, 6, 105⟩ G [.ref (a 0), .int (nI p), .int (nI x)] (cW G a z r u) sz (xQi G (cW G a z r u) sz (fun x0 (w : cV) => x0 = 1 - rw (xr p x).toNatClampNeg 3 ∧ (rw (xr p x).toNatClampNeg 3 = 0 ∨ rw (xr p x).toNatClampNeg 3 = 1) ∧ cB N B w.1 w.2.1 n xn xr nr v (va_up rw (xr p x).toNatClampNeg (upd (rw (xr p x).toNatClampNeg) 3 (1 - rw (xr p x).toNatClampNeg 3))) ak wl wy mp mm ∧ w.2.1 1 = r 1) (cN G a)) := by
  have hH := cB_H h
  obtain ⟨rs, q, h⟩ := h
  obtain ⟨op2, cz2, h1, h2, h3, h4⟩ := a_turn h hp hx
  exact xM_map (k_turnRoad hst sz a z r u _ _ hH h1) (fun x0 w hx0 => ⟨(z, va_up r 5 op2, w), ⟨hx0, h2, ⟨rs, qq (q 0) (q 1) cz2 (q 3) (q 4) (q 5) (q 6) (q 7), h4⟩, rfl⟩, rfl⟩)
/-- also with the reference's contents: the errand that would be, with another shepherd -/
theorem kA_turnShep (hst : l.stackTraces = false) (h : cA N B z r rs q n xn xr nr v rw ak wl wy mp mm) {p : Nat} (hp : p < n) : xM l yX3_turnShepherd wsX3_turnShepherd ⟨7, 1, 6, 103⟩ G [.ref (a 0), .int (nI p)] (cW G a z r u) sz (xQi G (cW G a z r u) sz (fun x0 (_ : cU) => x0 = (if r 1 p = 0 then 1 else 0)) (fun w => cW G a z (va_up r 1 (upd (r 1) p (if r 1 p = 0 then 1 else 0))) w)) ∧ cA N B z (va_up r 1 (upd (r 1) p (if r 1 p = 0 then 1 else 0))) rs q n xn xr nr v rw ak wl wy mp mm := by
  have hH := cA_H h
  obtain ⟨b, sh2, h1, h2, h3, h4⟩ := a_shep h hp
  rw [h3, h2] at h1 h4
  exact ⟨k_turnShepherd hst sz a z r u _ hH h1, h4⟩
theorem kk_turnShep (hst : l.stackTraces = false) (h : cB N B z r n xn xr nr v rw ak wl wy mp mm) {p : Nat} (hp : p < n) : xM l yX3_turnShepherd wsX3_turnShepherd ⟨7, 1, 6, 103⟩ G [.ref (a 0), .int (nI p)] (cW G a z r u) sz (xQi G (cW G a z r u) sz (fun x0 (w : cV) => x0 = (if r 1 p = 0 then 1 else 0) ∧ cB N B w.1 w.2.1 n xn xr nr v rw ak wl wy mp mm ∧ w.2.1 1 = upd (r 1) p (if r 1 p = 0 then 1 else 0)) (cN G a)) := by
  obtain ⟨rs, q, h⟩ := h
  obtain ⟨h1, h2⟩ := kA_turnShep (l := l) (G := G) (sz := sz) (a := a) (u := u) hst h hp
  exact xM_map h1 (fun x0 w hx0 => ⟨(z, va_up r 1 (upd (r 1) p (if r 1 p = 0 then 1 else 0)), w), ⟨hx0, ⟨rs, q, h2⟩, rfl⟩, rfl⟩)
theorem kk_pay (hst : l.stackTraces = false) (h : cB N B z r n xn xr nr v rw ak wl wy mp mm) {x : Int32} (hx : 1 ≤ x.toInt ∧ x.toInt ≤ 99) : xM l yX3_pay wsX3_pay ⟨7, 1, 6, 104⟩ G [.ref (a 0), .int x] (cW G a z r u) sz (xQi G (cW G a z r u) sz (fun x0 (w : cV) => x0 = sMin 99 (v 5 + x) ∧ cB N B w.1 w.2.1 n xn xr nr (upd v 5 (sMin 99 (v 5 + x))) rw ak wl wy mp mm ∧ w.2.1 1 = r 1) (cN G a)) := by
  obtain ⟨rs, q, h⟩ := h
  obtain ⟨h1, h2⟩ := a_pay h hx
  exact xM_map (k_pay hst sz a z r u _ h1) (fun x0 w hx0 => ⟨(upd z 2 (sMin 99 (v 5 + x)), r, w), ⟨hx0, ⟨rs, q, h2⟩, rfl⟩, rfl⟩)
theorem kk_sleep (hst : l.stackTraces = false) (h : cB N B z r n xn xr nr v rw ak wl wy mp mm) {K : Nat} (hK : 1 ≤ K ∧ K ≤ 9) : xM l yX3_sleep wsX3_sleep ⟨7, 1, 6, 104⟩ G [.ref (a 0), .int (nI K)] (cW G a z r u) sz (xQi G (cW G a z r u) sz (fun x0 (w : cV) => x0 = nI (dNs mp mm K).2.2 ∧ cB N B w.1 w.2.1 n xn xr nr v rw ak wl wy (dNs mp mm K).1 (dNs mp mm K).2.1 ∧ w.2.1 1 = r 1) (cN G a)) := by
  obtain ⟨rs, q, h⟩ := h
  obtain ⟨ms2, xe2, sg2, h1, h2⟩ := a_sleep h hK
  exact xM_map (k_sleep hst sz a z r u _ h1) (fun x0 w hx0 => ⟨(z, va_up r 10 ms2, w), ⟨hx0, ⟨rs, qq (q 0) (q 1) (q 2) (q 3) (q 4) (q 5) xe2 sg2, h2⟩, rfl⟩, rfl⟩)
theorem kk_giveUp (hst : l.stackTraces = false) (h : cB N B z r n xn xr nr v rw ak wl wy mp mm) (h6 : ¬ z 3 = -1) : xM l yX3_giveUp wsX3_giveUp ⟨7, 1, 6, 102⟩ G [.ref (a 0)] (cW G a z r u) sz (xQi G (cW G a z r u) sz (fun x0 (w : cV) => x0 = nI wl ∧ cB N B w.1 w.2.1 n xn xr nr (upd v 6 (-1)) (sOv rw nr) (fun _ => 0) 0 wy mp mm ∧ w.2.1 1 = r 1) (cN G a)) := by
  obtain ⟨rs, q, h⟩ := h
  obtain ⟨h1, ur2, uk2, h2⟩ := a_giveUp h h6
  exact xM_map (k_giveUp hst sz a z r u h1) (fun x0 w hx0 => ⟨(upd (upd z 3 (-1)) 4 0, r, w), ⟨hx0, ⟨rs, qq (q 0) (q 1) (q 2) ur2 uk2 (q 5) (q 6) (q 7), h2⟩, rfl⟩, rfl⟩)
theorem kk_begin (hst : l.stackTraces = false) (h : cA N B z r rs q n xn xr nr v rw ak wl wy mp mm) (h3 : z 3 = -1) {x g : Nat} (hx4 : v 4 = nI x) (hx : x < n) (hg : g < n) : xM l yX3_beginErrand wsX3_beginErrand ⟨7, 2, 12, 103⟩ G [.ref (a 0), .int (nI g)] (cW G a z r u) sz (xQi G (cW G a z r u) sz (fun x0 (w : cV) => (∃ d, x0 = tD d ∧ dI (z 0) (r 0) (r 2) (r 4) (r 5) x g d) ∧ w.2.1 1 = r 1 ∧ w.1 0 = z 0 ∧ w.1 6 = z 6 ∧ w.1 7 = z 7 ∧ w.1 9 = z 9 ∧ (∀ k, k < 6 → w.2.1 k = r k) ∧ ∃ ur2 uk2, ((x = g ∧ w.1 3 = -1 ∧ cA N B w.1 w.2.1 rs (qq (q 0) (q 1) (q 2) ur2 uk2 (q 5) (q 6) (q 7)) n xn xr nr (upd v 11 (v 11 + 1)) rw ak wl wy mp mm) ∨ (x ≠ g ∧ w.1 3 = nI g ∧ cA N B w.1 w.2.1 rs (qq (q 0) (q 1) (q 2) ur2 uk2 (q 5) (q 6) (q 7)) n xn xr nr (upd v 6 (nI g)) (sOv rw nr) (fun _ => 0) 0 wy mp mm))) (cN G a)) := by
  have hH := cA_H h
  unfold cA at h
  rw [h3] at h
  obtain ⟨d, go2, wl2, dn2, tr2, ak2, fa2, ur2, uk2, h1, h2, h4⟩ := a_begin h hx4 hx hg u.1
  have h2' : FX3_beginErrand (z 1) (z 3) (z 4) (z 8) (r 7) (r 8) (z 0) (r 2) (r 4) (r 5) u.1 (nI g) = (0, tD d, go2, wl2, dn2, tr2, ak2, fa2) := by rw [h3]; exact h2
  refine xM_map (k_beginErrand hst sz a z r u _ hH h2') (fun x0 w hx0 => ⟨(upd (upd (upd z 3 go2) 4 wl2) 8 dn2, va_up (va_up r 7 tr2) 8 ak2, w), ⟨⟨d, hx0, h1⟩, rfl, rfl, rfl, rfl, rfl, fun k hk => ?_, ur2, uk2, ?_⟩, rfl⟩)
  · show va_up (va_up r 7 tr2) 8 ak2 k = r k
    rw [va_up_ne _ _ (by omega), va_up_ne _ _ (by omega)]
  · rcases h4 with ⟨c1, c2, c3⟩ | ⟨c1, c2, c3⟩
    · subst c2
      exact Or.inl ⟨c1, rfl, c3⟩
    · subst c2
      exact Or.inr ⟨c1, rfl, c3⟩
theorem kk_goOn (hst : l.stackTraces = false) (h : cA N B z r rs q n xn xr nr v rw ak wl wy mp mm) (h3 : ¬ z 3 = -1) (hN : N < 1000000) {K i : Nat} (hK : 1 ≤ K ∧ K ≤ 100) (hi : i ≤ K) {v' : Nat → Int32} {rw' : Nat → Nat → Int32} {ak2 : Nat → Int32} {wl2 : Nat} {wy2 : Nat → Nat → Int32} {mp' : Nat → Nat → Bool} {mm' : Nat → Nat → Nat → Int32}
    (hE : (rG n xn xr nr (z 0) rs (r 0) (r 2) (q 0) (q 1) (q 2) (r 1) B (rL0 (z 0) (r 0) (q 0) (r 2) (q 1) (q 2) (r 1) (z 1) (z 2) (z 3) (z 4) (z 6) (z 7) (z 8) (z 9) (z 10) (q 3) (q 4) (q 5) (q 6) (q 7)) i v' rw' ak2 wl2 wy2 mp' mm' ∧ (K ≤ i ∨ v' 6 < 0)) ∨ (i < K ∧ rE n xn xr nr (z 0) rs (r 0) (r 2) (q 0) (q 1) (q 2) B (rL0 (z 0) (r 0) (q 0) (r 2) (q 1) (q 2) (r 1) (z 1) (z 2) (z 3) (z 4) (z 6) (z 7) (z 8) (z 9) (z 10) (q 3) (q 4) (q 5) (q 6) (q 7)) i v' rw' ak2 wl2 wy2 mp' mm')) : xM l yX3_goOn wsX3_goOn ⟨7, 2, 12, 115⟩ G [.ref (a 0), .int (nI K)] (cW G a z r u) sz (xQi G (cW G a z r u) sz (fun x0 (w : cV) => x0 = nI i ∧ w.2.1 1 = r 1 ∧ w.1 0 = z 0 ∧ (∀ k, k < 6 → w.2.1 k = r k) ∧ ∃ ur3 uk3 uy3 xe3 sg3, cA (N + 1) (B + 400) w.1 w.2.1 rs (qq (q 0) (q 1) (q 2) ur3 uk3 uy3 xe3 sg3) n xn xr nr v' rw' ak2 wl2 wy2 mp' mm') (cN G a)) := by
  have hH := cA_H h
  obtain ⟨po3, co3, go3, wl3, wk3, db3, dn3, iv3, qs3, wy3, tr3, ak3, mx3, ms3, fa3, ur3, uk3, uy3, xe3, sg3, h1, h2⟩ := a_goOn h h3 hN hK hi hE u.1
  refine xM_map (k_goOn hst sz a z r u _ hH h1) (fun x0 w hx0 => ⟨(upd (upd (upd (upd (upd (upd (upd (upd (upd z 1 po3) 2 co3) 3 go3) 4 wl3) 6 wk3) 7 db3) 8 dn3) 9 iv3) 10 qs3, va_up (va_up (va_up (va_up (va_up r 6 wy3) 7 tr3) 8 ak3) 9 mx3) 10 ms3, w), ⟨hx0, rfl, rfl, fun k hk => ?_, ur3, uk3, uy3, xe3, sg3, h2⟩, rfl⟩)
  show va_up (va_up (va_up (va_up (va_up r 6 wy3) 7 tr3) 8 ak3) 9 mx3) 10 ms3 k = r k
  rw [va_up_ne _ _ (by omega), va_up_ne _ _ (by omega), va_up_ne _ _ (by omega), va_up_ne _ _ (by omega), va_up_ne _ _ (by omega)]
end CK
