/-! a contract over some cells is one over more: what it doesn't have stays -/
section LIFT
variable {l : Launch} {y : MethodName} {wds : List Cond} {rm : Room} {G : xG} {av : List Value} {wc ws : va_W} {sz : Nat} {S T : Type} {wn : S → va_W} {w2 : T → va_W} {px : String → Prop}
theorem xA_in (isC : List Nat) (hC : isC.map (fun i => ws[i]?) = wc.map some) : ∀ q, va_A wc sz q → va_A ws sz q := by
  intro q h
  rcases h with ⟨k, e, h⟩ | h
  · have h1 : (isC.map (fun i => ws[i]?))[k]? = some (some (q, e)) := by rw [hC, List.getElem?_map, h]; rfl
    rw [List.getElem?_map] at h1
    cases hi : isC[k]? with
    | none => rw [hi] at h1; cases h1
    | some i => rw [hi] at h1; exact Or.inl ⟨i, e, Option.some.inj h1⟩
  · exact Or.inr h
theorem xPc_sub (isC : List Nat) (hn : va_nd isC = true) (hC : isC.map (fun i => ws[i]?) = wc.map some) {U : State} (h : xPc G ws sz U) : xPc G wc sz U := by
  obtain ⟨h1, h2, h3, h4, h5⟩ := h
  exact ⟨h1, h2.sub isC (xpick hC), (h3.sub isC hn hC).weaken (fun _ _ _ _ => trivial), h4, h5.1.narrow (xA_in isC hC), h5.2.narrow (xA_in isC hC)⟩
theorem xB_join (isC isR isP : List Nat) (hC : isC.map (fun i => ws[i]?) = wc.map some) (hnR : va_nd isR = true) (hlt : isR.all (fun i => decide (i < ws.length)) = true) (hdis : isR.all (fun i => decide (i ∉ isC)) = true) (hnP : va_nd isP = true) {st t : State} (h : xPc G ws sz st) {w1 w3 : va_W}
    (hP2 : isP.map (fun i => (isR.filterMap (fun i => ws[i]?) ++ w1)[i]?) = w3.map some) (hF : va_F (va_A wc sz) st t) (hB : va_P G.1 vwCl w1 t.heap ∧ va_D (va_A wc sz) w1) : va_P G.1 vwCl w3 t.heap ∧ va_D (va_A ws sz) w3 := by
  obtain ⟨h1, h2, h3, h4, h5⟩ := h
  subst h1
  obtain ⟨g1, g2⟩ := va_join (A0 := va_A ws st.heap.size) (wr := isR.filterMap (fun i => ws[i]?)) (w1 := w1) h2 h3.self isC isR hC (xpick_lt hlt) hnR (fun i hi => by have := List.all_eq_true.mp hdis i hi; simpa using this) hF.2 (xA_in isC hC) hB.1 hB.2
  exact ⟨g1.sub isP (xpick hP2), g2.sub isP hnP hP2⟩
theorem xF_in (isC : List Nat) (hC : isC.map (fun i => ws[i]?) = wc.map some) {st t : State} (h : va_F (va_A wc sz) st t) : va_F (va_A ws sz) st t := ⟨h.1, fun q h1 h2 => h.2 q h1 (fun z => h2 (xA_in isC hC q z))⟩
theorem xlift_i {post : Int32 → S → Prop} {post2 : Int32 → T → Prop} (h : xM l y wds rm G av wc sz (xQi G wc sz post wn)) (isC isR isP : List Nat) (hC : isC.map (fun i => ws[i]?) = wc.map some) (hnC : va_nd isC = true) (hnR : va_nd isR = true) (hlt : isR.all (fun i => decide (i < ws.length)) = true) (hdis : isR.all (fun i => decide (i ∉ isC)) = true) (hnP : va_nd isP = true)
    (k : ∀ (r : Int32) (u : S), post r u → ∃ v : T, post2 r v ∧ isP.map (fun i => (isR.filterMap (fun i => ws[i]?) ++ wn u)[i]?) = (w2 v).map some) : xM l y wds rm G av ws sz (xQi G ws sz post2 w2) := by
  refine MetFree.mono h (fun a s hp => ⟨hp.1, xPc_sub isC hnC hC hp.2⟩) (fun _ _ _ _ _ h => h) (fun a st oc t hp hq => ?_)
  obtain ⟨⟨⟨r, u, e1, hpo, hB⟩, hF⟩, L, hL, hfr⟩ := hq
  obtain ⟨v, hv, hw⟩ := k r u hpo
  exact ⟨⟨⟨r, v, e1, hv, xB_join isC isR isP hC hnR hlt hdis hnP hp.2 hw hF hB⟩, xF_in isC hC hF⟩, L, hL, fun q hq => xA_in isC hC _ (hfr q hq)⟩
theorem xliftX_i {post : Int32 → S → Prop} {post2 : Int32 → T → Prop} (h : xMX l y wds rm G av wc sz (xQi G wc sz post wn) px) (isC isR isP isX : List Nat) (hC : isC.map (fun i => ws[i]?) = wc.map some) (hnC : va_nd isC = true) (hnR : va_nd isR = true) (hlt : isR.all (fun i => decide (i < ws.length)) = true) (hdis : isR.all (fun i => decide (i ∉ isC)) = true) (hnP : va_nd isP = true) (hnX : va_nd isX = true) (hPX : isX.map (fun i => (isR.filterMap (fun i => ws[i]?) ++ wc)[i]?) = ws.map some)
    (k : ∀ (r : Int32) (u : S), post r u → ∃ v : T, post2 r v ∧ isP.map (fun i => (isR.filterMap (fun i => ws[i]?) ++ wn u)[i]?) = (w2 v).map some) : xMX l y wds rm G av ws sz (xQi G ws sz post2 w2) px := by
  refine MetFree.mono h (fun a s hp => ⟨hp.1, xPc_sub isC hnC hC hp.2⟩) (fun _ _ _ _ _ h => h) (fun a st oc t hp hq => ?_)
  rcases hq with hq | ⟨q, hq, E, ce, L, hX, g1, g2, g3, g4, g5, g6⟩
  · obtain ⟨⟨⟨r, u, e1, hpo, hB⟩, hF⟩, L, hL, hfr⟩ := hq
    obtain ⟨v, hv, hw⟩ := k r u hpo
    exact Or.inl ⟨⟨⟨r, v, e1, hv, xB_join isC isR isP hC hnR hlt hdis hnP hp.2 hw hF hB⟩, xF_in isC hC hF⟩, L, hL, fun q hq => xA_in isC hC _ (hfr q hq)⟩
  · obtain ⟨u, -, ⟨hpx, hB⟩, hF⟩ := hX
    obtain ⟨j1, j2⟩ := xB_join isC isR isX hC hnR hlt hdis hnX hp.2 hPX hF hB
    exact Or.inr ⟨q, hq, E, ce, L, ⟨u, trivial, ⟨hpx, j1, j2⟩, xF_in isC hC hF⟩, g1, g2, g3, g4, g5, fun z hz => xA_in isC hC _ (g6 z hz)⟩
theorem xlift_l {post : Int64 → S → Prop} {post2 : Int64 → T → Prop} (h : xM l y wds rm G av wc sz (xQl G wc sz post wn)) (isC isR isP : List Nat) (hC : isC.map (fun i => ws[i]?) = wc.map some) (hnC : va_nd isC = true) (hnR : va_nd isR = true) (hlt : isR.all (fun i => decide (i < ws.length)) = true) (hdis : isR.all (fun i => decide (i ∉ isC)) = true) (hnP : va_nd isP = true)
    (k : ∀ (r : Int64) (u : S), post r u → ∃ v : T, post2 r v ∧ isP.map (fun i => (isR.filterMap (fun i => ws[i]?) ++ wn u)[i]?) = (w2 v).map some) : xM l y wds rm G av ws sz (xQl G ws sz post2 w2) := by
  refine MetFree.mono h (fun a s hp => ⟨hp.1, xPc_sub isC hnC hC hp.2⟩) (fun _ _ _ _ _ h => h) (fun a st oc t hp hq => ?_)
  obtain ⟨⟨⟨r, u, e1, hpo, hB⟩, hF⟩, L, hL, hfr⟩ := hq
  obtain ⟨v, hv, hw⟩ := k r u hpo
  exact ⟨⟨⟨r, v, e1, hv, xB_join isC isR isP hC hnR hlt hdis hnP hp.2 hw hF hB⟩, xF_in isC hC hF⟩, L, hL, fun q hq => xA_in isC hC _ (hfr q hq)⟩
theorem xliftX_l {post : Int64 → S → Prop} {post2 : Int64 → T → Prop} (h : xMX l y wds rm G av wc sz (xQl G wc sz post wn) px) (isC isR isP isX : List Nat) (hC : isC.map (fun i => ws[i]?) = wc.map some) (hnC : va_nd isC = true) (hnR : va_nd isR = true) (hlt : isR.all (fun i => decide (i < ws.length)) = true) (hdis : isR.all (fun i => decide (i ∉ isC)) = true) (hnP : va_nd isP = true) (hnX : va_nd isX = true) (hPX : isX.map (fun i => (isR.filterMap (fun i => ws[i]?) ++ wc)[i]?) = ws.map some)
    (k : ∀ (r : Int64) (u : S), post r u → ∃ v : T, post2 r v ∧ isP.map (fun i => (isR.filterMap (fun i => ws[i]?) ++ wn u)[i]?) = (w2 v).map some) : xMX l y wds rm G av ws sz (xQl G ws sz post2 w2) px := by
  refine MetFree.mono h (fun a s hp => ⟨hp.1, xPc_sub isC hnC hC hp.2⟩) (fun _ _ _ _ _ h => h) (fun a st oc t hp hq => ?_)
  rcases hq with hq | ⟨q, hq, E, ce, L, hX, g1, g2, g3, g4, g5, g6⟩
  · obtain ⟨⟨⟨r, u, e1, hpo, hB⟩, hF⟩, L, hL, hfr⟩ := hq
    obtain ⟨v, hv, hw⟩ := k r u hpo
    exact Or.inl ⟨⟨⟨r, v, e1, hv, xB_join isC isR isP hC hnR hlt hdis hnP hp.2 hw hF hB⟩, xF_in isC hC hF⟩, L, hL, fun q hq => xA_in isC hC _ (hfr q hq)⟩
  · obtain ⟨u, -, ⟨hpx, hB⟩, hF⟩ := hX
    obtain ⟨j1, j2⟩ := xB_join isC isR isX hC hnR hlt hdis hnX hp.2 hPX hF hB
    exact Or.inr ⟨q, hq, E, ce, L, ⟨u, trivial, ⟨hpx, j1, j2⟩, xF_in isC hC hF⟩, g1, g2, g3, g4, g5, fun z hz => xA_in isC hC _ (g6 z hz)⟩
theorem xlift_v {post : S → Prop} {post2 : T → Prop} (h : xM l y wds rm G av wc sz (xQv G wc sz post wn)) (isC isR isP : List Nat) (hC : isC.map (fun i => ws[i]?) = wc.map some) (hnC : va_nd isC = true) (hnR : va_nd isR = true) (hlt : isR.all (fun i => decide (i < ws.length)) = true) (hdis : isR.all (fun i => decide (i ∉ isC)) = true) (hnP : va_nd isP = true)
    (k : ∀ (u : S), post u → ∃ v : T, post2 v ∧ isP.map (fun i => (isR.filterMap (fun i => ws[i]?) ++ wn u)[i]?) = (w2 v).map some) : xM l y wds rm G av ws sz (xQv G ws sz post2 w2) := by
  refine MetFree.mono h (fun a s hp => ⟨hp.1, xPc_sub isC hnC hC hp.2⟩) (fun _ _ _ _ _ h => h) (fun a st oc t hp hq => ?_)
  obtain ⟨⟨⟨u, e1, hpo, hB⟩, hF⟩, L, hL, hfr⟩ := hq
  obtain ⟨v, hv, hw⟩ := k u hpo
  exact ⟨⟨⟨v, e1, hv, xB_join isC isR isP hC hnR hlt hdis hnP hp.2 hw hF hB⟩, xF_in isC hC hF⟩, L, hL, fun q hq => xA_in isC hC _ (hfr q hq)⟩
theorem xliftX_v {post : S → Prop} {post2 : T → Prop} (h : xMX l y wds rm G av wc sz (xQv G wc sz post wn) px) (isC isR isP isX : List Nat) (hC : isC.map (fun i => ws[i]?) = wc.map some) (hnC : va_nd isC = true) (hnR : va_nd isR = true) (hlt : isR.all (fun i => decide (i < ws.length)) = true) (hdis : isR.all (fun i => decide (i ∉ isC)) = true) (hnP : va_nd isP = true) (hnX : va_nd isX = true) (hPX : isX.map (fun i => (isR.filterMap (fun i => ws[i]?) ++ wc)[i]?) = ws.map some)
    (k : ∀ (u : S), post u → ∃ v : T, post2 v ∧ isP.map (fun i => (isR.filterMap (fun i => ws[i]?) ++ wn u)[i]?) = (w2 v).map some) : xMX l y wds rm G av ws sz (xQv G ws sz post2 w2) px := by
  refine MetFree.mono h (fun a s hp => ⟨hp.1, xPc_sub isC hnC hC hp.2⟩) (fun _ _ _ _ _ h => h) (fun a st oc t hp hq => ?_)
  rcases hq with hq | ⟨q, hq, E, ce, L, hX, g1, g2, g3, g4, g5, g6⟩
  · obtain ⟨⟨⟨u, e1, hpo, hB⟩, hF⟩, L, hL, hfr⟩ := hq
    obtain ⟨v, hv, hw⟩ := k u hpo
    exact Or.inl ⟨⟨⟨v, e1, hv, xB_join isC isR isP hC hnR hlt hdis hnP hp.2 hw hF hB⟩, xF_in isC hC hF⟩, L, hL, fun q hq => xA_in isC hC _ (hfr q hq)⟩
  · obtain ⟨u, -, ⟨hpx, hB⟩, hF⟩ := hX
    obtain ⟨j1, j2⟩ := xB_join isC isR isX hC hnR hlt hdis hnX hp.2 hPX hF hB
    exact Or.inr ⟨q, hq, E, ce, L, ⟨u, trivial, ⟨hpx, j1, j2⟩, xF_in isC hC hF⟩, g1, g2, g3, g4, g5, fun z hz => xA_in isC hC _ (g6 z hz)⟩
/-- one that can't throw returns -/
theorem xMX_ok {Qc : Array Value → State → Outcome → State → Prop} (h : xMX l y wds rm G av ws sz Qc px) (hn : ∀ E, ¬ px E) : xM l y wds rm G av ws sz Qc := by
  refine MetFree.mono h (fun _ _ hp => hp) (fun _ _ _ _ _ h => h) (fun a st oc t hp hq => ?_)
  rcases hq with hq | ⟨q, hq, E, ce, L, ⟨u, -, ⟨hpx, -⟩, -⟩, -⟩
  · exact hq
  · exact absurd hpx (hn E)
end LIFT
