/-! the start: the tables, the world's makers, the loop -/
theorem zz100 : ∀ (n i : Nat) (f : Nat → Int32), i + n = 101 → i ≤ 100 → (∀ k, k < i → f k = -1) → ∀ k, k < 100 → LX4_init_t n i f k = -1
  | 0, i, f, h, h1, h2 => absurd h1 (by omega)
  | n + 1, i, f, h, h1, h2 => by
    by_cases c : 100 ≤ nI i
    · rw [LX4_init_t, if_pos c]
      rw [show (100 : Int32) = nI 100 from rfl, nI_leI (by decide) (by omega)] at c
      exact fun k hk => h2 k (by omega)
    · rw [LX4_init_t, if_neg c, nI_clamp (by omega)]
      rw [show (100 : Int32) = nI 100 from rfl, nI_leI (by decide) (by omega)] at c
      refine zz100 n (i + 1) _ (by omega) (by omega) (fun k hk => ?_)
      by_cases c3 : k = i
      · rw [c3, pk_us]
      · rw [pk_un c3]; exact h2 k (by omega)
abbrev zz : Nat → Int32 := fun _ => 0
theorem zI_init : zI 0 0 0 zz zz zz zz zz zz zz zz zz 0 (-1) (-1) 0 (-1) 0 zz zz zz zz zz zz zz zz (LX4_init_t 101 0 zz) zz := by
  have e0 : (0 : Int32).toInt = 0 := rfl
  have nE : ∀ e, ¬ zE 0 zz e := fun e h => by
    have := h.2.1
    rw [e0] at this
    omega
  refine ⟨⟨by rw [e0]; omega, fun k hk => by show 0 ≤ (0 : Int32).toInt ∧ (0 : Int32).toInt ≤ 4; rw [e0]; omega, fun k hk _ => rfl, fun k hk => by show 0 ≤ (0 : Int32).toInt ∧ (0 : Int32).toInt < 10; rw [e0]; omega, fun k hk => by show 0 ≤ (0 : Int32).toInt ∧ (0 : Int32).toInt < 40; rw [e0]; omega, fun k hk => Or.inl rfl, ⟨by rw [e0]; omega, by decide⟩, fun k hk => by show 0 ≤ (0 : Int32).toInt ∧ (0 : Int32).toInt < 20; rw [e0]; omega, fun k hk => Or.inl rfl, fun e hz => absurd hz (nE e), fun e he hz => rfl⟩, fun k hk => Or.inl rfl, rfl, by rw [e0]; omega, Or.inr ⟨rfl, rfl, rfl, rfl, rfl, ⟨fun k hk => Or.inl rfl, fun k hk => Or.inl rfl, by rw [e0]; omega, fun k hk => by rw [e0] at hk; omega, fun k hk => by show 0 ≤ (0 : Int32).toInt ∧ (0 : Int32).toInt < 40; rw [e0]; omega⟩, fun k hk => Or.inl ⟨rfl, zz100 101 0 zz rfl (by omega) (fun k hk => absurd hk (by omega)) k hk⟩, fun k hk => rfl⟩⟩
theorem zarrI {s : State} {args : Array Value} (h : (Cond.arrayClass .int).before args s = true) : ∃ cA : ClassId, ArrOfT s cA .int ∧ va_RA s cA .int := by
  obtain ⟨cA, kA, comp, h1, h2, h3⟩ := Cond.arrayClass_spec h
  exact ⟨cA, fun n z => ⟨fun k h => (by cases h), kA, h2, comp, h3⟩, h1⟩
theorem zarrZ {s : State} {args : Array Value} (h : (Cond.arrayClass .boolean).before args s = true) : ∃ cA : ClassId, ArrOfT s cA .boolean ∧ va_RA s cA .boolean := by
  obtain ⟨cA, kA, comp, h1, h2, h3⟩ := Cond.arrayClass_spec h
  exact ⟨cA, fun n z => ⟨fun k h => (by cases h), kA, h2, comp, h3⟩, h1⟩
theorem zarrJ {s : State} {args : Array Value} (h : (Cond.arrayClass .long).before args s = true) : ∃ cA : ClassId, ArrOfT s cA .long ∧ va_RA s cA .long := by
  obtain ⟨cA, kA, comp, h1, h2, h3⟩ := Cond.arrayClass_spec h
  exact ⟨cA, fun n z => ⟨fun k h => (by cases h), kA, h2, comp, h3⟩, h1⟩
set_option maxHeartbeats 40000000 in
set_option maxRecDepth 100000 in
/-- what the Statement gives at the law's entry, in the words of the walk -/
theorem lw_hc {p : Program} {s : State} {m : MethodId} {meth : Method} {c : Code} {b L : Nat} {xs : Nat → Int32} (C0 : lw_At p s m meth c b L xs) : ∃ G : xG, xC p s m #[Value.ref b] meth c cL_law 9 RL wsL_law (some .boolean) G (fun q : Nat => s.heap.size ≤ q) := by
  obtain ⟨hx, hb, hr, hml, hown, hts0, hX, hbl, hlocks, hgv⟩ := id C0
  have hs := flat_of_before _ hgv
  obtain ⟨c0, i0, k0⟩ := u_known (C := RX0) (T := TX0) (N := 15) (n := 15) hts0 inX0 (hts0 (.instantiable RX0 15) (by decide +kernel))
  obtain ⟨c1, i1, k1⟩ := u_known (C := RX1) (T := TX1) (N := 8) (n := 8) hts0 inX1 (hts0 (.instantiable RX1 8) (by decide +kernel))
  obtain ⟨c2, i2, k2⟩ := u_known (C := RX2) (T := TX2) (N := 2) (n := 2) hts0 inX2 (hts0 (.instantiable RX2 2) (by decide +kernel))
  obtain ⟨c3, i3, k3⟩ := u_known (C := RX3) (T := TX3) (N := 3) (n := 3) hts0 inX3 (hts0 (.instantiable RX3 3) (by decide +kernel))
  obtain ⟨c4, i4, k4⟩ := u_known (C := RX4) (T := TX4) (N := 14) (n := 14) hts0 inX4 (hts0 (.instantiable RX4 14) (by decide +kernel))
  obtain ⟨c5, i5, k5⟩ := u_known (C := RX5) (T := TX5) (N := 12) (n := 12) hts0 inX5 (hts0 (.instantiable RX5 12) (by decide +kernel))
  obtain ⟨aI, aI1, aI2⟩ := zarrI (hts0 (.arrayClass .int) (by decide +kernel))
  obtain ⟨aZ, aZ1, aZ2⟩ := zarrZ (hts0 (.arrayClass .boolean) (by decide +kernel))
  obtain ⟨aJ, aJ1, aJ2⟩ := zarrJ (hts0 (.arrayClass .long) (by decide +kernel))
  have hm : ∀ q ∈ xStrs, Cond.stringRef q.1 q.2.1 q.2.2 ∈ lw_tbl := by decide +kernel
  have hstr : ∀ k : Nat, ∃ a : Nat, ∀ q : String × Nat × String, xStrs[k]? = some q → vk_R q.1 q.2.1 q.2.2 a s := by
    intro k
    cases hk : xStrs[k]? with
    | none => exact ⟨0, fun q h => by cases h⟩
    | some q =>
      have h1 := hts0 _ (hm q (List.mem_of_getElem? hk))
      have hcur : ∃ cur, s.vm.findClass q.1 = some cur := by
        simp only [Cond.before, Cond.holds, Cond.value] at h1
        cases hc : s.vm.findClass q.1 with
        | none => simp [hc] at h1
        | some cur => exact ⟨cur, rfl⟩
      obtain ⟨cur, hcur⟩ := hcur
      obtain ⟨-, -, -, sa, -, -, -, -, -, hev⟩ := Cond.stringRef_spec hcur h1
      exact ⟨sa, fun q' h => by cases h; exact vk_R.of h1 hev⟩
  have hnc : ∀ q ∈ xNcs, va_Nc q.1 q.2 s := by
    intro q hq
    refine va_Nc.of (args := #[Value.ref b]) (hs _ ?_)
    revert q
    decide +kernel
  refine ⟨((fun k => if k = 0 then c0 else if k = 1 then c1 else if k = 2 then c2 else if k = 3 then c3 else if k = 4 then c4 else c5, fun k => if k = 0 then i0 else if k = 1 then i1 else if k = 2 then i2 else if k = 3 then i3 else if k = 4 then i4 else i5), (aI, aZ, aJ), fun k => Classical.choose (hstr k)), hx, hb, hml, hown, fun w h => hts0 w (wsL_law_in w h), hr, hlocks, ⟨⟨?_, ?_⟩, fun w hw => va_Nw.of (xnest_ot w hw) (hts0 w (xNest_tbl w hw)), hnc, fun k q hq => Classical.choose_spec (hstr k) q hq⟩, ⟨?_, ?_⟩, fun _ h => h⟩
  · intro k q hq
    match k, hq with
    | 0, hq => cases hq; exact k0
    | 1, hq => cases hq; exact k1
    | 2, hq => cases hq; exact k2
    | 3, hq => cases hq; exact k3
    | 4, hq => cases hq; exact k4
    | 5, hq => cases hq; exact k5
    | k + 6, hq => simp [vwCl] at hq
  · intro k q hq
    match k, hq with
    | 0, hq => cases hq; exact ⟨aI1, aI2⟩
    | 1, hq => cases hq; exact ⟨aZ1, aZ2⟩
    | 2, hq => cases hq; exact ⟨aJ1, aJ2⟩
    | k + 3, hq => simp [xTy] at hq
  · exact vx_Zqof (hts0 _ (by decide +kernel)) (hts0 _ (by decide +kernel)) (hs _ (by decide +kernel)) (fun a h => Nat.not_le.mpr h)
  · exact vx_Zqof (hts0 _ (by decide +kernel)) (hts0 _ (by decide +kernel)) (hs _ (by decide +kernel)) (fun a h => Nat.not_le.mpr h)
