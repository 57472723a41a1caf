/-! the writes, but for addRoad, sleep and the digest -/
theorem zI_up {N : Nat} {pl rs po pq go wl gu iv : Int32} {ex sh ld tw le op rd ml cz wy tr ak mx ms ur uk uy xe sg : Nat → Int32} (hI : zI N pl rs ex sh ld tw le op rd ml cz po pq go wl gu iv wy tr ak mx ms ur uk uy xe sg) {N2 : Nat} (h : N ≤ N2) : zI N2 pl rs ex sh ld tw le op rd ml cz po pq go wl gu iv wy tr ak mx ms ur uk uy xe sg :=
  ⟨hI.1, hI.2.1, hI.2.2.1, ⟨hI.2.2.2.1.1, by have := hI.2.2.2.1.2; omega⟩, hI.2.2.2.2⟩
theorem zEup {pl : Int32} {ex : Nat → Int32} (hpl : 0 ≤ pl.toInt ∧ pl.toInt ≤ 10) (hex0 : ∀ k : Nat, k < 10 → pl.toInt ≤ k → (ex k).toInt = 0) (h1 : (pl + 1).toInt = pl.toInt + 1) {e : Nat} : zE (pl + 1) ex e ↔ zE pl ex e := by
  unfold zE
  rw [h1]
  constructor
  · intro ⟨a1, a2, a3⟩
    refine ⟨a1, ?_, a3⟩
    by_cases c : ((e / 4 : Nat) : Int) < pl.toInt
    · exact c
    · have := hex0 (e / 4) (by omega) (by omega)
      omega
  · intro ⟨a1, a2, a3⟩
    exact ⟨a1, by omega, a3⟩
theorem zo_addPlace {N : Nat} {pl rs po pq go wl gu iv : Int32} {ex sh ld tw le op rd ml cz wy tr ak mx ms ur uk uy xe sg : Nat → Int32} (hI : zI N pl rs ex sh ld tw le op rd ml cz po pq go wl gu iv wy tr ak mx ms ur uk uy xe sg) (ot : Nat → Int64) : ∃ (k b pl2 pq2 : Int32) (ot2 : Nat → Int64), FL_addPlace pl ot = (k, pl2, ot2) ∧ FX5_addPlace pl pq = (b, k, pl2, pq2) ∧ (k = 0 → ot2 0 = b.toInt64) ∧ zI N pl2 rs ex sh ld tw le op rd ml cz po pq2 go wl gu iv wy tr ak mx ms ur uk uy xe sg := by
  obtain ⟨⟨hpl, hex4, hex0, hld, htw, hop, hrs, hrd, hcz, hv, hnv⟩, hs, hgu, hiv, hC⟩ := id hI
  have e10 : (10 : Int32).toInt = 10 := rfl
  by_cases c : pl < 10
  · have c' := c
    rw [xltI, e10] at c'
    have h1 : (pl + 1).toInt = pl.toInt + 1 := yinc (by omega)
    have hE := fun e => zEup hpl hex0 h1 (e := e)
    have hL2 : zL (pl + 1) rs ex ld tw le op rd ml cz := by
      refine ⟨by omega, hex4, fun k hk hk2 => hex0 k hk (by omega), hld, htw, hop, hrs, hrd, hcz, fun e hz => ?_, fun e he hz => hnv e he (fun h => hz ((hE e).mpr h))⟩
      obtain ⟨v1, ⟨v2, v2b, v2c, v2d⟩, v3, v4, v5, v6, v7⟩ := hv e ((hE e).mp hz)
      exact ⟨by omega, ⟨(hE _).mpr v2, v2b, v2c, v2d⟩, v3, v4, v5, v6, fun e2 hz2 => v7 e2 ((hE e2).mp hz2)⟩
    have hB2 : ∀ {w : Int32}, zB pl ex w wy ur uk uy → zB (pl + 1) ex w wy ur uk uy := fun hB => ⟨hB.1, hB.2.1, hB.2.2.1, fun k hk => by
      obtain ⟨a1, e, a2, a3⟩ := hB.2.2.2.1 k hk
      exact ⟨a1, e, a2, (hE e).mpr a3⟩, hB.2.2.2.2⟩
    have hM2 : zM pl ex mx ms xe sg → zM (pl + 1) ex mx ms xe sg := fun hM k hk => by
      rcases hM k hk with a | ⟨a1, a2, a3, a4, a5⟩
      · exact Or.inl a
      · exact Or.inr ⟨a1, a2, a3, by omega, a5⟩
    have e0 : FL_addPlace pl ot = (0, pl + 1, vp_updL ot (0 : Int32).toNatClampNeg (pl + 1 - 1).toInt64) := by
      unfold FL_addPlace FX3_addPlace
      rw [if_pos c]
      rfl
    by_cases cp : pl = 0
    · refine ⟨0, pl + 1 - 1, pl + 1, 0, _, e0, ?_, fun _ => zot, hL2, hs, hgu, hiv, Or.inl ?_⟩
      · unfold FX5_addPlace
        rw [if_neg (by rw [cp]; decide), if_pos cp]
      · rcases hC with h | h
        · have := h.2.1
          rw [cp, show (0 : Int32).toInt = 0 from rfl] at this
          omega
        · obtain ⟨b1, b2, b3, b4, b5, b6, b7, b8⟩ := h
          refine ⟨b2.symm, ⟨by rw [b2, show (0 : Int32).toInt = 0 from rfl]; omega, ?_, hM2 b7, Or.inl ⟨b4, b5, b8⟩⟩⟩
          rw [b5]
          exact hB2 b6
    · refine ⟨0, pl + 1 - 1, pl + 1, pq, _, e0, ?_, fun _ => zot, hL2, hs, hgu, hiv, Or.inl ?_⟩
      · unfold FX5_addPlace
        rw [if_neg (by rw [xeqI, e10]; omega), if_neg cp]
      · rcases hC with ⟨b0, b1, b2, b3, b4⟩ | h
        · refine ⟨b0, ⟨by omega, hB2 b2, hM2 b3, ?_⟩⟩
          rcases b4 with b4 | ⟨b4, b5, b6⟩
          · exact Or.inl b4
          · exact Or.inr ⟨by omega, b5, fun e hz => b6.1 e ((hE e).mp hz), b6.2.1, fun k hk h => (by obtain ⟨e, a1, a2⟩ := b6.2.2.1 k hk h; exact ⟨e, (hE e).mpr a1, a2⟩), fun e he hz => b6.2.2.2 e he (fun h => hz ((hE e).mpr h))⟩
        · exact absurd h.1 cp
  · have c' := c
    rw [xltI, e10] at c'
    refine ⟨1, 0, pl, pq, ot, ?_, ?_, fun h => absurd h (by decide), hI⟩
    · unfold FL_addPlace FX3_addPlace
      rw [if_neg c]
      rfl
    · unfold FX5_addPlace
      rw [if_pos (by rw [xeqI, e10]; omega)]
      rfl
theorem zo_turnRoad {N : Nat} {pl rs po pq go wl gu iv : Int32} {ex sh ld tw le op rd ml cz wy tr ak mx ms ur uk uy xe sg : Nat → Int32} (hI : zI N pl rs ex sh ld tw le op rd ml cz po pq go wl gu iv wy tr ak mx ms ur uk uy xe sg) (q x : Int32) (ot : Nat → Int64) : ∃ (k b : Int32) (op2 cz2 : Nat → Int32) (ot2 : Nat → Int64), FL_turnRoad pl ex tw op q x ot = (k, op2, ot2) ∧ FX5_turnRoad pl ex rd cz q x = (b, k, cz2) ∧ (k = 0 → ot2 0 = if b = 0 then 0 else 1) ∧ zI N pl rs ex sh ld tw le op2 rd ml cz2 po pq go wl gu iv wy tr ak mx ms ur uk uy xe sg := by
  obtain ⟨⟨hpl, hex4, hex0, hld, htw, hop, hrs, hrd, hcz, hv, hnv⟩, hs, hgu, hiv, hC⟩ := id hI
  rcases zexc hpl hex4 q x with ⟨h1, h2⟩ | ⟨j, i, h1, h2, h3, h4, h5, h6, h7, h8⟩
  · refine ⟨1, 0, op, cz, ot, ?_, ?_, fun h => absurd h (by decide), hI⟩
    · unfold FL_turnRoad FX3_turnRoad
      rw [zce0 h1]; rfl
    · unfold FX5_turnRoad
      rw [h2]; rfl
  · have h40 := h6.1
    obtain ⟨e, he⟩ : ∃ e, e = 4 * j + i := ⟨_, rfl⟩
    rw [← he] at h6 h7 h40
    obtain ⟨v1, ⟨v2, v2b, v2c, v2d⟩, v3, v4, v5, v6, v7⟩ := hv _ h6
    have t40 := v2.1
    have hE4 : 4 * q + x = nI e := by rw [h1, h2, z4, he]
    have r20 := xcl (hrd e h40)
    -- the land with the road turned
    have hL2 : ∀ n : Int32, n = 0 ∨ n = 1 → zI N pl rs ex sh ld tw le (upd (upd op e n) (tw e).toNatClampNeg n) rd ml (upd cz (rd e).toNatClampNeg (if n = 0 then 1 else 0)) po pq go wl gu iv wy tr ak mx ms ur uk uy xe sg := by
      intro n hn
      have hu : ∀ k, upd (upd op e n) (tw e).toNatClampNeg n k = if k = e ∨ k = (tw e).toNatClampNeg then n else op k := by
        intro k
        by_cases c1 : k = (tw e).toNatClampNeg
        · rw [c1, pk_us, if_pos (Or.inr rfl)]
        · rw [pk_un c1]
          by_cases c2 : k = e
          · rw [c2, pk_us, if_pos (Or.inl rfl)]
          · rw [pk_un c2, if_neg (fun h => h.elim c2 c1)]
      refine ⟨⟨hpl, hex4, hex0, hld, htw, fun k hk => ?_, hrs, hrd, fun k hk => ?_, fun e2 hz2 => ?_, fun k hk hz => ?_⟩, hs, hgu, hiv, hC⟩
      · rw [hu]
        split
        · exact hn
        · exact hop k hk
      · by_cases c1 : k = (rd e).toNatClampNeg
        · rw [c1, pk_us]
          rcases hn with h | h
          · rw [h, if_pos rfl]; exact Or.inr rfl
          · rw [h, if_neg (by decide)]; exact Or.inl rfl
        · rw [pk_un c1]; exact hcz k hk
      · obtain ⟨w1, w2, w3, w4, w5, w6, w7⟩ := hv e2 hz2
        refine ⟨w1, w2, w3, w4, w5, ?_, w7⟩
        rw [hu]
        have q := v7 e2 hz2
        by_cases c1 : e2 = e ∨ e2 = (tw e).toNatClampNeg
        · rw [if_pos c1, ← q.mpr c1, pk_us]
          rcases hn with h | h
          · rw [h, if_pos rfl]; exact ⟨fun _ => by decide, fun _ => rfl⟩
          · rw [h, if_neg (by decide : ¬ (1 : Int32) = 0)]; exact ⟨fun h => absurd h (by decide), fun h => absurd rfl h⟩
        · have c2 : ¬ (rd e2).toNatClampNeg = (rd e).toNatClampNeg := fun h => c1 (q.mp (by rw [← znI (hrd e h40).1, ← znI (hrd e2 hz2.1).1, h]))
          rw [if_neg c1, pk_un c2]
          exact w6
      · rw [hu, if_neg]
        · exact hnv k hk hz
        · intro h
          rcases h with h | h
          · rw [h] at hz; exact hz h6
          · rw [h] at hz; exact hz v2
    have e0 : FL_turnRoad pl ex tw op q x ot = if op e = 0 then (0, upd (upd op e 1) (tw e).toNatClampNeg 1, vp_updL ot (0 : Int32).toNatClampNeg 1) else (0, upd (upd op e 0) (tw e).toNatClampNeg 0, vp_updL ot (0 : Int32).toNatClampNeg 0) := by
      have e1 : FX1_turnEnd tw op (nI e) = if op e = 0 then (1, upd (upd op e 1) (tw e).toNatClampNeg 1) else (0, upd (upd op e 0) (tw e).toNatClampNeg 0) := by
        rw [FX1_turnEnd_eq, zis h40, if_neg (by decide), nI_clamp (by omega)]
      unfold FL_turnRoad FX3_turnRoad
      rw [zce1 h7 h40]
      by_cases c : op e = 0
      · rw [if_pos c] at e1 ⊢
        show yc3 (0, (FX1_turnEnd tw op (nI e)).1, (FX1_turnEnd tw op (nI e)).2) _ _ = _
        rw [e1]
        rfl
      · rw [if_neg c] at e1 ⊢
        show yc3 (0, (FX1_turnEnd tw op (nI e)).1, (FX1_turnEnd tw op (nI e)).2) _ _ = _
        rw [e1]
        rfl
    have e1 : FX5_turnRoad pl ex rd cz q x = if cz (rd e).toNatClampNeg = 0 then (0, 0, upd cz (rd e).toNatClampNeg 1) else (1, 0, upd cz (rd e).toNatClampNeg 0) := by
      unfold FX5_turnRoad xbind
      try dsimp only
      rw [h8, if_neg (by decide), hE4, nI_clamp (by omega)]
      by_cases c : cz (rd e).toNatClampNeg = 0
      · rw [if_pos c, if_pos c, pk_us, if_neg (by decide)]
      · rw [if_neg c, if_neg c, pk_us, if_pos rfl]
    by_cases c : op e = 0
    · refine ⟨0, 1, _, _, vp_updL ot (0 : Int32).toNatClampNeg 1, ?_, ?_, fun _ => zot, hL2 1 (Or.inr rfl)⟩
      · rw [e0, if_pos c]
      · rw [e1, if_neg (v6.mp c)]
        rfl
    · refine ⟨0, 0, _, _, vp_updL ot (0 : Int32).toNatClampNeg 0, ?_, ?_, fun _ => zot, hL2 0 (Or.inl rfl)⟩
      · rw [e0, if_neg c]
      · rw [e1, if_pos (Classical.byContradiction fun h => c (v6.mpr h))]
        rfl
theorem zo_turnShepherd {N : Nat} {pl rs po pq go wl gu iv : Int32} {ex sh ld tw le op rd ml cz wy tr ak mx ms ur uk uy xe sg : Nat → Int32} (hI : zI N pl rs ex sh ld tw le op rd ml cz po pq go wl gu iv wy tr ak mx ms ur uk uy xe sg) (q : Int32) (ot : Nat → Int64) : ∃ (k b : Int32) (sh2 : Nat → Int32) (ot2 : Nat → Int64), FL_turnShepherd pl sh q ot = (k, sh2, ot2) ∧ FX5_turnShepherd pl sh q = (b, k, sh2) ∧ (k = 0 → ot2 0 = if b = 0 then 0 else 1) ∧ zI N pl rs ex sh2 ld tw le op rd ml cz po pq go wl gu iv wy tr ak mx ms ur uk uy xe sg := by
  rcases zplc hI.1.1 q with ⟨h1, h2⟩ | ⟨j, h1, h2, h3, h4⟩
  · refine ⟨1, 0, sh, ot, ?_, ?_, fun h => absurd h (by decide), hI⟩
    · unfold FL_turnShepherd FX3_turnShepherd
      rw [zcp0 h1]; rfl
    · unfold FX5_turnShepherd
      rw [h2]; rfl
  · have hs : ∀ n : Int32, n = 0 ∨ n = 1 → ∀ k, k < 10 → upd sh q.toNatClampNeg n k = 0 ∨ upd sh q.toNatClampNeg n k = 1 := fun n hn k hk => by
      by_cases c : k = q.toNatClampNeg
      · rw [c, pk_us]; exact hn
      · rw [pk_un c]; exact hI.2.1 k hk
    by_cases c : sh q.toNatClampNeg = 0
    · refine ⟨0, 1, upd sh q.toNatClampNeg 1, vp_updL ot (0 : Int32).toNatClampNeg 1, ?_, ?_, fun _ => zot, ⟨hI.1, hs 1 (Or.inr rfl), hI.2.2⟩⟩
      · unfold FL_turnShepherd FX3_turnShepherd
        rw [zcp1 h3, if_pos c, pk_us]; rfl
      · unfold FX5_turnShepherd xbind
        try dsimp only
        rw [h4, if_neg (by decide), if_pos c, pk_us]
    · refine ⟨0, 0, upd sh q.toNatClampNeg 0, vp_updL ot (0 : Int32).toNatClampNeg 0, ?_, ?_, fun _ => zot, ⟨hI.1, hs 0 (Or.inl rfl), hI.2.2⟩⟩
      · unfold FL_turnShepherd FX3_turnShepherd
        rw [zcp1 h3, if_neg c, pk_us]; rfl
      · unfold FX5_turnShepherd xbind
        try dsimp only
        rw [h4, if_neg (by decide), if_neg c, pk_us]
theorem zrg {q m : Int32} : (FX3_checkRange q m = (2, ()) ∧ FX5_isIn q 1 m = 0) ∨ ((1 ≤ q.toInt ∧ q.toInt ≤ m.toInt) ∧ FX3_checkRange q m = (0, ()) ∧ FX5_isIn q 1 m = 1) := by
  have e1 : (1 : Int32).toInt = 1 := rfl
  unfold FX3_checkRange
  by_cases c : 1 ≤ q.toInt ∧ q.toInt ≤ m.toInt
  · right
    exact ⟨c, by rw [if_neg (by rw [xltI, e1]; omega), if_pos (by rw [xle]; omega)], zin1 (by rw [e1]; exact c)⟩
  · left
    refine ⟨?_, zin0 (by rw [e1]; exact c)⟩
    by_cases c0 : q < 1
    · rw [if_pos c0]
    · rw [xltI, e1] at c0
      rw [if_neg (by rw [xltI, e1]; exact c0), if_neg (by rw [xle]; omega)]
theorem zo_pay (co nn : Int32) (ot : Nat → Int64) : ∃ (k b co2 : Int32) (ot2 : Nat → Int64), FL_pay co nn ot = (k, co2, ot2) ∧ FX5_pay co nn = (b, k, co2) ∧ (k = 0 → ot2 0 = b.toInt64) := by
  rcases zrg (q := nn) (m := 99) with ⟨h1, h2⟩ | ⟨-, h1, h2⟩
  · refine ⟨1, 0, co, ot, ?_, ?_, fun h => absurd h (by decide)⟩
    · unfold FL_pay FX3_pay
      rw [h1]; rfl
    · unfold FX5_pay
      rw [h2]; rfl
  · refine ⟨0, if co + nn < 99 then co + nn else 99, if co + nn < 99 then co + nn else 99, vp_updL ot (0 : Int32).toNatClampNeg (if co + nn < 99 then co + nn else 99 : Int32).toInt64, ?_, ?_, fun _ => zot⟩
    · unfold FL_pay FX3_pay
      rw [h1]; rfl
    · unfold FX5_pay
      rw [h2]; rfl
theorem zci0 {go : Int32} (h : go = -1) : FX3_checkIdle go = (0, ()) ∧ FX3_checkUnderway go = (3, ()) := by
  unfold FX3_checkIdle FX3_checkUnderway
  rw [zun1 h]
  exact ⟨rfl, rfl⟩
theorem zci1 {go : Int32} (h : ¬ go = -1) : FX3_checkIdle go = (3, ()) ∧ FX3_checkUnderway go = (0, ()) := by
  unfold FX3_checkIdle FX3_checkUnderway
  rw [zun2 h]
  exact ⟨rfl, rfl⟩
theorem zgo1 {pl ex rd go wl : Int32} {a : Prop} {P : Prop} (h : (go = -1 ∧ wl = 0 ∧ a) ∨ P) (h2 : P → ¬ go = -1) (h3 : go = -1) : wl = 0 ∧ a := by
  rcases h with h | h
  · exact h.2
  · exact absurd h3 (h2 h)
theorem zo_giveUp {N : Nat} {pl rs po pq go wl gu iv : Int32} {ex sh ld tw le op rd ml cz wy tr ak mx ms ur uk uy xe sg : Nat → Int32} (hI : zI N pl rs ex sh ld tw le op rd ml cz po pq go wl gu iv wy tr ak mx ms ur uk uy xe sg) (ot : Nat → Int64) : ∃ (k b go2 wl2 : Int32) (ur2 uk2 : Nat → Int32) (ot2 : Nat → Int64), FL_giveUp go wl ot = (k, go2, wl2, ot2) ∧ FX5_giveUp go wl ur uk = (b, k, go2, wl2, ur2, uk2) ∧ (k = 0 → ot2 0 = b.toInt64) ∧ zI N pl rs ex sh ld tw le op rd ml cz po pq go2 wl2 gu iv wy tr ak mx ms ur2 uk2 uy xe sg := by
  by_cases c : go = -1
  · refine ⟨1, 0, go, wl, ur, uk, ot, ?_, ?_, fun h => absurd h (by decide), hI⟩
    · unfold FL_giveUp FX3_giveUp
      rw [(zci0 c).2]; rfl
    · unfold FX5_giveUp
      rw [if_pos c]; rfl
  · obtain ⟨z2, z5, h1, h2, h3⟩ := zendz ur uk
    refine ⟨0, wl, -1, 0, z2, z5, vp_updL ot (0 : Int32).toNatClampNeg wl.toInt64, ?_, ?_, fun _ => zot, hI.1, hI.2.1, hI.2.2.1, hI.2.2.2.1, ?_⟩
    · unfold FL_giveUp FX3_giveUp
      rw [(zci1 c).2]; rfl
    · unfold FX5_giveUp xbind
      try dsimp only
      rw [if_neg c, h1]
    · rcases hI.2.2.2.2 with ⟨b0, b1, b2, b3, b4⟩ | h
      · refine Or.inl ⟨b0, b1, ⟨fun k hk => Or.inl (h2 k hk), fun k hk => Or.inl (h3 k hk), ⟨by decide, by rw [show (0 : Int32).toInt = 0 from rfl]; omega⟩, fun k hk => ?_, b2.2.2.2.2⟩, b3, Or.inl ⟨rfl, rfl, h2⟩⟩
        rw [show (0 : Int32).toInt = 0 from rfl] at hk
        omega
      · exact absurd h.2.2.2.1 c
theorem zo_beginErrand {N : Nat} {pl rs po pq go wl gu iv : Int32} {ex sh ld tw le op rd ml cz wy tr ak mx ms ur uk uy xe sg : Nat → Int32} (hI : zI N pl rs ex sh ld tw le op rd ml cz po pq go wl gu iv wy tr ak mx ms ur uk uy xe sg) (g dn : Int32) (fa fb : Nat → Int32) (ot : Nat → Int64) : ∃ (k b go2 wl2 dn2 : Int32) (tr2 ak2 fa2 ur2 uk2 fb2 : Nat → Int32) (ot2 : Nat → Int64), FL_beginErrand po go wl dn tr ak pl ld le op fa g ot = (k, go2, wl2, dn2, tr2, ak2, fa2, ot2) ∧ FX5_beginErrand pl ex rd ld ml cz fb pq go wl dn ur uk g = (b, k, go2, wl2, dn2, ur2, uk2, fb2) ∧ (k = 0 → ot2 0 = b.toInt64) ∧ zI N pl rs ex sh ld tw le op rd ml cz po pq go2 wl2 gu iv wy tr2 ak2 mx ms ur2 uk2 uy xe sg := by
  have hpl := hI.1.1
  rcases zplc hI.1.1 g with ⟨h1, h2⟩ | ⟨j, h1, h2, h3, h4⟩
  · refine ⟨1, 0, go, wl, dn, tr, ak, fa, ur, uk, fb, ot, ?_, ?_, fun h => absurd h (by decide), hI⟩
    · unfold FL_beginErrand FX3_beginErrand
      rw [zcp0 h1]; rfl
    · unfold FX5_beginErrand
      rw [h2]; rfl
  · have hC := zI_C hI (by omega)
    by_cases c : go = -1
    · have hji : (nI j).toInt = j := nI_toInt (by omega)
      have hw : wl = 0 ∧ ∀ k, k < 20 → ur k = 0 := by
        rcases hC.2.2.2.2 with h | h
        · exact h.2
        · exact absurd c (zgm h.1)
      have hs := zshort hI.1 fa fb (q := po) (g := g) hC.2.1 (by rw [h1, hji]; omega)
      obtain ⟨y2, y5, yb1, yb2, yb3⟩ := zbeg0 po dn g tr ak
      have e0 : FL_beginErrand po go wl dn tr ak pl ld le op fa g ot = (0, (FX0_begin po dn tr ak g).1, (FX0_begin po dn tr ak g).2.1, (FX0_begin po dn tr ak g).2.2.1, (FX0_begin po dn tr ak g).2.2.2.1, (FX0_begin po dn tr ak g).2.2.2.2, (FX1_shortest pl ld le op fa po g).2, vp_updL ot (0 : Int32).toNatClampNeg (FX1_shortest pl ld le op fa po g).1.toInt64) := by
        unfold FL_beginErrand FX3_beginErrand
        rw [zcp1 h3, (zci0 c).1]; rfl
      have e1 : FX5_beginErrand pl ex rd ld ml cz fb pq go wl dn ur uk g = ((FX5_milesBetween pl ex rd ld ml cz fb po g).1, 0, (FX5_start po go wl dn ur uk g).1, (FX5_start po go wl dn ur uk g).2.1, (FX5_start po go wl dn ur uk g).2.2.1, (FX5_start po go wl dn ur uk g).2.2.2.1, (FX5_start po go wl dn ur uk g).2.2.2.2, (FX5_milesBetween pl ex rd ld ml cz fb po g).2) := by
        unfold FX5_beginErrand xbind xbind2
        try dsimp only
        rw [h4, if_neg (by decide), if_pos c, hC.1]
      rw [e0, e1, hs, yb1]
      by_cases cp : po = g
      · have e5 : FX5_start po go wl dn ur uk g = (go, wl, dn + 1, ur, uk) := if_pos cp.symm
        rw [if_pos cp, e5]
        refine ⟨0, _, -1, 0, dn + 1, y2, y5, _, ur, uk, _, _, rfl, by rw [c, hw.1], fun _ => zot, hI.1, hI.2.1, hI.2.2.1, hI.2.2.2.1, Or.inl ⟨hC.1, hC.2.1, ?_, hC.2.2.2.1, Or.inl ⟨rfl, rfl, hw.2⟩⟩⟩
        have hB := hC.2.2.1
        rw [hw.1] at hB
        exact hB
      · obtain ⟨z2, z5, zb1, zb2, zb3⟩ := zbeg ur uk g
        have e5 : FX5_start po go wl dn ur uk g = (g, 0, dn, z2, z5) := by
          unfold FX5_start xbind
          try dsimp only
          rw [if_neg (fun h => cp h.symm), zb1]
        rw [if_neg cp, e5]
        obtain ⟨s1, s2⟩ := zstart hI.1 (wy := wy) yb2 yb3 zb2 zb3 hC.2.2.1.2.2.2.2
        exact ⟨0, _, g, 0, dn, y2, y5, _, z2, z5, _, _, rfl, rfl, fun _ => zot, hI.1, hI.2.1, hI.2.2.1, hI.2.2.2.1, Or.inl ⟨hC.1, hC.2.1, s1, hC.2.2.2.1, Or.inr ⟨by rw [h1, hji]; omega, cp, s2⟩⟩⟩
    · refine ⟨2, 0, go, wl, dn, tr, ak, fa, ur, uk, fb, ot, ?_, ?_, fun h => absurd h (by decide), hI⟩
      · unfold FL_beginErrand FX3_beginErrand
        rw [zcp1 h3, (zci1 c).1]; rfl
      · unfold FX5_beginErrand
        rw [h4]
        exact if_neg c
set_option maxHeartbeats 4000000 in
set_option maxRecDepth 100000 in
theorem zo_goOn {N : Nat} {pl rs po pq go wl gu iv : Int32} {ex sh ld tw le op rd ml cz wy tr ak mx ms ur uk uy xe sg : Nat → Int32} (hI : zI N pl rs ex sh ld tw le op rd ml cz po pq go wl gu iv wy tr ak mx ms ur uk uy xe sg) (hN : N < 1000000) (nst co wk db dn qs : Int32) (fa fb : Nat → Int32) (ot : Nat → Int64) : ∃ (k b : Int32) (po2 co2 go2 wl2 wk2 db2 dn2 iv2 qs2 : Int32) (wy2 tr2 ak2 mx2 ms2 fa2 ur2 uk2 uy2 xe2 sg2 fb2 : Nat → Int32) (pq2 : Int32) (ot2 : Nat → Int64), FL_goOn po co go wl gu wk db dn iv qs wy tr ak mx ms pl ex sh ld tw le op fa nst ot = (k, po2, co2, go2, wl2, wk2, db2, dn2, iv2, qs2, wy2, tr2, ak2, mx2, ms2, fa2, ot2) ∧ FX5_goOn pl ex rd ld ml cz sh fb pq co go wl wk db dn iv qs ur uk uy xe sg nst = (b, k, pq2, co2, go2, wl2, wk2, db2, dn2, iv2, qs2, ur2, uk2, uy2, xe2, sg2, fb2) ∧ (k = 0 → ot2 0 = b.toInt64) ∧ zI (N + 1) pl rs ex sh ld tw le op rd ml cz po2 pq2 go2 wl2 gu iv2 wy2 tr2 ak2 mx2 ms2 ur2 uk2 uy2 xe2 sg2 := by
  have hI1 := zI_up hI (N2 := N + 1) (by omega)
  rcases zrg (q := nst) (m := 100) with ⟨h1, h2⟩ | ⟨h0, h1, h2⟩
  · refine ⟨1, 0, po, co, go, wl, wk, db, dn, iv, qs, wy, tr, ak, mx, ms, fa, ur, uk, uy, xe, sg, fb, pq, ot, ?_, ?_, fun h => absurd h (by decide), hI1⟩
    · unfold FL_goOn FX3_goOn
      rw [h1]; rfl
    · unfold FX5_goOn
      rw [h2]; rfl
  · by_cases c : go = -1
    · refine ⟨2, 0, po, co, go, wl, wk, db, dn, iv, qs, wy, tr, ak, mx, ms, fa, ur, uk, uy, xe, sg, fb, pq, ot, ?_, ?_, fun h => absurd h (by decide), hI1⟩
      · unfold FL_goOn FX3_goOn
        rw [h1, (zci0 c).2]; rfl
      · unfold FX5_goOn
        rw [h2]
        exact if_pos c
    · rcases hI.2.2.2.2 with ⟨b0, hC⟩ | h
      · have e100 : (100 : Int32).toInt = 100 := rfl
        have hz := zgoOn hI.1 (kw := 0) (kd := 0) (kn := 0) (ki := 0) (kq := 0) (gu := gu) (nst := nst) (sh := sh) (sh2 := sh) (fun p hp => ⟨fun h => ⟨h, by have := hI.1.1; rw [hI.2.2.1]; exact zm1 (by omega)⟩, fun h => h.1⟩) 101 10000 0 po co go wl wk db dn iv qs wy tr ak mx ms fa ur uk uy xe sg fb (by omega) (by omega) (by omega) hC
        obtain ⟨j, po2, co2, go2, wl2, wk2, db2, dn2, iv2, qs2, wy2, tr2, ak2, mx2, ms2, fa2, ur2, uk2, uy2, xe2, sg2, fb2, k1, k2, k3, k4⟩ := hz
        rw [Int32.add_zero, Int32.add_zero, Int32.add_zero, Int32.add_zero, Int32.add_zero, Int32.add_zero, Int32.add_zero, Int32.add_zero, Int32.add_zero, Int32.add_zero] at k2
        refine ⟨0, nI j, po2, co2, go2, wl2, wk2, db2, dn2, iv2, qs2, wy2, tr2, ak2, mx2, ms2, fa2, ur2, uk2, uy2, xe2, sg2, fb2, po2, vp_updL ot (0 : Int32).toNatClampNeg (nI j).toInt64, ?_, ?_, fun _ => zot, hI.1, hI.2.1, hI.2.2.1, ?_, Or.inl ⟨rfl, k3⟩⟩
        · unfold FL_goOn FX3_goOn
          rw [h1, (zci1 c).2, k1]
          rfl
        · unfold FX5_goOn FX5_stepsOn xbind xbind2
          try dsimp only
          rw [h2, if_neg (by decide), if_neg c, b0, k2]
        · have hiv := hI.2.2.2.1
          rcases k4 with k4 | k4
          · rw [k4]; omega
          · rw [k4, zadd (by rw [show (1 : Int32).toInt = 1 from rfl]; omega), show (1 : Int32).toInt = 1 from rfl]; omega
      · exact absurd h.2.2.2.1 c
