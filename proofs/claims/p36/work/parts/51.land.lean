/-! both lands, one beside the other: what holds between the class's rows and the reference's; what each measures -/
theorem znat {x : Int32} (h : 0 ≤ x.toInt) : ((x.toNatClampNeg : Nat) : Int) = x.toInt := by
  obtain ⟨j, h1, h2, h3⟩ := xofI h
  rw [h2, nI_clamp h1, nI_toInt h1]
theorem znI {x : Int32} (h : 0 ≤ x.toInt) : nI x.toNatClampNeg = x := by
  obtain ⟨j, h1, h2, h3⟩ := xofI h
  rw [h2, nI_clamp h1]
theorem zdv {i : Nat} (h : i < 40) : (nI i / 4).toNatClampNeg = i / 4 := by
  rw [show (4 : Int32) = nI 4 from rfl, pk_div (by omega) (by decide) (by decide), nI_clamp (by omega)]
theorem zdvI {i : Nat} (h : i < 40) : nI i / 4 = nI (i / 4) := by
  rw [show (4 : Int32) = nI 4 from rfl, pk_div (by omega) (by decide) (by decide)]
theorem zrm {i : Nat} (h : i < 40) : nI i - nI i / 4 * 4 = nI (i % 4) := by
  rw [show (4 : Int32) = nI 4 from rfl, pk_rem (by omega) (by decide) (by decide)]
theorem zadd {a b : Int32} (h : -2147483648 ≤ a.toInt + b.toInt ∧ a.toInt + b.toInt < 2147483648) : (a + b).toInt = a.toInt + b.toInt := by
  rw [Int32.toInt_add, Int.bmod_eq_of_le (by omega) (by omega)]
abbrev zq (f : Nat → Int32) (i : Nat) : Nat := (f i).toNatClampNeg
/-- an end of a road -/
def zE (pl : Int32) (ex : Nat → Int32) (e : Nat) : Prop := e < 40 ∧ ((e / 4 : Nat) : Int) < pl.toInt ∧ ((e % 4 : Nat) : Int) < (ex (e / 4)).toInt
def zeo (pl : Int32) (ex op : Nat → Int32) (e : Nat) : Bool := decide (e < 40) && (decide (((e / 4 : Nat) : Int) < pl.toInt) && (decide (((e % 4 : Nat) : Int) < (ex (e / 4)).toInt) && !decide (op e = 0)))
theorem zeo_iff {pl : Int32} {ex op : Nat → Int32} {e : Nat} : zeo pl ex op e = true ↔ zE pl ex e ∧ ¬ op e = 0 := by
  unfold zeo zE
  rw [Bool.and_eq_true, Bool.and_eq_true, Bool.and_eq_true, Bool.not_eq_true', decide_eq_true_eq, decide_eq_true_eq, decide_eq_true_eq, decide_eq_false_iff_not]
  exact ⟨fun h => ⟨⟨h.1, h.2.1, h.2.2.1⟩, h.2.2.2⟩, fun h => ⟨h.1.1, h.1.2.1, h.1.2.2, h.2⟩⟩
def zEp (pl rs : Int32) (ex ld tw le op rd ml cz : Nat → Int32) (e : Nat) : Prop := (ld e).toInt < pl.toInt ∧ (zE pl ex (tw e).toNatClampNeg ∧ tw (tw e).toNatClampNeg = nI e ∧ (tw e).toNatClampNeg ≠ e ∧ ld e = nI ((tw e).toNatClampNeg / 4)) ∧ (1 ≤ (le e).toInt ∧ (le e).toInt ≤ 9) ∧ (rd e).toInt < rs.toInt ∧ ml (rd e).toNatClampNeg = le e ∧ (op e = 0 ↔ ¬ cz (rd e).toNatClampNeg = 0) ∧ (∀ e2, zE pl ex e2 → (rd e = rd e2 ↔ (e2 = e ∨ e2 = (tw e).toNatClampNeg)))
/-- the class's land beside the reference's -/
def zL (pl rs : Int32) (ex ld tw le op rd ml cz : Nat → Int32) : Prop := (0 ≤ pl.toInt ∧ pl.toInt ≤ 10) ∧ (∀ k, k < 10 → 0 ≤ (ex k).toInt ∧ (ex k).toInt ≤ 4) ∧ (∀ k : Nat, k < 10 → pl.toInt ≤ k → (ex k).toInt = 0) ∧ (∀ k, k < 40 → 0 ≤ (ld k).toInt ∧ (ld k).toInt < 10) ∧ (∀ k, k < 40 → 0 ≤ (tw k).toInt ∧ (tw k).toInt < 40) ∧ (∀ k, k < 40 → op k = 0 ∨ op k = 1) ∧ (0 ≤ rs.toInt ∧ 2 * rs.toInt = ysx 10 ex) ∧ (∀ k, k < 40 → 0 ≤ (rd k).toInt ∧ (rd k).toInt < 20) ∧ (∀ k, k < 20 → cz k = 0 ∨ cz k = 1) ∧ (∀ e, zE pl ex e → zEp pl rs ex ld tw le op rd ml cz e) ∧ (∀ e, e < 40 → ¬ zE pl ex e → op e = 0)
/-- the reference's row of how far beside plain numbers; the class's -/
def zfr (pl : Int32) (fa : Nat → Int32) (f : Nat → Nat) : Prop := ∀ p : Nat, (p : Int) < pl.toInt → (fa p).toInt = (f p : Nat)
def zph (x : Nat) : Int := if x = 9999 then 1000000 else (x : Nat)
def zfc (fa : Nat → Int32) (f : Nat → Nat) : Prop := ∀ p : Nat, p < 10 → (fa p).toInt = zph (f p)
theorem zeE {pl rs : Int32} {ex ld tw le op rd ml cz : Nat → Int32} (hL : zL pl rs ex ld tw le op rd ml cz) {e : Nat} (h : zeo pl ex op e = true) : (e < 40 ∧ zq ld e < 10) ∧ 1 ≤ zq le e := by
  obtain ⟨hpl, hex4, hex0, hld, htw, hop, hrs, hrd, hcz, hv, hnv⟩ := id hL
  obtain ⟨h1, h2⟩ := zeo_iff.mp h
  obtain ⟨v1, v2, v3, v4, v5, v6, v7⟩ := hv e h1
  refine ⟨⟨h1.1, xcl (hld e h1.1)⟩, ?_⟩
  have := znat (x := le e) (by omega)
  show 1 ≤ (le e).toNatClampNeg
  omega
set_option maxHeartbeats 4000000 in
theorem zme {pl rs : Int32} {ex ld tw le op rd ml cz : Nat → Int32} (hL : zL pl rs ex ld tw le op rd ml cz) : ∀ (m i : Nat) (fa : Nat → Int32) (on : Int32) (f : Nat → Nat), i + m = 40 → zfr pl fa f → (∀ p, f p ≤ 9999) → zfr pl (LX5_measure_e pl ex rd ld ml cz (m + 1) i fa on).1 (zps (zeo pl ex op) (zq ld) (zq le) m i f) ∧ (((LX5_measure_e pl ex rd ld ml cz (m + 1) i fa on).2 = on ∧ zps (zeo pl ex op) (zq ld) (zq le) m i f = f) ∨ (LX5_measure_e pl ex rd ld ml cz (m + 1) i fa on).2 = 1) := by
  obtain ⟨hpl, hex4, hex0, hld, htw, hop, hrs, hrd, hcz, hv, hnv⟩ := id hL
  have h4 : (4 * pl : Int32).toInt = 4 * pl.toInt := y4pl hpl
  intro m
  induction m with
  | zero =>
    intro i fa on f hi hf h9
    have c1 : 4 * pl ≤ nI i := by rw [xle, h4, nI_toInt (by omega)]; omega
    have e : LX5_measure_e pl ex rd ld ml cz (0 + 1) i fa on = (fa, on) := by rw [LX5_measure_e, if_pos c1]
    rw [e]
    exact ⟨hf, Or.inl ⟨rfl, rfl⟩⟩
  | succ m ih =>
    intro i fa on f hi hf h9
    by_cases c1 : 4 * pl ≤ nI i
    · have e : LX5_measure_e pl ex rd ld ml cz (m + 1 + 1) i fa on = (fa, on) := by rw [LX5_measure_e, if_pos c1]
      rw [xle, h4, nI_toInt (by omega)] at c1
      have e2 : zps (zeo pl ex op) (zq ld) (zq le) (m + 1) i f = f := zps_no _ _ _ (fun e he1 he2 hE => by
        have h1 := (zeo_iff.mp hE).1.2.1
        omega)
      rw [e, e2]
      exact ⟨hf, Or.inl ⟨rfl, rfl⟩⟩
    · have c1' := c1
      rw [xle, h4, nI_toInt (by omega)] at c1'
      have hi4 : (nI i / 4).toNatClampNeg = i / 4 := zdv (by omega)
      have hcl : (nI i).toNatClampNeg = i := nI_clamp (by omega)
      have ez : zps (zeo pl ex op) (zq ld) (zq le) (m + 1) i f = zps (zeo pl ex op) (zq ld) (zq le) m (i + 1) (zrx (zeo pl ex op) (zq ld) (zq le) f i) := rfl
      by_cases hE : zE pl ex i ∧ cz (rd i).toNatClampNeg = 0
      · obtain ⟨hz, hc⟩ := hE
        obtain ⟨v1, v2, v3, v4, v5, v6, v7⟩ := hv i hz
        have hEb : zeo pl ex op i = true := zeo_iff.mpr ⟨hz, fun h0 => (v6.mp h0) hc⟩
        have c2 : ¬ ex (nI i / 4).toNatClampNeg ≤ nI i - nI i / 4 * 4 := by
          rw [hi4, zrm (by omega), xle, nI_toInt (by omega)]
          have := hz.2.2
          omega
        have q1 : ((zq ld i : Nat) : Int) = (ld i).toInt := znat (hld i (by omega)).1
        have g1 : (fa (ld i).toNatClampNeg).toInt = (f (zq ld i) : Nat) := hf _ (by rw [q1]; exact v1)
        have g2 : (fa (i / 4)).toInt = (f (i / 4) : Nat) := hf _ hz.2.1
        have w1 : ((zq le i : Nat) : Int) = (le i).toInt := znat (by omega)
        have n1 := h9 (zq ld i)
        have n2 := h9 (i / 4)
        have s1 : (fa (ld i).toNatClampNeg + ml (rd i).toNatClampNeg).toInt = ((f (zq ld i) + zq le i : Nat) : Int) := by
          rw [zadd (by rw [g1, v5]; omega), g1, v5]
          omega
        by_cases c4 : f (zq ld i) + zq le i < f (i / 4)
        · have e : LX5_measure_e pl ex rd ld ml cz (m + 1 + 1) i fa on = LX5_measure_e pl ex rd ld ml cz (m + 1) (i + 1) (upd fa (i / 4) (fa (ld i).toNatClampNeg + ml (rd i).toNatClampNeg)) 1 := by
            rw [LX5_measure_e, if_neg c1, if_neg c2, hcl, if_pos hc, hi4, if_pos (by rw [xltI, s1, g2]; omega)]
          have e2 : zrx (zeo pl ex op) (zq ld) (zq le) f i = zup f (i / 4) (f (zq ld i) + zq le i) := if_pos ⟨hEb, c4⟩
          rw [e, ez, e2]
          obtain ⟨t1, t2⟩ := ih (i + 1) (upd fa (i / 4) (fa (ld i).toNatClampNeg + ml (rd i).toNatClampNeg)) 1 (zup f (i / 4) (f (zq ld i) + zq le i)) (by omega) (fun p hp => by
            by_cases c : p = i / 4
            · rw [c, pk_us, zup_s]; exact s1
            · rw [pk_un c, zup_n c]; exact hf p hp) (fun p => by
            by_cases c : p = i / 4
            · rw [c, zup_s]; omega
            · rw [zup_n c]; exact h9 p)
          exact ⟨t1, Or.inr (by rcases t2 with t3 | t3; exact t3.1; exact t3)⟩
        · have e : LX5_measure_e pl ex rd ld ml cz (m + 1 + 1) i fa on = LX5_measure_e pl ex rd ld ml cz (m + 1) (i + 1) fa on := by
            rw [LX5_measure_e, if_neg c1, if_neg c2, hcl, if_pos hc, hi4, if_neg (by rw [xltI, s1, g2]; omega)]
          have e2 : zrx (zeo pl ex op) (zq ld) (zq le) f i = f := if_neg (fun c => c4 c.2)
          rw [e, ez, e2]
          exact ih (i + 1) fa on f (by omega) hf h9
      · have e : LX5_measure_e pl ex rd ld ml cz (m + 1 + 1) i fa on = LX5_measure_e pl ex rd ld ml cz (m + 1) (i + 1) fa on := by
          rw [LX5_measure_e, if_neg c1]
          by_cases c2 : ex (nI i / 4).toNatClampNeg ≤ nI i - nI i / 4 * 4
          · rw [if_pos c2]
          · rw [if_neg c2, hcl, if_neg]
            intro hc
            refine hE ⟨⟨by omega, by omega, ?_⟩, hc⟩
            rw [hi4, zrm (by omega), xle, nI_toInt (by omega)] at c2
            omega
        have e2 : zrx (zeo pl ex op) (zq ld) (zq le) f i = f := if_neg (fun c => hE ⟨(zeo_iff.mp c.1).1, Classical.byContradiction fun h => (zeo_iff.mp c.1).2 ((hv i (zeo_iff.mp c.1).1).2.2.2.2.2.1.mpr h)⟩)
        rw [e, ez, e2]
        exact ih (i + 1) fa on f (by omega) hf h9
set_option maxHeartbeats 4000000 in
theorem zmn {pl rs : Int32} {ex ld tw le op rd ml cz : Nat → Int32} (hL : zL pl rs ex ld tw le op rd ml cz) : ∀ (m i : Nat) (fa : Nat → Int32) (sd : Int32) (f : Nat → Nat) (b : Nat), i + m = 40 → zfc fa f → (∀ p, f p ≤ 9999) → (∀ p, f p = 9999 ∨ f p ≤ b) → b + 9 * m ≤ 9990 → zfc (LX1_measure_n ld le op (m + 1) i fa sd).1 (zps (zeo pl ex op) (zq ld) (zq le) m i f) ∧ (((LX1_measure_n ld le op (m + 1) i fa sd).2 = sd ∧ zps (zeo pl ex op) (zq ld) (zq le) m i f = f) ∨ (LX1_measure_n ld le op (m + 1) i fa sd).2 = 1) ∧ (∀ p, zps (zeo pl ex op) (zq ld) (zq le) m i f p = 9999 ∨ zps (zeo pl ex op) (zq ld) (zq le) m i f p ≤ b + 9 * m) := by
  obtain ⟨hpl, hex4, hex0, hld, htw, hop, hrs, hrd, hcz, hv, hnv⟩ := id hL
  intro m
  induction m with
  | zero =>
    intro i fa sd f b hi hf h9 hb hb9
    have c1 : 40 ≤ nI i := by rw [show (40 : Int32) = nI 40 from rfl, nI_leI (by decide) (by omega)]; omega
    have e : LX1_measure_n ld le op (0 + 1) i fa sd = (fa, sd) := by rw [LX1_measure_n, if_pos c1]
    rw [e]
    exact ⟨hf, Or.inl ⟨rfl, rfl⟩, hb⟩
  | succ m ih =>
    intro i fa sd f b hi hf h9 hb hb9
    have c1 : ¬ 40 ≤ nI i := by rw [show (40 : Int32) = nI 40 from rfl, nI_leI (by decide) (by omega)]; omega
    have hcl : (nI i).toNatClampNeg = i := nI_clamp (by omega)
    have hi4 : (FX3_placeOfEnd (nI i)).toNatClampNeg = i / 4 := zdv (by omega)
    have ez : zps (zeo pl ex op) (zq ld) (zq le) (m + 1) i f = zps (zeo pl ex op) (zq ld) (zq le) m (i + 1) (zrx (zeo pl ex op) (zq ld) (zq le) f i) := rfl
    have g2 := hf (i / 4) (by omega)
    have n2 := h9 (i / 4)
    by_cases hE : zE pl ex i ∧ ¬ op i = 0
    · obtain ⟨hz, hc⟩ := hE
      obtain ⟨v1, v2, v3, v4, v5, v6, v7⟩ := hv i hz
      have hEb : zeo pl ex op i = true := zeo_iff.mpr ⟨hz, hc⟩
      have em : FX1_milesBy ld le op fa (nI i) = le i + fa (ld i).toNatClampNeg := by
        unfold FX1_milesBy
        rw [hcl, if_neg hc]
      have g1 := hf (zq ld i) (xcl (hld i (by omega)))
      have w1 : ((zq le i : Nat) : Int) = (le i).toInt := znat (by omega)
      have n1 := h9 (zq ld i)
      have b1 := hb (zq ld i)
      have p1 : zph (f (zq ld i)) = 1000000 ∧ f (zq ld i) = 9999 ∨ zph (f (zq ld i)) = (f (zq ld i) : Nat) ∧ f (zq ld i) ≤ b := by
        unfold zph
        by_cases c : f (zq ld i) = 9999
        · left; rw [if_pos c]; exact ⟨rfl, c⟩
        · right; rw [if_neg c]; exact ⟨rfl, by omega⟩
      have p2 : zph (f (i / 4)) = 1000000 ∧ f (i / 4) = 9999 ∨ zph (f (i / 4)) = (f (i / 4) : Nat) ∧ f (i / 4) < 9999 := by
        unfold zph
        by_cases c : f (i / 4) = 9999
        · left; rw [if_pos c]; exact ⟨rfl, c⟩
        · right; rw [if_neg c]; exact ⟨rfl, by omega⟩
      have s1 : (le i + fa (ld i).toNatClampNeg).toInt = (le i).toInt + zph (f (zq ld i)) := by
        rw [zadd (by rw [g1]; omega), g1]
      by_cases c4 : f (zq ld i) + zq le i < f (i / 4)
      · have e : LX1_measure_n ld le op (m + 1 + 1) i fa sd = LX1_measure_n ld le op (m + 1) (i + 1) (upd fa (i / 4) (le i + fa (ld i).toNatClampNeg)) 1 := by
          rw [LX1_measure_n, if_neg c1]
          unfold xbind
          try dsimp only
          rw [em, hi4, if_neg (by rw [xle, s1, g2]; omega)]
        have e2 : zrx (zeo pl ex op) (zq ld) (zq le) f i = zup f (i / 4) (f (zq ld i) + zq le i) := if_pos ⟨hEb, c4⟩
        rw [e, ez, e2]
        obtain ⟨t1, t2, t3⟩ := ih (i + 1) (upd fa (i / 4) (le i + fa (ld i).toNatClampNeg)) 1 (zup f (i / 4) (f (zq ld i) + zq le i)) (b + 9) (by omega) (fun p hp => by
          by_cases c : p = i / 4
          · rw [c, pk_us, zup_s, s1]
            have : zph (f (zq ld i) + zq le i) = ((f (zq ld i) + zq le i : Nat) : Int) := if_neg (by omega)
            rw [this]
            omega
          · rw [pk_un c, zup_n c]; exact hf p hp) (fun p => by
          by_cases c : p = i / 4
          · rw [c, zup_s]; omega
          · rw [zup_n c]; exact h9 p) (fun p => by
          by_cases c : p = i / 4
          · rw [c, zup_s]; omega
          · rw [zup_n c]; have := hb p; omega) (by omega)
        refine ⟨t1, Or.inr (by rcases t2 with t4 | t4; exact t4.1; exact t4), fun p => ?_⟩
        have := t3 p
        omega
      · have e : LX1_measure_n ld le op (m + 1 + 1) i fa sd = LX1_measure_n ld le op (m + 1) (i + 1) fa sd := by
          rw [LX1_measure_n, if_neg c1]
          unfold xbind
          try dsimp only
          rw [em, hi4, if_pos (by rw [xle, s1, g2]; omega)]
        have e2 : zrx (zeo pl ex op) (zq ld) (zq le) f i = f := if_neg (fun c => c4 c.2)
        rw [e, ez, e2]
        obtain ⟨t1, t2, t3⟩ := ih (i + 1) fa sd f (b + 9) (by omega) hf h9 (fun p => by have := hb p; omega) (by omega)
        exact ⟨t1, t2, fun p => by have := t3 p; omega⟩
    · have hc : op i = 0 := by
        by_cases hz : zE pl ex i
        · exact Classical.byContradiction fun h => hE ⟨hz, h⟩
        · exact hnv i (by omega) hz
      have em : FX1_milesBy ld le op fa (nI i) = 1000000 := by
        unfold FX1_milesBy
        rw [hcl, if_pos hc]
      have e : LX1_measure_n ld le op (m + 1 + 1) i fa sd = LX1_measure_n ld le op (m + 1) (i + 1) fa sd := by
        rw [LX1_measure_n, if_neg c1]
        unfold xbind
        try dsimp only
        rw [em, hi4, if_pos]
        rw [xle, g2, show (1000000 : Int32).toInt = 1000000 from rfl]
        unfold zph
        split <;> omega
      have e2 : zrx (zeo pl ex op) (zq ld) (zq le) f i = f := if_neg (fun c => hE ⟨(zeo_iff.mp c.1).1, (zeo_iff.mp c.1).2⟩)
      rw [e, ez, e2]
      obtain ⟨t1, t2, t3⟩ := ih (i + 1) fa sd f (b + 9) (by omega) hf h9 (fun p => by have := hb p; omega) (by omega)
      exact ⟨t1, t2, fun p => by have := t3 p; omega⟩
/-- what the reference's passes come to -/
theorem zmw {pl rs : Int32} {ex ld tw le op rd ml cz : Nat → Int32} (hL : zL pl rs ex ld tw le op rd ml cz) {g : Nat} : ∀ (n : Nat) (fa : Nat → Int32) (on : Int32) (f : Nat → Nat), (LX5_measure_w pl ex rd ld ml cz n fa on).1 = 0 → zfr pl fa f → (∀ p, f p ≤ 9999) → zsu (zeo pl ex op) (zq ld) (zq le) g f → (on = 0 → ∀ e, zeo pl ex op e = true → f (e / 4) ≤ f (zq ld e) + zq le e) → ∃ F : Nat → Nat, zfr pl (LX5_measure_w pl ex rd ld ml cz n fa on).2.1 F ∧ (∀ p, F p ≤ f p) ∧ zsu (zeo pl ex op) (zq ld) (zq le) g F ∧ (∀ e, zeo pl ex op e = true → F (e / 4) ≤ F (zq ld e) + zq le e)
  | 0, fa, on, f, h, _, _, _, _ => absurd h (by unfold LX5_measure_w; exact Nat.one_ne_zero)
  | n + 1, fa, on, f, h, hf, h9, hs, h0 => by
    by_cases c : on = 0
    · have e : LX5_measure_w pl ex rd ld ml cz (n + 1) fa on = (0, fa, on) := by rw [LX5_measure_w, if_pos c]
      rw [e]
      exact ⟨f, hf, fun p => Nat.le_refl _, hs, h0 c⟩
    · have e : LX5_measure_w pl ex rd ld ml cz (n + 1) fa on = LX5_measure_w pl ex rd ld ml cz n (LX5_measure_e pl ex rd ld ml cz 41 0 fa 0).1 (LX5_measure_e pl ex rd ld ml cz 41 0 fa 0).2 := by
        rw [LX5_measure_w, if_neg c]
        rfl
      rw [e] at h ⊢
      obtain ⟨t1, t2⟩ := zme hL 40 0 fa 0 f rfl hf h9
      obtain ⟨F, k1, k2, k3, k4⟩ := zmw hL n _ _ (zps (zeo pl ex op) (zq ld) (zq le) 40 0 f) h t1 (fun p => Nat.le_trans (zps_le 40 0 f p) (h9 p)) (zps_su 40 0 f hs) (fun hz e hE => by
        rcases t2 with t3 | t3
        · have t4 := zps_edge (q := zq ld) (w := zq le) hE 40 0 f (by omega) (by have := (zeE hL hE).1.1; omega)
          rw [t3.2] at t4 ⊢
          exact t4
        · rw [t3] at hz; exact absurd hz (by decide))
      exact ⟨F, k1, fun p => Nat.le_trans (k2 p) (zps_le 40 0 f p), k3, k4⟩
set_option maxRecDepth 100000 in
/-- what the class's passes come to: the same -/
theorem zmo {pl rs : Int32} {ex ld tw le op rd ml cz : Nat → Int32} (hL : zL pl rs ex ld tw le op rd ml cz) {F : Nat → Nat} {g : Nat} (hsu : zsu (zeo pl ex op) (zq ld) (zq le) g F) (hFe : ∀ e, zeo pl ex op e = true → F (e / 4) ≤ F (zq ld e) + zq le e) : ∀ (m i : Nat) (fa : Nat → Int32) (sd : Int32) (f : Nat → Nat) (b : Nat), i + m = 10 → zfc fa f → (∀ p, f p ≤ 9999) → (∀ p, f p = 9999 ∨ f p ≤ b) → b + 360 * m ≤ 9990 → (∀ p, F p ≤ f p) → f g = F g → zun F f 10 ≤ m → (sd = 0 → ∀ p, p < 10 → f p = F p) → zfc (LX1_measure_o ld le op (m + 1) i fa sd).1 F ∧ (∀ p, p < 10 → F p = 9999 ∨ F p ≤ 9990) := by
  intro m
  induction m with
  | zero =>
    intro i fa sd f b hi hf h9 hb hb9 hlb hg hu h0
    have c1 : 10 ≤ nI i := by rw [show (10 : Int32) = nI 10 from rfl, nI_leI (by decide) (by omega)]; omega
    have e : LX1_measure_o ld le op (0 + 1) i fa sd = (fa, sd) := by rw [LX1_measure_o, if_pos c1]
    have hq := zun_0 10 (by omega : zun F f 10 = 0)
    rw [e]
    exact ⟨fun p hp => by rw [← hq p hp]; exact hf p hp, fun p hp => by rw [← hq p hp]; have := hb p; omega⟩
  | succ m ih =>
    intro i fa sd f b hi hf h9 hb hb9 hlb hg hu h0
    have c1 : ¬ 10 ≤ nI i := by rw [show (10 : Int32) = nI 10 from rfl, nI_leI (by decide) (by omega)]; omega
    by_cases c : sd = 0
    · have e : LX1_measure_o ld le op (m + 1 + 1) i fa sd = (fa, sd) := by rw [LX1_measure_o, if_neg c1, if_pos c]
      have hq := h0 c
      rw [e]
      exact ⟨fun p hp => by rw [← hq p hp]; exact hf p hp, fun p hp => by rw [← hq p hp]; have := hb p; omega⟩
    · have e : LX1_measure_o ld le op (m + 1 + 1) i fa sd = LX1_measure_o ld le op (m + 1) (i + 1) (LX1_measure_n ld le op 41 0 fa 0).1 (LX1_measure_n ld le op 41 0 fa 0).2 := by
        rw [LX1_measure_o, if_neg c1, if_neg c]
        rfl
      rw [e]
      obtain ⟨t1, t2, t3⟩ := zmn hL 40 0 fa 0 f b rfl hf h9 hb (by omega)
      have hr := zrnd hFe (fun e hE => (zeE hL hE).2) (fun e hE => (zeE hL hE).1) hsu hlb h9 hg
      have hlb2 := zps_lb hFe 40 0 f hlb
      have hle := zps_le (E := zeo pl ex op) (q := zq ld) (w := zq le) 40 0 f
      refine ih (i + 1) _ _ (zps (zeo pl ex op) (zq ld) (zq le) 40 0 f) (b + 360) (by omega) t1 (fun p => Nat.le_trans (hle p) (h9 p)) t3 (by omega) hlb2 ?_ ?_ ?_
      · have k1 := hlb2 g
        have k2 := hle g
        omega
      · rcases hr with hr | hr
        · have := zun_mono (F := F) (f := f) (f' := zps (zeo pl ex op) (zq ld) (zq le) 40 0 f) (fun p hp => by have k1 := hlb2 p; have k2 := hle p; omega) 10
          omega
        · omega
      · intro hz
        rcases t2 with t4 | t4
        · rw [t4.2] at hr ⊢
          exact zun_0 10 (by omega)
        · rw [t4] at hz; exact absurd hz (by decide)
theorem zma {pl g : Int32} (hpl : 0 ≤ pl.toInt ∧ pl.toInt ≤ 10) (hg : 0 ≤ g.toInt ∧ g.toInt < 10) : ∀ (n i : Nat) (fa : Nat → Int32), i + n = 11 → (i : Int) ≤ pl.toInt → (∀ p, p < i → (fa p).toInt = ((if p = g.toNatClampNeg then 0 else 9999 : Nat) : Int)) → zfr pl (LX5_measure_a pl g n i fa) (fun p => if p = g.toNatClampNeg then 0 else 9999)
  | 0, i, fa, h, h1, h2 => absurd h1 (by omega)
  | n + 1, i, fa, h, h1, h2 => by
    have hgn := znat hg.1
    by_cases c : pl ≤ nI i
    · have e : LX5_measure_a pl g (n + 1) i fa = fa := by rw [LX5_measure_a, if_pos c]
      rw [e]
      rw [xle, nI_toInt (by omega)] at c
      exact fun p hp => h2 p (by omega)
    · have c' := c
      rw [xle, nI_toInt (by omega)] at c'
      by_cases c2 : nI i = g
      · have e : LX5_measure_a pl g (n + 1) i fa = LX5_measure_a pl g n (i + 1) (upd fa i 0) := by rw [LX5_measure_a, if_neg c, if_pos c2, nI_clamp (by omega)]
        rw [e]
        refine zma hpl hg n (i + 1) _ (by omega) (by omega) (fun p hp => ?_)
        have k : i = g.toNatClampNeg := by rw [← c2, nI_clamp (by omega)]
        by_cases c3 : p = i
        · rw [c3, pk_us, if_pos k]; rfl
        · rw [pk_un c3]; exact h2 p (by omega)
      · have e : LX5_measure_a pl g (n + 1) i fa = LX5_measure_a pl g n (i + 1) (upd fa i 9999) := by rw [LX5_measure_a, if_neg c, if_neg c2, nI_clamp (by omega)]
        rw [e]
        refine zma hpl hg n (i + 1) _ (by omega) (by omega) (fun p hp => ?_)
        have k : ¬ i = g.toNatClampNeg := fun h => c2 (by rw [h]; exact znI hg.1)
        by_cases c3 : p = i
        · rw [c3, pk_us, if_neg k]; rfl
        · rw [pk_un c3]; exact h2 p (by omega)
theorem zfill {v : Int32} : ∀ (n i : Nat) (fa : Nat → Int32), i + n = 11 → i ≤ 10 → (∀ p, p < i → fa p = v) → ∀ p, p < 10 → LJ7_fill_53178_a v n i fa p = v
  | 0, i, fa, h, h1, h2 => absurd h1 (by omega)
  | n + 1, i, fa, h, h1, h2 => by
    by_cases c : 10 ≤ nI i
    · have e : LJ7_fill_53178_a v (n + 1) i fa = fa := by rw [LJ7_fill_53178_a, if_pos c]
      rw [e]
      rw [show (10 : Int32) = nI 10 from rfl, nI_leI (by decide) (by omega)] at c
      exact fun p hp => h2 p (by omega)
    · have e : LJ7_fill_53178_a v (n + 1) i fa = LJ7_fill_53178_a v n (i + 1) (upd fa i v) := by rw [LJ7_fill_53178_a, if_neg c, nI_clamp (by omega)]
      rw [e]
      rw [show (10 : Int32) = nI 10 from rfl, nI_leI (by decide) (by omega)] at c
      refine zfill n (i + 1) _ (by omega) (by omega) (fun p hp => ?_)
      by_cases c3 : p = i
      · rw [c3, pk_us]
      · rw [pk_un c3]; exact h2 p (by omega)
theorem zpl {pl q : Int32} (hq : 0 ≤ q.toInt ∧ q.toInt < pl.toInt) : FX1_isPlace pl q = 1 := by
  unfold FX1_isPlace
  rw [if_neg (by rw [xltI, show (0 : Int32).toInt = 0 from rfl]; omega), if_neg (by rw [xle]; omega)]
/-- what is known of a measured row -/
def zF (pl : Int32) (ex ld le op : Nat → Int32) (g : Nat) (fa fb : Nat → Int32) (F : Nat → Nat) : Prop := zfc fa F ∧ zfr pl fb F ∧ (∀ p, p < 10 → F p = 9999 ∨ F p ≤ 9990) ∧ zsu (zeo pl ex op) (zq ld) (zq le) g F ∧ (∀ e, zeo pl ex op e = true → F (e / 4) ≤ F (zq ld e) + zq le e) ∧ F g = 0
/-- both measure the same -/
theorem zmeas {pl rs : Int32} {ex ld tw le op rd ml cz : Nat → Int32} (hL : zL pl rs ex ld tw le op rd ml cz) (fa fb : Nat → Int32) {g : Int32} (hg : 0 ≤ g.toInt ∧ g.toInt < pl.toInt) : ∃ F : Nat → Nat, zF pl ex ld le op g.toNatClampNeg (FX1_measure pl ld le op fa g) (FX5_measure pl ex rd ld ml cz fb g) F := by
  obtain ⟨hpl, hex4, hex0, hld, htw, hop, hrs, hrd, hcz, hv, hnv⟩ := id hL
  have hgn := znat hg.1
  have A := zma hpl (g := g) (by omega) 11 0 fb rfl (by omega) (fun p hp => absurd hp (by omega))
  have hs0 : zsu (zeo pl ex op) (zq ld) (zq le) g.toNatClampNeg (fun p => if p = g.toNatClampNeg then 0 else 9999) := fun p hp => by
    by_cases c : p = g.toNatClampNeg
    · exact Or.inl c
    · dsimp only at hp; rw [if_neg c] at hp; exact absurd hp (by omega)
  have h9 : ∀ p, (fun p => if p = g.toNatClampNeg then 0 else 9999 : Nat → Nat) p ≤ 9999 := fun p => by
    dsimp only
    split <;> omega
  obtain ⟨F, k1, k2, k3, k4⟩ := zmw hL yfuel (LX5_measure_a pl g 11 0 fb) 1 _ (yterm hpl _ _) A h9 hs0 (fun h => absurd h (by decide))
  have kg : F g.toNatClampNeg = 0 := by
    have h0 : F g.toNatClampNeg ≤ (if g.toNatClampNeg = g.toNatClampNeg then 0 else 9999) := k2 g.toNatClampNeg
    rw [if_pos rfl] at h0
    omega
  have hfi := zfill (v := 1000000) 11 0 fa rfl (by omega) (fun p hp => absurd hp (by omega))
  have hfc : zfc (upd (LJ7_fill_53178_a 1000000 11 0 fa) g.toNatClampNeg 0) (fun p => if p = g.toNatClampNeg then 0 else 9999) := fun p hp => by
    dsimp only
    by_cases c : p = g.toNatClampNeg
    · rw [if_pos c, c, pk_us]; rfl
    · rw [if_neg c, pk_un c, hfi p hp]; rfl
  obtain ⟨m1, m2⟩ := zmo hL k3 k4 10 0 _ 1 _ 0 rfl hfc h9 (fun p => by by_cases c : p = g.toNatClampNeg; exact Or.inr (Nat.le_of_eq (if_pos c)); exact Or.inl (if_neg c)) (by omega) k2 (by rw [kg]; exact if_pos rfl) (zun_le 10) (fun h => absurd h (by decide))
  have e1 : FX1_measure pl ld le op fa g = (LX1_measure_o ld le op 11 0 (upd (LJ7_fill_53178_a 1000000 11 0 fa) g.toNatClampNeg 0) 1).1 := by
    unfold FX1_measure FJ7_fill_53178 xbind
    dsimp only
    rw [zpl hg, if_neg (by decide)]
  have e2 : FX5_measure pl ex rd ld ml cz fb g = (LX5_measure_w pl ex rd ld ml cz yfuel (LX5_measure_a pl g 11 0 fb) 1).2.1 := rfl
  rw [← e1] at m1
  rw [← e2] at k1
  exact ⟨F, m1, k1, m2, k3, k4, kg⟩
