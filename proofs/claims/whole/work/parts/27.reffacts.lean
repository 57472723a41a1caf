def YI (po ln : Int32) (wy : Nat → Int32) : Prop := (0 ≤ po.toInt ∧ po.toInt < 10) ∧ (0 ≤ ln.toInt ∧ ln.toInt ≤ 40) ∧ ∀ k, k < 40 → 0 ≤ (wy k).toInt ∧ (wy k).toInt < 40
theorem yinc {x : Int32} (h : 0 ≤ x.toInt ∧ x.toInt < 1000000) : (x + 1).toInt = x.toInt + 1 := by
  rw [Int32.toInt_add, show (1 : Int32).toInt = 1 from rfl, Int.bmod_eq_of_le (by omega) (by omega)]
theorem pX5_take {rd : Nat → Int32} {tt : Nat → Int32} {ml : Nat → Int32} {ln : Int32} {wk : Int32} {tr : Nat → Int32} {wy : Nat → Int32} {e1 : Int32} {u : (Int32) × (Int32) × (Int32) × (Nat → Int32) × (Nat → Int32)} (htt : ∀ k, k < 40 → 0 ≤ (tt k).toInt ∧ (tt k).toInt < 10) (he : 0 ≤ e1.toInt ∧ e1.toInt < 40) (hln : 0 ≤ ln.toInt ∧ ln.toInt < 40) (hwy : ∀ k, k < 40 → 0 ≤ (wy k).toInt ∧ (wy k).toInt < 40) (h : u = FX5_take rd tt ml ln wk tr wy e1) : YI u.1 u.2.1 u.2.2.2.2 := by
  rw [h]
  unfold FX5_take
  refine ⟨htt _ (xcl he), ?_, fun k hk => ?_⟩
  · dsimp only
    rw [yinc (by omega)]; omega
  · dsimp only
    unfold upd
    split
    · exact he
    · exact hwy k hk
def PTn (ln : Int32) (wy : Nat → Int32) (z : Int32 × ((Int32) × (Int32) × (Int32) × (Nat → Int32) × (Nat → Int32))) : Prop := YI z.2.1 z.2.2.1 z.2.2.2.2.2 ∧ (z.1 = 0 → z.2.2.1 = ln ∧ z.2.2.2.2.2 = wy)
theorem pX5_triesNext_t {ex rd tt ml cz tr wy : Nat → Int32} {po ln wk qq : Int32} (hex4 : ∀ k, k < 10 → 0 ≤ (ex k).toInt ∧ (ex k).toInt ≤ 4) (htt : ∀ k, k < 40 → 0 ≤ (tt k).toInt ∧ (tt k).toInt < 10) (hpo : 0 ≤ po.toInt ∧ po.toInt < 10) (hqq : 0 ≤ qq.toInt ∧ qq.toInt < 10) (hln : 0 ≤ ln.toInt ∧ ln.toInt < 40) (hwy : ∀ k, k < 40 → 0 ≤ (wy k).toInt ∧ (wy k).toInt < 40) : ∀ (n i : Nat), ((i : Nat) : Int) ≤ (ex qq.toNatClampNeg).toInt →
    PTn ln wy (LX5_triesNext_t ex rd tt ml cz po ln wk tr wy qq n i)
  | 0, _, _ => ⟨⟨hpo, ⟨hln.1, Int.le_of_lt hln.2⟩, hwy⟩, fun _ => ⟨rfl, rfl⟩⟩
  | n + 1, i, hlo => by
    unfold LX5_triesNext_t
    refine xiteP (P := PTn ln wy) (fun _ => ⟨⟨hpo, ⟨hln.1, Int.le_of_lt hln.2⟩, hwy⟩, fun _ => ⟨rfl, rfl⟩⟩) (fun c => ?_)
    refine xbP (P := PTn ln wy) (fun r _ => ?_)
    refine xiteP (P := PTn ln wy) (fun _ => pX5_triesNext_t hex4 htt hpo hqq hln hwy n (i + 1) (xlt hlo c)) (fun _ => ?_)
    refine xbP (P := PTn ln wy) (fun u hu => ?_)
    exact ⟨pX5_take htt (ye4 hex4 hqq hlo c) hln hwy hu, fun h => absurd h (by decide : ¬ (1 : Int32) = 0)⟩
theorem pX5_triesNext {ex : Nat → Int32} {rd : Nat → Int32} {tt : Nat → Int32} {ml : Nat → Int32} {cz : Nat → Int32} {po : Int32} {ln : Int32} {wk : Int32} {tr : Nat → Int32} {wy : Nat → Int32} {r : Int32} {u : (Int32) × (Int32) × (Int32) × (Nat → Int32) × (Nat → Int32)} (hex4 : ∀ k, k < 10 → 0 ≤ (ex k).toInt ∧ (ex k).toInt ≤ 4) (htt : ∀ k, k < 40 → 0 ≤ (tt k).toInt ∧ (tt k).toInt < 10) (hpo : 0 ≤ po.toInt ∧ po.toInt < 10) (hln : 0 ≤ ln.toInt ∧ ln.toInt < 40) (hwy : ∀ k, k < 40 → 0 ≤ (wy k).toInt ∧ (wy k).toInt < 40) (h : r = (FX5_triesNext ex rd tt ml cz po ln wk tr wy).1 ∧ u = (FX5_triesNext ex rd tt ml cz po ln wk tr wy).2) : YI u.1 u.2.1 u.2.2.2.2 ∧ (r = 0 → u.2.1 = ln ∧ u.2.2.2.2 = wy) := by
  rw [h.1, h.2]
  exact pX5_triesNext_t hex4 htt hpo hpo hln hwy 5 0 (hex4 _ (xcl hpo)).1
theorem pX5_doublesBack {rd : Nat → Int32} {ml : Nat → Int32} {po : Int32} {ln : Int32} {wk : Int32} {db : Int32} {wy : Nat → Int32} {r : Int32} {u : (Int32) × (Int32) × (Int32) × (Int32)} (hpo : 0 ≤ po.toInt ∧ po.toInt < 10) (hlm : 0 ≤ ln.toInt ∧ ln.toInt ≤ 40) (hwy : ∀ k, k < 40 → 0 ≤ (wy k).toInt ∧ (wy k).toInt < 40) (h : r = (FX5_doublesBack rd ml po ln wk db wy).1 ∧ u = (FX5_doublesBack rd ml po ln wk db wy).2) : YI u.1 u.2.1 wy := by
  rw [h.2]
  unfold FX5_doublesBack
  by_cases c : ln = 0
  · rw [if_pos c]; exact ⟨hpo, hlm, hwy⟩
  · rw [if_neg c]
    have h1 := (ysub1 hlm c).2
    exact ⟨yd4in (hwy _ (xcl h1)), ⟨h1.1, by dsimp only; omega⟩, hwy⟩
theorem pX5_toldExit_t {ex rd tt ml cz fa : Nat → Int32} {q : Int32} (hex4 : (ex q.toNatClampNeg).toInt ≤ 4) : ∀ (n i : Nat) (bt lst : Int32), ((i : Nat) : Int) ≤ (ex q.toNatClampNeg).toInt → (bt = -1 ∨ (0 ≤ bt.toInt ∧ bt.toInt < 4)) →
    ((LX5_toldExit_t ex rd tt ml cz fa q n i bt lst).1 = -1 ∨ (0 ≤ ((LX5_toldExit_t ex rd tt ml cz fa q n i bt lst).1).toInt ∧ ((LX5_toldExit_t ex rd tt ml cz fa q n i bt lst).1).toInt < 4))
  | 0, _, _, _, _, hb => hb
  | n + 1, i, bt, lst, hlo, hb => by
    unfold LX5_toldExit_t
    by_cases c1 : ex q.toNatClampNeg ≤ nI i
    · rw [if_pos c1]; exact hb
    · rw [if_neg c1]
      by_cases c2 : cz (rd (4 * q + nI i).toNatClampNeg).toNatClampNeg = 0
      · rw [if_pos c2]
        by_cases c3 : fa (tt (4 * q + nI i).toNatClampNeg).toNatClampNeg + ml (rd (4 * q + nI i).toNatClampNeg).toNatClampNeg < lst
        · rw [if_pos c3]
          have h2 := xlt2 hlo c1
          exact pX5_toldExit_t hex4 n (i + 1) _ _ (xlt hlo c1) (Or.inr (by omega))
        · rw [if_neg c3]; exact pX5_toldExit_t hex4 n (i + 1) _ _ (xlt hlo c1) hb
      · rw [if_neg c2]; exact pX5_toldExit_t hex4 n (i + 1) _ _ (xlt hlo c1) hb
theorem pX5_toldExit {pl : Int32} {ex : Nat → Int32} {rd : Nat → Int32} {tt : Nat → Int32} {ml : Nat → Int32} {cz : Nat → Int32} {fa : Nat → Int32} {q : Int32} {g : Int32} {r : Int32} (hex4 : ∀ k, k < 10 → 0 ≤ (ex k).toInt ∧ (ex k).toInt ≤ 4) (hq : 0 ≤ q.toInt ∧ q.toInt < 10) (h : r = (FX5_toldExit pl ex rd tt ml cz fa q g).1) (c : ¬ r = -1) : 0 ≤ r.toInt ∧ r.toInt < 4 := by
  have h4 := hex4 _ (xcl hq)
  rw [h] at c ⊢
  unfold FX5_toldExit at c ⊢
  unfold xbind at c ⊢
  rcases pX5_toldExit_t (rd := rd) (tt := tt) (ml := ml) (cz := cz) (fa := FX5_measure pl ex rd tt ml cz fa g) h4.2 5 0 (-1) 9999 h4.1 (Or.inl rfl) with h1 | h1
  · exact absurd h1 c
  · exact h1
theorem yrem {go q r : Int32} {xe : Nat → Int32} (hxe : ∀ k, k < 100 → -1 ≤ (xe k).toInt ∧ (xe k).toInt < 4) (hgo : 0 ≤ go.toInt ∧ go.toInt < 10) (hq : 0 ≤ q.toInt ∧ q.toInt < 10) (h : r = FX4_remembered go xe q) (c : ¬ r = -1) : 0 ≤ r.toInt ∧ r.toInt < 4 := by
  rw [xeqI, show (-1 : Int32).toInt = -1 from rfl] at c
  have h1 := hxe _ (xcl (ym10in hgo hq))
  rw [h] at c ⊢
  unfold FX4_remembered at c ⊢
  omega
