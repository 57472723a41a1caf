def ycnt : Nat → (Nat → Int32) → Nat
  | 0, _ => 0
  | n + 1, f => ycnt n f + if f n = 0 then 0 else 1
theorem ycnt_le (f : Nat → Int32) : ∀ n, ycnt n f ≤ n
  | 0 => Nat.le_refl 0
  | n + 1 => by
    have h := ycnt_le f n
    unfold ycnt
    split <;> omega
theorem ycnt_far (f : Nat → Int32) (k : Nat) (v : Int32) : ∀ n, n ≤ k → ycnt n (upd f k v) = ycnt n f
  | 0, _ => rfl
  | n + 1, h => by
    unfold ycnt
    rw [ycnt_far f k v n (by omega), show upd f k v n = f n from if_neg (by omega)]
theorem ycnt_upd (f : Nat → Int32) (k : Nat) (h0 : f k = 0) : ∀ n, k < n → ycnt n (upd f k 1) = ycnt n f + 1
  | 0, h => absurd h (by omega)
  | n + 1, h => by
    unfold ycnt
    by_cases e : k = n
    · subst e
      rw [ycnt_far f k 1 k (Nat.le_refl k), show upd f k 1 k = 1 from if_pos rfl, if_neg (by decide), if_pos h0]
    · have := ycnt_upd f k h0 n (by omega)
      rw [this]
      rw [show upd f k 1 n = f n from if_neg (by omega)]
      omega
def YJ (po ln : Int32) (tr wy : Nat → Int32) : Prop := (0 ≤ po.toInt ∧ po.toInt < 10) ∧ (0 ≤ ln.toInt ∧ ln.toInt ≤ (ycnt 20 tr : Nat)) ∧ ∀ k, k < 40 → 0 ≤ (wy k).toInt ∧ (wy k).toInt < 40
def YX (xe : Nat → Int32) : Prop := ∀ k, k < 100 → -1 ≤ (xe k).toInt ∧ (xe k).toInt < 4
def YK (po go ln : Int32) (tr wy xe : Nat → Int32) : Prop := YJ po ln tr wy ∧ (go = -1 ∨ (0 ≤ go.toInt ∧ go.toInt < 10)) ∧ YX xe
theorem yj40 {ln : Int32} {tr : Nat → Int32} (h : 0 ≤ ln.toInt ∧ ln.toInt ≤ (ycnt 20 tr : Nat)) : 0 ≤ ln.toInt ∧ ln.toInt ≤ 40 := by
  have := ycnt_le tr 20
  omega
theorem yjln {ln : Int32} {tr : Nat → Int32} (h : 0 ≤ ln.toInt ∧ ln.toInt ≤ (ycnt 20 tr : Nat)) : 0 ≤ ln.toInt ∧ ln.toInt < 40 := by
  have := ycnt_le tr 20
  omega
theorem yj_take {po : Int32} {rd : Nat → Int32} {tt : Nat → Int32} {ml : Nat → Int32} {ln : Int32} {wk : Int32} {tr : Nat → Int32} {wy : Nat → Int32} {e1 : Int32} {u : (Int32) × (Int32) × (Int32) × (Nat → Int32) × (Nat → Int32)} (htt : ∀ k, k < 40 → 0 ≤ (tt k).toInt ∧ (tt k).toInt < 10) (hrd : ∀ k, k < 40 → 0 ≤ (rd k).toInt ∧ (rd k).toInt < 20) (he : 0 ≤ e1.toInt ∧ e1.toInt < 40) (hj : YJ po ln tr wy) (h0 : tr (rd e1.toNatClampNeg).toNatClampNeg = 0) (h : u = FX5_take rd tt ml ln wk tr wy e1) : YJ u.1 u.2.1 u.2.2.2.1 u.2.2.2.2 := by
  have h1 := pX5_take htt he (yjln hj.2.1) hj.2.2 h
  refine ⟨h1.1, ⟨h1.2.1.1, ?_⟩, h1.2.2⟩
  rw [h]
  unfold FX5_take
  dsimp only
  have h2 := yjln hj.2.1
  rw [ycnt_upd tr _ h0 20 (xcl (hrd _ (xcl he))), yinc (by omega)]
  have := hj.2.1
  omega
theorem pX5_canTake {rd cz tr : Nat → Int32} {e1 r : Int32} (h : r = FX5_canTake rd cz tr e1) (c : ¬ r = 0) : tr (rd e1.toNatClampNeg).toNatClampNeg = 0 ∧ cz (rd e1.toNatClampNeg).toNatClampNeg = 0 := by
  rw [h] at c
  unfold FX5_canTake at c
  split at c
  · split at c
    · rename_i h1 h2; exact ⟨h2, h1⟩
    · exact absurd rfl c
  · exact absurd rfl c
def PTj (z : Int32 × ((Int32) × (Int32) × (Int32) × (Nat → Int32) × (Nat → Int32))) : Prop := YJ z.2.1 z.2.2.1 z.2.2.2.2.1 z.2.2.2.2.2
theorem yj_tries_t {ex rd tt ml cz tr wy : Nat → Int32} {po ln wk qq : Int32} (hex4 : ∀ k, k < 10 → 0 ≤ (ex k).toInt ∧ (ex k).toInt ≤ 4) (htt : ∀ k, k < 40 → 0 ≤ (tt k).toInt ∧ (tt k).toInt < 10) (hrd : ∀ k, k < 40 → 0 ≤ (rd k).toInt ∧ (rd k).toInt < 20) (hqq : 0 ≤ qq.toInt ∧ qq.toInt < 10) (hj : YJ po ln tr wy) : ∀ (n i : Nat), ((i : Nat) : Int) ≤ (ex qq.toNatClampNeg).toInt →
    PTj (LX5_triesNext_t ex rd tt ml cz po ln wk tr wy qq n i)
  | 0, _, _ => hj
  | n + 1, i, hlo => by
    unfold LX5_triesNext_t
    refine xiteP (P := PTj) (fun _ => hj) (fun c => ?_)
    refine xbP (P := PTj) (fun r hr => ?_)
    refine xiteP (P := PTj) (fun _ => yj_tries_t hex4 htt hrd hqq hj n (i + 1) (xlt hlo c)) (fun c2 => ?_)
    refine xbP (P := PTj) (fun u hu => ?_)
    exact yj_take htt hrd (ye4 hex4 hqq hlo c) hj (pX5_canTake hr c2).1 hu
theorem yj_tries {ex : Nat → Int32} {rd : Nat → Int32} {tt : Nat → Int32} {ml : Nat → Int32} {cz : Nat → Int32} {po : Int32} {ln : Int32} {wk : Int32} {tr : Nat → Int32} {wy : Nat → Int32} {u : (Int32) × (Int32) × (Int32) × (Nat → Int32) × (Nat → Int32)} (hex4 : ∀ k, k < 10 → 0 ≤ (ex k).toInt ∧ (ex k).toInt ≤ 4) (htt : ∀ k, k < 40 → 0 ≤ (tt k).toInt ∧ (tt k).toInt < 10) (hrd : ∀ k, k < 40 → 0 ≤ (rd k).toInt ∧ (rd k).toInt < 20) (hj : YJ po ln tr wy) (h : u = (FX5_triesNext ex rd tt ml cz po ln wk tr wy).2) : YJ u.1 u.2.1 u.2.2.2.1 u.2.2.2.2 := by
  rw [h]
  exact yj_tries_t hex4 htt hrd hj.1 hj 5 0 (hex4 _ (xcl hj.1)).1
theorem yj_db {rd : Nat → Int32} {ml : Nat → Int32} {po : Int32} {ln : Int32} {wk : Int32} {db : Int32} {wy : Nat → Int32} {tr : Nat → Int32} {u : (Int32) × (Int32) × (Int32) × (Int32)} (hj : YJ po ln tr wy) (h : u = (FX5_doublesBack rd ml po ln wk db wy).2) : YJ u.1 u.2.1 tr wy := by
  have h1 := pX5_doublesBack hj.1 (yj40 hj.2.1) hj.2.2 ⟨rfl, h⟩
  refine ⟨h1.1, ⟨h1.2.1.1, ?_⟩, hj.2.2⟩
  rw [h]
  unfold FX5_doublesBack
  by_cases c : ln = 0
  · rw [if_pos c]; exact hj.2.1.2
  · rw [if_neg c]
    dsimp only
    rw [(ysub1 (yj40 hj.2.1) c).1]
    have := hj.2.1
    omega
theorem yj_end {po ln : Int32} {tr wy tr0 ak0 : Nat → Int32} {u : (Int32) × (Int32) × (Nat → Int32) × (Nat → Int32)} (hj : YJ po ln tr wy) (h : u = FX4_end tr0 ak0) : YJ po u.2.1 u.2.2.1 wy := by
  rw [h]
  refine ⟨hj.1, ?_, hj.2.2⟩
  show 0 ≤ (0 : Int32).toInt ∧ (0 : Int32).toInt ≤ _
  rw [show (0 : Int32).toInt = 0 from rfl]
  omega
theorem yj_end1 {tr0 ak0 : Nat → Int32} {u : (Int32) × (Int32) × (Nat → Int32) × (Nat → Int32)} (h : u = FX4_end tr0 ak0) : u.1 = -1 := by
  rw [h]; rfl
theorem yx_upd {xe : Nat → Int32} {k : Nat} {v : Int32} (hx : YX xe) (hv : -1 ≤ v.toInt ∧ v.toInt < 4) : YX (upd xe k v) := by
  intro j hj
  unfold upd
  split
  · exact hv
  · exact hx j hj
theorem ymod4 {x : Int32} (h : 0 ≤ x.toInt ∧ x.toInt < 40) : (x - x / 4 * 4).toInt = x.toInt % 4 := by
  obtain ⟨j, h1, h2, h3⟩ := xofI h.1
  have e : x - x / 4 * 4 = nI (j % 4) := by
    rw [h2, show (4 : Int32) = nI 4 from rfl, pk_div h1 (by decide) (by decide), pk_mul]
    rw [xeqI, Int32.toInt_sub, nI_toInt (by omega), nI_toInt (by omega), nI_toInt (by omega), Int.bmod_eq_of_le (by omega) (by omega)]
    omega
  rw [e, nI_toInt (by omega)]
  omega
theorem yx_learn_t {go ln : Int32} {wy : Nat → Int32} (hln : ln.toInt ≤ 40) (hwy : ∀ k, k < 40 → 0 ≤ (wy k).toInt ∧ (wy k).toInt < 40) : ∀ (n i : Nat) (xe sg : Nat → Int32), ((i : Nat) : Int) ≤ ln.toInt → YX xe → YX (LX5_learn_t go ln wy n i xe sg).1
  | 0, _, _, _, _, hx => hx
  | n + 1, i, xe, sg, hlo, hx => by
    unfold LX5_learn_t
    by_cases c : ln ≤ nI i
    · rw [if_pos c]; exact hx
    · rw [if_neg c]
      have h9 := hwy _ (xcl (xnIB hlo c hln))
      have h8 := ymod4 h9
      unfold xbind
      dsimp only
      split
      · exact yx_learn_t hln hwy n (i + 1) _ _ (xlt hlo c) (yx_upd hx (by omega))
      · exact yx_learn_t hln hwy n (i + 1) _ _ (xlt hlo c) (yx_upd hx (by omega))
theorem yx_learn {go ln : Int32} {wy xe sg : Nat → Int32} {u : (Nat → Int32) × (Nat → Int32)} (hgo : 0 ≤ go.toInt ∧ go.toInt < 10) (hlm : 0 ≤ ln.toInt ∧ ln.toInt ≤ 40) (hwy : ∀ k, k < 40 → 0 ≤ (wy k).toInt ∧ (wy k).toInt < 40) (hx : YX xe) (h : u = FX5_learn go ln wy xe sg) : YX u.1 := by
  rw [h]
  exact yx_learn_t hlm.2 hwy 41 0 xe sg hlm.1 hx
def PAj (z : Int32 × ((Int32) × (Int32) × (Int32) × (Int32) × (Int32) × (Nat → Int32) × (Nat → Int32) × (Nat → Int32) × (Nat → Int32) × (Nat → Int32) × (Nat → Int32))) : Prop := YJ z.2.1 z.2.2.2.1 z.2.2.2.2.2.2.1 z.2.2.2.2.2.2.2.2.1 ∧ YX z.2.2.2.2.2.2.2.2.2.1
theorem yj_asks {pl : Int32} {ex : Nat → Int32} {rd : Nat → Int32} {tt : Nat → Int32} {ml : Nat → Int32} {cz : Nat → Int32} {sh : Nat → Int32} {fa : Nat → Int32} {po : Int32} {co : Int32} {go : Int32} {ln : Int32} {wk : Int32} {qs : Int32} {tr : Nat → Int32} {ak : Nat → Int32} {wy : Nat → Int32} {xe : Nat → Int32} {sg : Nat → Int32} {r : Int32} {u : (Int32) × (Int32) × (Int32) × (Int32) × (Int32) × (Nat → Int32) × (Nat → Int32) × (Nat → Int32) × (Nat → Int32) × (Nat → Int32) × (Nat → Int32)} (hex4 : ∀ k, k < 10 → 0 ≤ (ex k).toInt ∧ (ex k).toInt ≤ 4) (htt : ∀ k, k < 40 → 0 ≤ (tt k).toInt ∧ (tt k).toInt < 10) (hrd : ∀ k, k < 40 → 0 ≤ (rd k).toInt ∧ (rd k).toInt < 20) (hgo : 0 ≤ go.toInt ∧ go.toInt < 10) (hj : YJ po ln tr wy) (hx : YX xe) (_ : r = (FX5_asks pl ex rd tt ml cz sh fa po co go ln wk qs tr ak wy xe sg).1) (h : u = (FX5_asks pl ex rd tt ml cz sh fa po co go ln wk qs tr ak wy xe sg).2) : YJ u.1 u.2.2.1 u.2.2.2.2.2.1 u.2.2.2.2.2.2.2.1 ∧ YX u.2.2.2.2.2.2.2.2.1 := by
  rw [h]
  clear h
  refine (?_ : PAj (FX5_asks pl ex rd tt ml cz sh fa po co go ln wk qs tr ak wy xe sg))
  unfold FX5_asks
  refine xiteP (P := PAj) (fun _ => ⟨hj, hx⟩) (fun _ => ?_)
  refine xiteP (P := PAj) (fun _ => ?_) (fun _ => ⟨hj, hx⟩)
  refine xiteP (P := PAj) (fun _ => ⟨hj, hx⟩) (fun _ => ?_)
  refine xb2P (P := PAj) (fun r1 u1 h1 _ => ?_)
  refine xiteP (P := PAj) (fun _ => ⟨hj, hx⟩) (fun c => ?_)
  have h4 := pX5_toldExit hex4 hj.1 h1 c
  refine xbP (P := PAj) (fun u2 h2 => ?_)
  have hx2 : YX u2.1 := by rw [h2]; exact yx_upd hx (by omega)
  refine xiteP (P := PAj) (fun c0 => ?_) (fun _ => ⟨hj, hx2⟩)
  refine xbP (P := PAj) (fun u3 h3 => ?_)
  exact ⟨yj_take htt hrd (yq4in hj.1 h4) hj c0 h3, hx2⟩
theorem ykgo {po go ln : Int32} {tr wy xe : Nat → Int32} (h : YK po go ln tr wy xe) (c : ¬ go = -1) : 0 ≤ go.toInt ∧ go.toInt < 10 :=
  h.2.1.resolve_left c
def PSO (z : Int32 × ((Int32) × (Int32) × (Int32) × (Int32) × (Int32) × (Int32) × (Int32) × (Int32) × (Int32) × (Nat → Int32) × (Nat → Int32) × (Nat → Int32) × (Nat → Int32) × (Nat → Int32) × (Nat → Int32))) : Prop := YK z.2.1 z.2.2.2.1 z.2.2.2.2.1 z.2.2.2.2.2.2.2.2.2.2.1 z.2.2.2.2.2.2.2.2.2.2.2.2.1 z.2.2.2.2.2.2.2.2.2.2.2.2.2.1
theorem pX5_stepOn {pl : Int32} {ex : Nat → Int32} {rd : Nat → Int32} {tt : Nat → Int32} {ml : Nat → Int32} {cz : Nat → Int32} {sh : Nat → Int32} {fa : Nat → Int32} {po : Int32} {co : Int32} {go : Int32} {ln : Int32} {wk : Int32} {db : Int32} {dn : Int32} {iv : Int32} {qs : Int32} {tr : Nat → Int32} {ak : Nat → Int32} {wy : Nat → Int32} {xe : Nat → Int32} {sg : Nat → Int32} {r : Int32} {u : (Int32) × (Int32) × (Int32) × (Int32) × (Int32) × (Int32) × (Int32) × (Int32) × (Int32) × (Nat → Int32) × (Nat → Int32) × (Nat → Int32) × (Nat → Int32) × (Nat → Int32) × (Nat → Int32)} (hex4 : ∀ k, k < 10 → 0 ≤ (ex k).toInt ∧ (ex k).toInt ≤ 4) (htt : ∀ k, k < 40 → 0 ≤ (tt k).toInt ∧ (tt k).toInt < 10) (hrd : ∀ k, k < 40 → 0 ≤ (rd k).toInt ∧ (rd k).toInt < 20) (hgo : 0 ≤ go.toInt ∧ go.toInt < 10) (hj : YJ po ln tr wy) (hxe : YX xe) (h : r = (FX5_stepOn pl ex rd tt ml cz sh fa po co go ln wk db dn iv qs tr ak wy xe sg).1 ∧ u = (FX5_stepOn pl ex rd tt ml cz sh fa po co go ln wk db dn iv qs tr ak wy xe sg).2) : YK u.1 u.2.2.1 u.2.2.2.1 u.2.2.2.2.2.2.2.2.2.1 u.2.2.2.2.2.2.2.2.2.2.2.1 u.2.2.2.2.2.2.2.2.2.2.2.2.1 := by
  rw [h.2]
  clear h
  refine (?_ : PSO (FX5_stepOn pl ex rd tt ml cz sh fa po co go ln wk db dn iv qs tr ak wy xe sg))
  unfold FX5_stepOn
  refine xbP (P := PSO) (fun r2 h2 => ?_)
  refine xiteP (P := PSO) (fun c2 => ?_) (fun c2 => xbP (P := PSO) (fun r3 h3 => xiteP (P := PSO) (fun c3 => ?_) (fun c3 => xbP (P := PSO) (fun u3 h4 => ?_))))
  · refine xb2P (P := PSO) (fun r7 u6 h7 h6 => ?_)
    have A1 := yj_asks hex4 htt hrd hgo hj hxe h7 h6
    refine xiteP (P := PSO) (fun c7 => ?_) (fun c7 => ?_)
    · refine xb2P (P := PSO) (fun r8 u8 h8 h9 => ?_)
      have T1 := yj_tries hex4 htt hrd A1.1 h9
      refine xiteP (P := PSO) (fun c8 => ?_) (fun c8 => ?_)
      · refine xb2P (P := PSO) (fun r9 u9 h10 h11 => ?_)
        have D1 := yj_db T1 h11
        refine xiteP (P := PSO) (fun c9 => xbP (P := PSO) (fun _ he => ?_)) (fun c9 => ?_)
        · exact ⟨yj_end D1 he, Or.inl (yj_end1 he), A1.2⟩
        · refine xiteP (P := PSO) (fun _ => xbP (P := PSO) (fun _ hl => xbP (P := PSO) (fun _ he => ?_))) (fun _ => ?_)
          · exact ⟨yj_end D1 he, Or.inl (yj_end1 he), yx_learn hgo (yj40 D1.2.1) D1.2.2 A1.2 hl⟩
          · exact ⟨D1, Or.inr hgo, A1.2⟩
      · refine xiteP (P := PSO) (fun _ => xbP (P := PSO) (fun _ hl => xbP (P := PSO) (fun _ he => ?_))) (fun _ => ?_)
        · exact ⟨yj_end T1 he, Or.inl (yj_end1 he), yx_learn hgo (yj40 T1.2.1) T1.2.2 A1.2 hl⟩
        · exact ⟨T1, Or.inr hgo, A1.2⟩
    · refine xiteP (P := PSO) (fun _ => xbP (P := PSO) (fun _ hl => xbP (P := PSO) (fun _ he => ?_))) (fun _ => ?_)
      · exact ⟨yj_end A1.1 he, Or.inl (yj_end1 he), yx_learn hgo (yj40 A1.1.2.1) A1.1.2.2 A1.2 hl⟩
      · exact ⟨A1.1, Or.inr hgo, A1.2⟩
  · refine xb2P (P := PSO) (fun r7 u6 h7 h6 => ?_)
    have A1 := yj_asks hex4 htt hrd hgo hj hxe h7 h6
    refine xiteP (P := PSO) (fun c7 => ?_) (fun c7 => ?_)
    · refine xb2P (P := PSO) (fun r8 u8 h8 h9 => ?_)
      have T1 := yj_tries hex4 htt hrd A1.1 h9
      refine xiteP (P := PSO) (fun c8 => ?_) (fun c8 => ?_)
      · refine xb2P (P := PSO) (fun r9 u9 h10 h11 => ?_)
        have D1 := yj_db T1 h11
        refine xiteP (P := PSO) (fun c9 => xbP (P := PSO) (fun _ he => ?_)) (fun c9 => ?_)
        · exact ⟨yj_end D1 he, Or.inl (yj_end1 he), A1.2⟩
        · refine xiteP (P := PSO) (fun _ => xbP (P := PSO) (fun _ hl => xbP (P := PSO) (fun _ he => ?_))) (fun _ => ?_)
          · exact ⟨yj_end D1 he, Or.inl (yj_end1 he), yx_learn hgo (yj40 D1.2.1) D1.2.2 A1.2 hl⟩
          · exact ⟨D1, Or.inr hgo, A1.2⟩
      · refine xiteP (P := PSO) (fun _ => xbP (P := PSO) (fun _ hl => xbP (P := PSO) (fun _ he => ?_))) (fun _ => ?_)
        · exact ⟨yj_end T1 he, Or.inl (yj_end1 he), yx_learn hgo (yj40 T1.2.1) T1.2.2 A1.2 hl⟩
        · exact ⟨T1, Or.inr hgo, A1.2⟩
    · refine xiteP (P := PSO) (fun _ => xbP (P := PSO) (fun _ hl => xbP (P := PSO) (fun _ he => ?_))) (fun _ => ?_)
      · exact ⟨yj_end A1.1 he, Or.inl (yj_end1 he), yx_learn hgo (yj40 A1.1.2.1) A1.1.2.2 A1.2 hl⟩
      · exact ⟨A1.1, Or.inr hgo, A1.2⟩
  · have J1 := yj_take htt hrd (yq4in hj.1 (yrem hxe hgo hj.1 h2 c2)) hj (pX5_canTake h3 c3).1 h4
    refine xiteP (P := PSO) (fun _ => xbP (P := PSO) (fun _ hl => xbP (P := PSO) (fun _ he => ?_))) (fun _ => ?_)
    · exact ⟨yj_end J1 he, Or.inl (yj_end1 he), yx_learn hgo (yj40 J1.2.1) J1.2.2 hxe hl⟩
    · exact ⟨J1, Or.inr hgo, hxe⟩
