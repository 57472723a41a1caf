/-! a new road -/
theorem ysx_upd (f : Nat → Int32) (k : Nat) (v : Int32) : ∀ n, ysx n (upd f k v) = ysx n f + (if k < n then v.toInt - (f k).toInt else 0)
  | 0 => rfl
  | n + 1 => by
    have h := ysx_upd f k v n
    unfold ysx
    by_cases c : k = n
    · rw [h, if_neg (by omega), if_pos (by omega), c, pk_us]
      omega
    · rw [h, pk_un (fun h => c h.symm)]
      by_cases c2 : k < n
      · rw [if_pos c2, if_pos (by omega)]; omega
      · rw [if_neg c2, if_neg (by omega)]; omega
theorem zrdk {a b : Int32} (ha : 0 ≤ a.toInt) (hb : 0 ≤ b.toInt) : a.toNatClampNeg = b.toNatClampNeg ↔ a = b :=
  ⟨fun h => by rw [← znI ha, ← znI hb, h], fun h => by rw [h]⟩
set_option maxHeartbeats 4000000 in
set_option maxRecDepth 100000 in
/-- the land with a road more, from place i to place j -/
theorem zroad {pl rs : Int32} {ex ld tw le op rd ml cz : Nat → Int32} (hL : zL pl rs ex ld tw le op rd ml cz) {i j pi pj : Nat} {n : Int32} {ex2 ld2 tw2 le2 op2 rd2 ml2 cz2 : Nat → Int32} (hi : (i : Int) < pl.toInt) (hj : (j : Int) < pl.toInt) (hij : i ≠ j) (hpi : (ex i).toInt = pi) (hpj : (ex j).toInt = pj) (h4i : pi < 4) (h4j : pj < 4) (hn : 1 ≤ n.toInt ∧ n.toInt ≤ 9) (hr20 : rs.toInt < 20)
    (hex2 : ex2 = upd (upd ex i (ex i + 1)) j (ex j + 1)) (hld2 : ld2 = upd (upd ld (4 * i + pi) (nI j)) (4 * j + pj) (nI i)) (htw2 : tw2 = upd (upd tw (4 * i + pi) (nI (4 * j + pj))) (4 * j + pj) (nI (4 * i + pi))) (hle2 : le2 = upd (upd le (4 * i + pi) n) (4 * j + pj) n) (hop2 : op2 = upd (upd op (4 * i + pi) 1) (4 * j + pj) 1)
    (hrd2 : rd2 = upd (upd rd (4 * i + pi) rs) (4 * j + pj) rs) (hml2 : ml2 = upd ml rs.toNatClampNeg n) (hcz2 : cz2 = upd cz rs.toNatClampNeg 0) :
    zL pl (rs + 1) ex2 ld2 tw2 le2 op2 rd2 ml2 cz2 ∧ (∀ e, zE pl ex2 e ↔ (zE pl ex e ∨ e = 4 * i + pi ∨ e = 4 * j + pj)) ∧ (∀ k, k < 10 → (ex k).toInt ≤ (ex2 k).toInt) ∧ (¬ zE pl ex (4 * i + pi)) ∧ (¬ zE pl ex (4 * j + pj)) := by
  obtain ⟨hpl, hex4, hex0, hld, htw, hop, hrs, hrd, hcz, hv, hnv⟩ := id hL
  obtain ⟨e1, he1⟩ : ∃ e, e = 4 * i + pi := ⟨_, rfl⟩
  obtain ⟨e2, he2⟩ : ∃ e, e = 4 * j + pj := ⟨_, rfl⟩
  rw [← he1] at hld2 htw2 hle2 hop2 hrd2 ⊢
  rw [← he2] at hld2 htw2 hle2 hop2 hrd2 ⊢
  have d1 : e1 / 4 = i := by omega
  have d2 : e2 / 4 = j := by omega
  have m1 : e1 % 4 = pi := by omega
  have m2 : e2 % 4 = pj := by omega
  have h12 : e1 ≠ e2 := by omega
  have n1 : ¬ zE pl ex e1 := fun h => by have := h.2.2; rw [d1, m1] at this; omega
  have n2 : ¬ zE pl ex e2 := fun h => by have := h.2.2; rw [d2, m2] at this; omega
  have xi : (ex i + 1).toInt = pi + 1 := by rw [yinc (by omega), hpi]
  have xj : (ex j + 1).toInt = pj + 1 := by rw [yinc (by omega), hpj]
  have x2 : ∀ k, (ex2 k).toInt = if k = j then (pj : Int) + 1 else if k = i then (pi : Int) + 1 else (ex k).toInt := by
    intro k
    rw [hex2]
    by_cases c1 : k = j
    · rw [if_pos c1, c1, pk_us, xj]
    · rw [if_neg c1, pk_un c1]
      by_cases c2 : k = i
      · rw [if_pos c2, c2, pk_us, xi]
      · rw [if_neg c2, pk_un c2]
  have hE : ∀ e, zE pl ex2 e ↔ (zE pl ex e ∨ e = e1 ∨ e = e2) := by
    intro e
    unfold zE
    rw [x2]
    by_cases c1 : e / 4 = j
    · rw [if_pos c1, c1]
      constructor
      · intro ⟨a1, a2, a3⟩
        by_cases c : e = e2
        · exact Or.inr (Or.inr c)
        · exact Or.inl ⟨a1, a2, by rw [hpj]; omega⟩
      · intro h
        rcases h with ⟨a1, a2, a3⟩ | h | h
        · rw [hpj] at a3; exact ⟨a1, a2, by omega⟩
        · omega
        · exact ⟨by omega, hj, by omega⟩
    · rw [if_neg c1]
      by_cases c2 : e / 4 = i
      · rw [if_pos c2, c2]
        constructor
        · intro ⟨a1, a2, a3⟩
          by_cases c : e = e1
          · exact Or.inr (Or.inl c)
          · exact Or.inl ⟨a1, a2, by rw [hpi]; omega⟩
        · intro h
          rcases h with ⟨a1, a2, a3⟩ | h | h
          · rw [hpi] at a3; exact ⟨a1, a2, by omega⟩
          · exact ⟨by omega, hi, by omega⟩
          · omega
      · rw [if_neg c2]
        exact ⟨fun h => Or.inl h, fun h => by
          rcases h with h | h | h
          · exact h
          · omega
          · omega⟩
  have hrn := znat hrs.1
  have hri : nI rs.toNatClampNeg = rs := znI hrs.1
  have hr1 : (rs + 1).toInt = rs.toInt + 1 := yinc (by omega)
  have u2 : ∀ {f g : Nat → Int32} {a b : Int32}, g = upd (upd f e1 a) e2 b → (g e1 = a ∧ g e2 = b ∧ ∀ k, k ≠ e1 → k ≠ e2 → g k = f k) := by
    intro f g a b h
    rw [h]
    exact ⟨by rw [pk_un h12, pk_us], pk_us, fun k k1 k2 => by rw [pk_un k2, pk_un k1]⟩
  obtain ⟨l1, l2, l3⟩ := u2 hld2
  obtain ⟨t1, t2, t3⟩ := u2 htw2
  obtain ⟨g1, g2, g3⟩ := u2 hle2
  obtain ⟨o1, o2, o3⟩ := u2 hop2
  obtain ⟨r1, r2, r3⟩ := u2 hrd2
  have allk : ∀ {P : Nat → Prop}, P e1 → P e2 → (∀ k, k ≠ e1 → k ≠ e2 → P k) → ∀ k, P k := by
    intro P p1 p2 p3 k
    by_cases c1 : k = e1
    · rw [c1]; exact p1
    · by_cases c2 : k = e2
      · rw [c2]; exact p2
      · exact p3 k c1 c2
  have hji : (nI j).toInt = j := nI_toInt (by omega)
  have hii : (nI i).toInt = i := nI_toInt (by omega)
  have hc1 : (nI e1).toNatClampNeg = e1 := nI_clamp (by omega)
  have hc2 : (nI e2).toNatClampNeg = e2 := nI_clamp (by omega)
  have h1i : (nI e1).toInt = e1 := nI_toInt (by omega)
  have h2i : (nI e2).toInt = e2 := nI_toInt (by omega)
  have z1 : zE pl ex2 e1 := (hE e1).mpr (Or.inr (Or.inl rfl))
  have z2 : zE pl ex2 e2 := (hE e2).mpr (Or.inr (Or.inr rfl))
  have mr : ml2 rs.toNatClampNeg = n := by rw [hml2, pk_us]
  have cr : cz2 rs.toNatClampNeg = 0 := by rw [hcz2, pk_us]
  -- an old end: as it was
  have old : ∀ e, zE pl ex e → e ≠ e1 ∧ e ≠ e2 := fun e h => ⟨fun c => n1 (by rw [← c]; exact h), fun c => n2 (by rw [← c]; exact h)⟩
  have rdne : ∀ e, zE pl ex e → ¬ (rd e).toNatClampNeg = rs.toNatClampNeg := fun e h c => by
    have h1 := (hv e h).2.2.2.1
    have h2 := znat (hrd e h.1).1
    omega
  refine ⟨⟨hpl, fun k hk => ?_, fun k hk hk2 => ?_, ?_, ?_, ?_, ?_, ?_, fun k hk => ?_, fun e hz => ?_, fun e he hz => ?_⟩, hE, fun k hk => ?_, n1, n2⟩
  · rw [x2]
    have := hex4 k hk
    split
    · omega
    · split <;> omega
  · rw [x2, if_neg (by omega), if_neg (by omega)]
    exact hex0 k hk hk2
  · exact allk (P := fun k => k < 40 → 0 ≤ (ld2 k).toInt ∧ (ld2 k).toInt < 10) (fun _ => by rw [l1, hji]; omega) (fun _ => by rw [l2, hii]; omega) (fun k k1 k2 hk => by rw [l3 k k1 k2]; exact hld k hk)
  · exact allk (P := fun k => k < 40 → 0 ≤ (tw2 k).toInt ∧ (tw2 k).toInt < 40) (fun _ => by rw [t1, h2i]; omega) (fun _ => by rw [t2, h1i]; omega) (fun k k1 k2 hk => by rw [t3 k k1 k2]; exact htw k hk)
  · exact allk (P := fun k => k < 40 → op2 k = 0 ∨ op2 k = 1) (fun _ => Or.inr o1) (fun _ => Or.inr o2) (fun k k1 k2 hk => by rw [o3 k k1 k2]; exact hop k hk)
  · rw [hr1, hex2, ysx_upd, ysx_upd, if_pos (by omega), if_pos (by omega), pk_un (fun h => hij h.symm), xi, xj, hpi, hpj]
    omega
  · exact allk (P := fun k => k < 40 → 0 ≤ (rd2 k).toInt ∧ (rd2 k).toInt < 20) (fun _ => by rw [r1]; omega) (fun _ => by rw [r2]; omega) (fun k k1 k2 hk => by rw [r3 k k1 k2]; exact hrd k hk)
  · rw [hcz2]
    by_cases c : k = rs.toNatClampNeg
    · rw [c, pk_us]; exact Or.inl rfl
    · rw [pk_un c]; exact hcz k hk
  · rcases (hE e).mp hz with h | h | h
    · obtain ⟨v1, ⟨v2, v2b, v2c, v2d⟩, v3, v4, v5, v6, v7⟩ := hv e h
      obtain ⟨q1, q2⟩ := old e h
      obtain ⟨p1, p2⟩ := old _ v2
      refine ⟨by rw [l3 e q1 q2]; exact v1, ⟨by rw [t3 e q1 q2]; exact (hE _).mpr (Or.inl v2), by rw [t3 e q1 q2, t3 _ p1 p2]; exact v2b, by rw [t3 e q1 q2]; exact v2c, by rw [t3 e q1 q2, l3 e q1 q2]; exact v2d⟩, by rw [g3 e q1 q2]; exact v3, by rw [r3 e q1 q2, hr1]; omega, by rw [r3 e q1 q2, g3 e q1 q2, hml2, pk_un (rdne e h)]; exact v5, by rw [r3 e q1 q2, o3 e q1 q2, hcz2, pk_un (rdne e h)]; exact v6, fun e3 hz3 => ?_⟩
      rw [r3 e q1 q2, t3 e q1 q2]
      rcases (hE e3).mp hz3 with h3 | h3 | h3
      · obtain ⟨q3, q4⟩ := old e3 h3
        rw [r3 e3 q3 q4]
        exact v7 e3 h3
      · rw [h3, r1]
        exact ⟨fun hh => absurd (by rw [hh]) (rdne e h), fun hh => by
          rcases hh with hh | hh
          · exact absurd hh.symm q1
          · exact absurd hh.symm p1⟩
      · rw [h3, r2]
        exact ⟨fun hh => absurd (by rw [hh]) (rdne e h), fun hh => by
          rcases hh with hh | hh
          · exact absurd hh.symm q2
          · exact absurd hh.symm p2⟩
    · rw [h]
      refine ⟨by rw [l1, hji]; exact hj, ⟨by rw [t1, hc2]; exact z2, by rw [t1, hc2, t2], by rw [t1, hc2]; exact fun c => h12 c.symm, by rw [t1, hc2, l1, d2]⟩, by rw [g1]; exact hn, by rw [r1, hr1]; omega, by rw [r1, g1]; exact mr, by rw [r1, o1, cr]; exact ⟨fun h => absurd h (by decide), fun h => absurd rfl h⟩, fun e3 hz3 => ?_⟩
      rw [r1, t1, hc2]
      rcases (hE e3).mp hz3 with h3 | h3 | h3
      · obtain ⟨q3, q4⟩ := old e3 h3
        rw [r3 e3 q3 q4]
        exact ⟨fun hh => absurd (by rw [hh]) (rdne e3 h3), fun hh => by
          rcases hh with hh | hh
          · exact absurd hh q3
          · exact absurd hh q4⟩
      · rw [h3, r1]; exact ⟨fun _ => Or.inl rfl, fun _ => rfl⟩
      · rw [h3, r2]; exact ⟨fun _ => Or.inr rfl, fun _ => rfl⟩
    · rw [h]
      refine ⟨by rw [l2, hii]; exact hi, ⟨by rw [t2, hc1]; exact z1, by rw [t2, hc1, t1], by rw [t2, hc1]; exact h12, by rw [t2, hc1, l2, d1]⟩, by rw [g2]; exact hn, by rw [r2, hr1]; omega, by rw [r2, g2]; exact mr, by rw [r2, o2, cr]; exact ⟨fun h => absurd h (by decide), fun h => absurd rfl h⟩, fun e3 hz3 => ?_⟩
      rw [r2, t2, hc1]
      rcases (hE e3).mp hz3 with h3 | h3 | h3
      · obtain ⟨q3, q4⟩ := old e3 h3
        rw [r3 e3 q3 q4]
        exact ⟨fun hh => absurd (by rw [hh]) (rdne e3 h3), fun hh => by
          rcases hh with hh | hh
          · exact absurd hh q4
          · exact absurd hh q3⟩
      · rw [h3, r1]; exact ⟨fun _ => Or.inr rfl, fun _ => rfl⟩
      · rw [h3, r2]; exact ⟨fun _ => Or.inl rfl, fun _ => rfl⟩
  · obtain ⟨q1, q2⟩ : e ≠ e1 ∧ e ≠ e2 := ⟨fun c => hz (by rw [c]; exact z1), fun c => hz (by rw [c]; exact z2)⟩
    rw [o3 e q1 q2]
    exact hnv e he (fun h => hz ((hE e).mpr (Or.inl h)))
  · rw [x2]
    split
    · rename_i c; rw [c, hpj]; omega
    · split
      · rename_i c; rw [c, hpi]; omega
      · exact Int.le_refl _
theorem zroom {pl : Int32} {ex : Nat → Int32} {j : Nat} (hpl : 0 ≤ pl.toInt ∧ pl.toInt ≤ 10) (hj : (j : Int) < pl.toInt) : FX1_hasRoom pl ex (nI j) = if ex j < 4 then 1 else 0 := by
  have h := nI_toInt (n := j) (by omega)
  unfold FX1_hasRoom xbind
  try dsimp only
  rw [zpl (by rw [h]; omega), if_neg (by decide), nI_clamp (by omega)]
  by_cases c : ex j < 4
  · rw [if_pos c, if_neg (xnle ((xltI _ _).mp c))]
  · rw [if_neg c, if_pos ((xle _ _).mpr (Int.not_lt.mp (fun h => c ((xltI _ _).mpr h))))]
set_option maxHeartbeats 4000000 in
set_option maxRecDepth 100000 in
theorem zo_addRoad {N : Nat} {pl rs po pq go wl gu iv : Int32} {ex sh ld tw le op rd ml cz wy tr ak mx ms ur uk uy xe sg : Nat → Int32} (hI : zI N pl rs ex sh ld tw le op rd ml cz po pq go wl gu iv wy tr ak mx ms ur uk uy xe sg) (a b n : Int32) (ot : Nat → Int64) : ∃ (k r rs2 : Int32) (ex2 ld2 tw2 le2 op2 rd2 ml2 cz2 ur2 : Nat → Int32) (ot2 : Nat → Int64), FL_addRoad pl ex ld tw le op a b n ot = (k, ex2, ld2, tw2, le2, op2, ot2) ∧ FX5_addRoad pl rs ex rd ld ml cz ur a b n = (r, k, rs2, ex2, rd2, ld2, ml2, cz2, ur2) ∧ (k = 0 → ot2 0 = r.toInt64) ∧ zI N pl rs2 ex2 sh ld2 tw2 le2 op2 rd2 ml2 cz2 po pq go wl gu iv wy tr ak mx ms ur2 uk uy xe sg := by
  have hpl := hI.1.1
  have hex4 := hI.1.2.1
  have hrs := hI.1.2.2.2.2.2.2.1
  have e4 : (4 : Int32).toInt = 4 := rfl
  rcases zplc hpl a with ⟨h1, h2⟩ | ⟨i, h1, h2, h3, h4⟩
  · refine ⟨1, 0, rs, ex, ld, tw, le, op, rd, ml, cz, ur, ot, ?_, ?_, fun h => absurd h (by decide), hI⟩
    · unfold FL_addRoad FX3_addRoad
      rw [zcp0 h1]; rfl
    · unfold FX5_addRoad
      rw [h2]; rfl
  · rcases zplc hpl b with ⟨k1, k2⟩ | ⟨j, k1, k2, k3, k4⟩
    · refine ⟨1, 0, rs, ex, ld, tw, le, op, rd, ml, cz, ur, ot, ?_, ?_, fun h => absurd h (by decide), hI⟩
      · unfold FL_addRoad FX3_addRoad
        rw [zcp1 h3, zcp0 k1]; rfl
      · unfold FX5_addRoad
        rw [h4, k2]; rfl
    · by_cases cab : a = b
      · refine ⟨2, 0, rs, ex, ld, tw, le, op, rd, ml, cz, ur, ot, ?_, ?_, fun h => absurd h (by decide), hI⟩
        · unfold FL_addRoad FX3_addRoad
          rw [zcp1 h3, zcp1 k3, if_pos cab]; rfl
        · unfold FX5_addRoad
          rw [h4, k4, if_pos cab]; rfl
      · have hij : i ≠ j := fun h => cab (by rw [h1, k1, h])
        rcases zrg (q := n) (m := 9) with ⟨g1, g2⟩ | ⟨g0, g1, g2⟩
        · refine ⟨2, 0, rs, ex, ld, tw, le, op, rd, ml, cz, ur, ot, ?_, ?_, fun h => absurd h (by decide), hI⟩
          · unfold FL_addRoad FX3_addRoad
            rw [zcp1 h3, zcp1 k3, if_neg cab, g1]; rfl
          · unfold FX5_addRoad
            rw [h4, k4, if_neg cab, g2]; rfl
        · have hac : a.toNatClampNeg = i := by rw [h1, nI_clamp (by omega)]
          have hbc : b.toNatClampNeg = j := by rw [k1, nI_clamp (by omega)]
          have x4i := hex4 i (by omega)
          have x4j := hex4 j (by omega)
          have fa : FX1_hasRoom pl ex a = if ex i < 4 then 1 else 0 := by rw [h1]; exact zroom hpl h2
          have fb : FX1_hasRoom pl ex b = if ex j < 4 then 1 else 0 := by rw [k1]; exact zroom hpl k2
          by_cases ci : ex i < 4
          · by_cases cj : ex j < 4
            · have ci' := ci
              have cj' := cj
              rw [xltI, e4] at ci' cj'
              rw [if_pos ci] at fa
              rw [if_pos cj] at fb
              obtain ⟨pi, p1, p2, p3⟩ := xofI x4i.1
              obtain ⟨pj, q1, q2, q3⟩ := xofI x4j.1
              have nq : ¬ ex a.toNatClampNeg = 4 := by rw [hac, xeqI, e4]; omega
              have nw : ¬ ex b.toNatClampNeg = 4 := by rw [hbc, xeqI, e4]; omega
              have ten : ∀ {y : Int32} {m : Nat}, y = nI m → (m : Int) < pl.toInt → 0 ≤ y.toInt ∧ y.toInt < 10 := fun hy hm => by
                rw [hy, nI_toInt (by omega)]; omega
              have h20 := yrs hex4 hrs (ten h1 h2) (ten k1 k2) cab nq nw
              have ea : a * 4 + ex a.toNatClampNeg = nI (4 * i + pi) := by rw [hac, h1, p2, z4']
              have eb : b * 4 + ex b.toNatClampNeg = nI (4 * j + pj) := by rw [hbc, k1, q2, z4']
              have ea5 : 4 * a + ex a.toNatClampNeg = nI (4 * i + pi) := by rw [hac, h1, p2, z4]
              have eb5 : 4 * b + ex b.toNatClampNeg = nI (4 * j + pj) := by rw [hbc, k1, q2, z4]
              have ca : (nI (4 * i + pi)).toNatClampNeg = 4 * i + pi := nI_clamp (by omega)
              have cb : (nI (4 * j + pj)).toNatClampNeg = 4 * j + pj := nI_clamp (by omega)
              have pa : FX3_placeOfEnd (nI (4 * i + pi)) = nI i := by
                unfold FX3_placeOfEnd
                rw [zdvI (by omega), show (4 * i + pi) / 4 = i from by omega]
              have pb : FX3_placeOfEnd (nI (4 * j + pj)) = nI j := by
                unfold FX3_placeOfEnd
                rw [zdvI (by omega), show (4 * j + pj) / 4 = j from by omega]
              have hexj : upd ex i (ex i + 1) j = ex j := pk_un (fun h => hij h.symm)
              obtain ⟨Z1, Z2, Z3, Z4, Z5⟩ := zroad hI.1 (n := n) h2 k2 hij p3 q3 (by omega) (by omega) (by rw [show (9 : Int32).toInt = 9 from rfl] at g0; exact g0) h20.2 rfl rfl rfl rfl rfl rfl rfl rfl
              have hrn := znat hrs.1
              -- no mark on the new road
              have u0 : go = -1 ∨ ∀ k, k < 20 → ¬ ur k = 0 → ∃ e, zE pl ex e ∧ (rd e).toNatClampNeg = k := by
                rcases hI.2.2.2.2 with h | h
                · rcases h.2.2.2.2 with h | h
                  · exact Or.inl h.1
                  · exact Or.inr h.2.2.2.2.1
                · exact Or.inl h.2.2.2.1
              have ur0 : ∀ k, k < 20 → upd ur rs.toNatClampNeg 0 k = ur k := by
                intro k hk
                by_cases c : k = rs.toNatClampNeg
                · rw [c, pk_us]
                  rcases hI.2.2.2.2 with h | h
                  · rcases h.2.2.2.2 with h | h
                    · exact (h.2.2 _ (by omega)).symm
                    · refine Classical.byContradiction fun hne => ?_
                      obtain ⟨e, y1, y2⟩ := h.2.2.2.2.1 rs.toNatClampNeg (by omega) (fun hh => hne hh.symm)
                      have y3 := (hI.1.2.2.2.2.2.2.2.2.2.1 e y1).2.2.2.1
                      have y4 := znat (hI.1.2.2.2.2.2.2.2.1 e y1.1).1
                      omega
                  · exact (h.2.2.2.2.2.2.2 _ (by omega)).symm
                · rw [pk_un c]
              have hB2 : ∀ {w : Int32}, zB pl ex w wy ur uk uy → zB pl (upd (upd ex i (ex i + 1)) j (ex j + 1)) w wy (upd ur rs.toNatClampNeg 0) uk uy := fun hB => ⟨fun k hk => by rw [ur0 k hk]; exact hB.1 k hk, hB.2.1, by rw [ycnt_congr 20 ur0]; exact hB.2.2.1, fun k hk => by
                obtain ⟨y1, e, y2, y3⟩ := hB.2.2.2.1 k hk
                exact ⟨y1, e, y2, (Z2 e).mpr (Or.inl y3)⟩, hB.2.2.2.2⟩
              have hM2 : zM pl ex mx ms xe sg → zM pl (upd (upd ex i (ex i + 1)) j (ex j + 1)) mx ms xe sg := fun hM k hk => by
                rcases hM k hk with y | ⟨y1, y2, y3, y4, y5, y6⟩
                · exact Or.inl y
                · exact Or.inr ⟨y1, y2, y3, y4, y5, by have := Z3 (k % 10) (by omega); omega⟩
              refine ⟨0, ex i, rs + 1, upd (upd ex i (ex i + 1)) j (ex j + 1), upd (upd ld (4 * i + pi) (nI j)) (4 * j + pj) (nI i), upd (upd tw (4 * i + pi) (nI (4 * j + pj))) (4 * j + pj) (nI (4 * i + pi)), upd (upd le (4 * i + pi) n) (4 * j + pj) n, upd (upd op (4 * i + pi) 1) (4 * j + pj) 1, upd (upd rd (4 * i + pi) rs) (4 * j + pj) rs, upd ml rs.toNatClampNeg n, upd cz rs.toNatClampNeg 0, upd ur rs.toNatClampNeg 0, vp_updL ot (0 : Int32).toNatClampNeg (ex i).toInt64, ?_, ?_, fun _ => zot, Z1, hI.2.1, hI.2.2.1, hI.2.2.2.1, ?_⟩
              · have ej : FX1_join pl ex ld tw le op a b n = (ex i, upd (upd ex i (ex i + 1)) j (ex j + 1), upd (upd ld (4 * i + pi) (nI j)) (4 * j + pj) (nI i), upd (upd tw (4 * i + pi) (nI (4 * j + pj))) (4 * j + pj) (nI (4 * i + pi)), upd (upd le (4 * i + pi) n) (4 * j + pj) n, upd (upd op (4 * i + pi) 1) (4 * j + pj) 1) := by
                  unfold FX1_join FX1_layEnd xbind
                  try dsimp only
                  rw [ea, eb, pa, pb, ca, cb, hac, hbc, hexj]
                unfold FL_addRoad FX3_addRoad
                rw [zcp1 h3, zcp1 k3, if_neg cab, g1, fa, fb, ej]; rfl
              · unfold FX5_addRoad FX5_addExit xbind
                try dsimp only
                rw [h4, if_neg (by decide), k4, if_neg (by decide), if_neg cab, g2, if_neg (by decide), if_neg nq, if_neg nw, ea5, hac, hbc, hexj, ← hbc, eb5, hbc, ca, cb, pk_un (fun h => hij h), pk_us, Int32.add_sub_cancel, k1, h1]
              · rcases hI.2.2.2.2 with ⟨y0, y1, y2, y3, y4⟩ | ⟨y1, y2, y3, y4, y5, y6, y7, y8⟩
                · refine Or.inl ⟨y0, y1, hB2 y2, hM2 y3, ?_⟩
                  rcases y4 with ⟨w1, w2, w3⟩ | ⟨w1, w2, w3, w4, w5, w6⟩
                  · exact Or.inl ⟨w1, w2, fun k hk => by rw [ur0 k hk]; exact w3 k hk⟩
                  · have rdo : ∀ e, zE pl ex e → upd (upd rd (4 * i + pi) rs) (4 * j + pj) rs e = rd e := fun e hz => by
                      rw [pk_un (fun h => Z5 (by rw [← h]; exact hz)), pk_un (fun h => Z4 (by rw [← h]; exact hz))]
                    refine Or.inr ⟨w1, w2, fun e hz => ?_, w4, fun k hk hne => ?_, fun e he hz => w6 e he (fun h => hz ((Z2 e).mpr (Or.inl h)))⟩
                    · rcases (Z2 e).mp hz with h | h | h
                      · rw [rdo e h, ur0 _ (xcl (hI.1.2.2.2.2.2.2.2.1 e h.1))]
                        exact w3 e h
                      · have : upd (upd rd (4 * i + pi) rs) (4 * j + pj) rs e = rs := by rw [h, pk_un (by omega), pk_us]
                        rw [this, pk_us, h]
                        exact w6 _ (by omega) Z4
                      · have : upd (upd rd (4 * i + pi) rs) (4 * j + pj) rs e = rs := by rw [h, pk_us]
                        rw [this, pk_us, h]
                        exact w6 _ (by omega) Z5
                    · rw [ur0 k hk] at hne
                      obtain ⟨e, y5, y6⟩ := w5 k hk hne
                      exact ⟨e, (Z2 e).mpr (Or.inl y5), by rw [rdo e y5]; exact y6⟩
                · rw [y1] at h2
                  exact absurd h2 (by rw [show (0 : Int32).toInt = 0 from rfl]; omega)
            · rw [if_pos ci] at fa
              rw [if_neg cj] at fb
              have cj' := cj
              rw [xltI, e4] at cj'
              have ci' := ci
              rw [xltI, e4] at ci'
              refine ⟨3, 0, rs, ex, ld, tw, le, op, rd, ml, cz, ur, ot, ?_, ?_, fun h => absurd h (by decide), hI⟩
              · unfold FL_addRoad FX3_addRoad
                rw [zcp1 h3, zcp1 k3, if_neg cab, g1, fa, fb]; rfl
              · unfold FX5_addRoad xbind
                try dsimp only
                rw [h4, if_neg (by decide), k4, if_neg (by decide), if_neg cab, g2, if_neg (by decide), if_neg (by rw [hac, xeqI, e4]; omega), if_pos (by rw [hbc, xeqI, e4]; omega)]; rfl
          · rw [if_neg ci] at fa
            have ci' := ci
            rw [xltI, e4] at ci'
            refine ⟨3, 0, rs, ex, ld, tw, le, op, rd, ml, cz, ur, ot, ?_, ?_, fun h => absurd h (by decide), hI⟩
            · unfold FL_addRoad FX3_addRoad
              rw [zcp1 h3, zcp1 k3, if_neg cab, g1, fa]; rfl
            · unfold FX5_addRoad xbind
              try dsimp only
              rw [h4, if_neg (by decide), k4, if_neg (by decide), if_neg cab, g2, if_neg (by decide), if_pos (by rw [hac, xeqI, e4]; omega)]; rfl
