theorem ye4 {ex : Nat → Int32} {q : Int32} {i : Nat} (hex4 : ∀ k, k < 10 → 0 ≤ (ex k).toInt ∧ (ex k).toInt ≤ 4) (hq : 0 ≤ q.toInt ∧ q.toInt < 10) (hlo : ((i : Nat) : Int) ≤ (ex q.toNatClampNeg).toInt) (h : ¬ ex q.toNatClampNeg ≤ nI i) : 0 ≤ (4 * q + nI i).toInt ∧ (4 * q + nI i).toInt < 40 := by
  have h2 := xlt2 hlo h
  have h4 := hex4 _ (xcl hq)
  exact yq4in hq (by omega)
theorem ysub1 {x : Int32} (h : 0 ≤ x.toInt ∧ x.toInt ≤ 40) (c : ¬ x = 0) : (x - 1).toInt = x.toInt - 1 ∧ 0 ≤ (x - 1).toInt ∧ (x - 1).toInt < 40 := by
  rw [xeqI, show (0 : Int32).toInt = 0 from rfl] at c
  rw [xsub1 (by omega)]
  omega
def LX5_toldExit_t (ex : Nat → Int32) (rd : Nat → Int32) (tt : Nat → Int32) (ml : Nat → Int32) (cz : Nat → Int32) (fa : Nat → Int32) (q : Int32) : Nat → Nat → (Int32) → (Int32) → (Int32) × (Int32)
  | 0, i, bt, lst => (bt, lst)
  | n + 1, i, bt, lst =>
    if (ex q.toNatClampNeg) ≤ (nI i) then ((bt, lst)) else (if (cz (rd ((4 * q) + (nI i)).toNatClampNeg).toNatClampNeg) = 0 then (if ((fa (tt ((4 * q) + (nI i)).toNatClampNeg).toNatClampNeg) + (ml (rd ((4 * q) + (nI i)).toNatClampNeg).toNatClampNeg)) < lst then (LX5_toldExit_t ex rd tt ml cz fa q n (i + 1) (nI i) ((fa (tt ((4 * q) + (nI i)).toNatClampNeg).toNatClampNeg) + (ml (rd ((4 * q) + (nI i)).toNatClampNeg).toNatClampNeg))) else (LX5_toldExit_t ex rd tt ml cz fa q n (i + 1) bt lst)) else (LX5_toldExit_t ex rd tt ml cz fa q n (i + 1) bt lst))
set_option maxHeartbeats 40000000 in
set_option maxRecDepth 100000 in
theorem lpX5_toldExit_t {pg : Program} {l : Launch} {en : Env} {s : State} {mi : MethodId} {args : Array Value} {below : List Frame} {meth : Method} {cd : Code} {A : Nat → Prop} {Q : State → Prop} (G : xG) (hc : xC pg s mi args meth cd cX5_toldExit 7 RX5 wsX5_toldExit (some .int) G A) (aR : Nat) (rEx : Nat) (rRd : Nat) (rTo : Nat) (rMi : Nat) (rCl : Nat) (rSh : Nat) (rFa : Nat) (aS : Nat) (aH : Nat) (th : Int32) (pl : Int32) (rs : Int32) (ex : Nat → Int32) (rd : Nat → Int32) (tt : Nat → Int32) (ml : Nat → Int32) (cz : Nat → Int32) (fa : Nat → Int32) (q : Int32) (g : Int32) (hpl : 0 ≤ pl.toInt ∧ pl.toInt ≤ 10) (hex4 : ∀ k, k < 10 → 0 ≤ (ex k).toInt ∧ (ex k).toInt ≤ 4) (hrd : ∀ k, k < 40 → 0 ≤ (rd k).toInt ∧ (rd k).toInt < 20) (htt : ∀ k, k < 40 → 0 ≤ (tt k).toInt ∧ (tt k).toInt < 10) (hq : 0 ≤ q.toInt ∧ q.toInt < 10) :
    ∀ (n i : Nat) (bt : Int32) (lst : Int32), ((i : Nat) : Int) ≤ (ex q.toNatClampNeg : Int32).toInt → (ex q.toNatClampNeg : Int32).toInt < ((i + n : Nat) : Int) → ∀ (H : Heap) (locs : List Loc) (ls : Array Slot), xW G A s.heap [xO aR 5 [.int th, .int pl, .ref rEx, .ref rRd, .ref rTo, .int rs, .ref rMi, .ref rCl, .ref rSh, .ref rFa, .ref aS, .ref aH], xAI G rEx 10 ex, xAI G rRd 40 rd, xAI G rTo 40 tt, xAI G rMi 20 ml, xAZ G rCl 20 cz, xAI G rFa 10 fa] H locs → lv_has ls 7 [(0, .ref aR), (1, .int q), (2, .int g), (3, .int bt), (4, .int lst), (5, .int (nI i))] → (∀ (z : (Int32) × (Int32)), z = LX5_toldExit_t ex rd tt ml cz fa q n i bt lst → ∀ (H1 : Heap) (locs1 : List Loc) (ls1 : Array Slot), xW G A s.heap [xO aR 5 [.int th, .int pl, .ref rEx, .ref rRd, .ref rTo, .int rs, .ref rMi, .ref rCl, .ref rSh, .ref rFa, .ref aS, .ref aH], xAI G rEx 10 ex, xAI G rRd 40 rd, xAI G rTo 40 tt, xAI G rMi 20 ml, xAZ G rCl 20 cz, xAI G rFa 10 fa] H1 locs1 → lv_has ls1 7 [(0, .ref aR), (1, .int q), (2, .int g), (3, .int z.1), (4, .int z.2)] → W pg l en ⟨1, 0, 0, 24⟩ s mi args below meth cd H1 locs1 0 0 Q (F0 mi 118 ls1 [])) → W pg l en ⟨1, 0, 0, 24⟩ s mi args below meth cd H locs 0 0 Q (F0 mi 15 ls []) := by
  obtain ⟨hx, hb, -, hown, hts, -⟩ := id hc
  intro n
  induction n with
  | zero =>
    intro i bt lst hlo hfu
    intros; exact absurd hfu (by omega)
  | succ n ih =>
    intro i bt lst hlo hfu  H locs ls hw hl K
    refine lv_iload hx hb dX5_toldExit_15 (lv_at hl 5 rfl) ?_
    refine lv_aload_n hx hb dX5_toldExit_17 rfl (lv_at hl 0 rfl) ?_
    refine xget (C := RX5) (T := TX5) (N := 12) hc hw inX5_toldExit_X5 0 rfl rfl 2 (by decide) lkX5_toldExit_f9 rfl rfl dX5_toldExit_18 ?_
    refine lv_iload_n hx hb dX5_toldExit_21 rfl (lv_at hl 1 rfl) ?_
    refine xiald hc hw 1 rfl (xin hq) dX5_toldExit_22 ?_
    refine lv_icmp_ge (tgt := 118) hx hb dX5_toldExit_23 (by decide) (fun c_5 => ?_) (fun c_5 => ?_)
    · exact K (bt, lst) (Eq.symm (if_pos c_5)) H locs ls (by first | (dsimp only; exact hw) | exact hw) (by first | exact lv_sub hl [0, 1, 2, 3, 4] rfl | (dsimp only; exact lv_sub hl [0, 1, 2, 3, 4] rfl))
    · refine lv_iconst (v := 4) hx hb dX5_toldExit_26 (by decide) ?_
      refine lv_iload_n hx hb dX5_toldExit_27 rfl (lv_at hl 1 rfl) ?_
      refine lv_imul hx hb dX5_toldExit_28 ?_
      refine lv_iload hx hb dX5_toldExit_29 (lv_at hl 5 rfl) ?_
      refine lv_iadd hx hb dX5_toldExit_31 ?_
      refine lv_istore (lv' := [(6, .int ((4 * q) + (nI i))), (0, .ref aR), (1, .int q), (2, .int g), (3, .int bt), (4, .int lst), (5, .int (nI i))]) hx hb dX5_toldExit_32 hl (by decide) rfl (fun ls hl => ?_)
      refine lv_aload_n hx hb dX5_toldExit_34 rfl (lv_at hl 1 rfl) ?_
      refine xget (C := RX5) (T := TX5) (N := 12) hc hw inX5_toldExit_X5 0 rfl rfl 7 (by decide) lkX5_toldExit_f22 rfl rfl dX5_toldExit_35 ?_
      refine lv_aload_n hx hb dX5_toldExit_38 rfl (lv_at hl 1 rfl) ?_
      refine xget (C := RX5) (T := TX5) (N := 12) hc hw inX5_toldExit_X5 0 rfl rfl 3 (by decide) lkX5_toldExit_f13 rfl rfl dX5_toldExit_39 ?_
      refine lv_iload hx hb dX5_toldExit_42 (lv_at hl 0 rfl) ?_
      refine xiald hc hw 2 rfl (xin (ye4 hex4 hq hlo c_5)) dX5_toldExit_44 ?_
      refine xzald hc hw 5 rfl (xin (hrd _ (xcl (ye4 hex4 hq hlo c_5)))) dX5_toldExit_45 ?_
      refine lv_if_ne (tgt := 112) hx hb dX5_toldExit_46 (by decide) (fun c_6 => ?_) (fun c_6 => ?_)
      · refine lv_iinc (v := nI (i + 1)) (lv' := [(5, .int (nI (i + 1))), (6, .int ((4 * q) + (nI i))), (0, .ref aR), (1, .int q), (2, .int g), (3, .int bt), (4, .int lst)]) hx hb dX5_toldExit_112 hl (k := 6) rfl (nI_1 _) (by decide) rfl (fun ls hl => ?_)
        refine lv_goto (tgt := 15) hx hb dX5_toldExit_115 (by decide) ?_
        exact ih (i + 1) bt lst (xlt hlo c_5) (by omega) H locs ls hw (lv_sub hl [2, 3, 4, 5, 6, 0] rfl) (fun z e => K z (xtr1 (Eq.trans (if_neg c_5) (if_neg c_6)) e))
      · refine lv_aload_n hx hb dX5_toldExit_49 rfl (lv_at hl 1 rfl) ?_
        refine xget (C := RX5) (T := TX5) (N := 12) hc hw inX5_toldExit_X5 0 rfl rfl 9 (by decide) lkX5_toldExit_f29 rfl rfl dX5_toldExit_50 ?_
        refine lv_aload_n hx hb dX5_toldExit_53 rfl (lv_at hl 1 rfl) ?_
        refine xget (C := RX5) (T := TX5) (N := 12) hc hw inX5_toldExit_X5 0 rfl rfl 4 (by decide) lkX5_toldExit_f16 rfl rfl dX5_toldExit_54 ?_
        refine lv_iload hx hb dX5_toldExit_57 (lv_at hl 0 rfl) ?_
        refine xiald hc hw 3 rfl (xin (ye4 hex4 hq hlo c_5)) dX5_toldExit_59 ?_
        refine xiald hc hw 6 rfl (xin (htt _ (xcl (ye4 hex4 hq hlo c_5)))) dX5_toldExit_60 ?_
        refine lv_aload_n hx hb dX5_toldExit_61 rfl (lv_at hl 1 rfl) ?_
        refine xget (C := RX5) (T := TX5) (N := 12) hc hw inX5_toldExit_X5 0 rfl rfl 6 (by decide) lkX5_toldExit_f19 rfl rfl dX5_toldExit_62 ?_
        refine lv_aload_n hx hb dX5_toldExit_65 rfl (lv_at hl 1 rfl) ?_
        refine xget (C := RX5) (T := TX5) (N := 12) hc hw inX5_toldExit_X5 0 rfl rfl 3 (by decide) lkX5_toldExit_f13 rfl rfl dX5_toldExit_66 ?_
        refine lv_iload hx hb dX5_toldExit_69 (lv_at hl 0 rfl) ?_
        refine xiald hc hw 2 rfl (xin (ye4 hex4 hq hlo c_5)) dX5_toldExit_71 ?_
        refine xiald hc hw 4 rfl (xin (hrd _ (xcl (ye4 hex4 hq hlo c_5)))) dX5_toldExit_72 ?_
        refine lv_iadd hx hb dX5_toldExit_73 ?_
        refine lv_iload hx hb dX5_toldExit_74 (lv_at hl 5 rfl) ?_
        refine lv_icmp_lt (tgt := 82) hx hb dX5_toldExit_76 (by decide) (fun c_7 => ?_) (fun c_7 => ?_)
        · refine lv_iload hx hb dX5_toldExit_82 (lv_at hl 6 rfl) ?_
          refine lv_istore_n (lv' := [(3, .int (nI i)), (6, .int ((4 * q) + (nI i))), (0, .ref aR), (1, .int q), (2, .int g), (4, .int lst), (5, .int (nI i))]) hx hb dX5_toldExit_84 rfl hl (by decide) rfl (fun ls hl => ?_)
          refine lv_aload_n hx hb dX5_toldExit_85 rfl (lv_at hl 2 rfl) ?_
          refine xget (C := RX5) (T := TX5) (N := 12) hc hw inX5_toldExit_X5 0 rfl rfl 9 (by decide) lkX5_toldExit_f29 rfl rfl dX5_toldExit_86 ?_
          refine lv_aload_n hx hb dX5_toldExit_89 rfl (lv_at hl 2 rfl) ?_
          refine xget (C := RX5) (T := TX5) (N := 12) hc hw inX5_toldExit_X5 0 rfl rfl 4 (by decide) lkX5_toldExit_f16 rfl rfl dX5_toldExit_90 ?_
          refine lv_iload hx hb dX5_toldExit_93 (lv_at hl 1 rfl) ?_
          refine xiald hc hw 3 rfl (xin (ye4 hex4 hq hlo c_5)) dX5_toldExit_95 ?_
          refine xiald hc hw 6 rfl (xin (htt _ (xcl (ye4 hex4 hq hlo c_5)))) dX5_toldExit_96 ?_
          refine lv_aload_n hx hb dX5_toldExit_97 rfl (lv_at hl 2 rfl) ?_
          refine xget (C := RX5) (T := TX5) (N := 12) hc hw inX5_toldExit_X5 0 rfl rfl 6 (by decide) lkX5_toldExit_f19 rfl rfl dX5_toldExit_98 ?_
          refine lv_aload_n hx hb dX5_toldExit_101 rfl (lv_at hl 2 rfl) ?_
          refine xget (C := RX5) (T := TX5) (N := 12) hc hw inX5_toldExit_X5 0 rfl rfl 3 (by decide) lkX5_toldExit_f13 rfl rfl dX5_toldExit_102 ?_
          refine lv_iload hx hb dX5_toldExit_105 (lv_at hl 1 rfl) ?_
          refine xiald hc hw 2 rfl (xin (ye4 hex4 hq hlo c_5)) dX5_toldExit_107 ?_
          refine xiald hc hw 4 rfl (xin (hrd _ (xcl (ye4 hex4 hq hlo c_5)))) dX5_toldExit_108 ?_
          refine lv_iadd hx hb dX5_toldExit_109 ?_
          refine lv_istore (lv' := [(4, .int ((fa (tt ((4 * q) + (nI i)).toNatClampNeg).toNatClampNeg) + (ml (rd ((4 * q) + (nI i)).toNatClampNeg).toNatClampNeg))), (3, .int (nI i)), (6, .int ((4 * q) + (nI i))), (0, .ref aR), (1, .int q), (2, .int g), (5, .int (nI i))]) hx hb dX5_toldExit_110 hl (by decide) rfl (fun ls hl => ?_)
          refine lv_iinc (v := nI (i + 1)) (lv' := [(5, .int (nI (i + 1))), (4, .int ((fa (tt ((4 * q) + (nI i)).toNatClampNeg).toNatClampNeg) + (ml (rd ((4 * q) + (nI i)).toNatClampNeg).toNatClampNeg))), (3, .int (nI i)), (6, .int ((4 * q) + (nI i))), (0, .ref aR), (1, .int q), (2, .int g)]) hx hb dX5_toldExit_112 hl (k := 6) rfl (nI_1 _) (by decide) rfl (fun ls hl => ?_)
          refine lv_goto (tgt := 15) hx hb dX5_toldExit_115 (by decide) ?_
          exact ih (i + 1) (nI i) ((fa (tt ((4 * q) + (nI i)).toNatClampNeg).toNatClampNeg) + (ml (rd ((4 * q) + (nI i)).toNatClampNeg).toNatClampNeg)) (xlt hlo c_5) (by omega) H locs ls hw (lv_sub hl [4, 5, 6, 2, 1, 0] rfl) (fun z e => K z (xtr1 (Eq.trans (if_neg c_5) (Eq.trans (if_pos c_6) (if_pos c_7))) e))
        · refine lv_goto (tgt := 112) hx hb dX5_toldExit_79 (by decide) ?_
          refine lv_iinc (v := nI (i + 1)) (lv' := [(5, .int (nI (i + 1))), (6, .int ((4 * q) + (nI i))), (0, .ref aR), (1, .int q), (2, .int g), (3, .int bt), (4, .int lst)]) hx hb dX5_toldExit_112 hl (k := 6) rfl (nI_1 _) (by decide) rfl (fun ls hl => ?_)
          refine lv_goto (tgt := 15) hx hb dX5_toldExit_115 (by decide) ?_
          exact ih (i + 1) bt lst (xlt hlo c_5) (by omega) H locs ls hw (lv_sub hl [2, 3, 4, 5, 6, 0] rfl) (fun z e => K z (xtr1 (Eq.trans (if_neg c_5) (Eq.trans (if_pos c_6) (if_neg c_7))) e))
def FX5_toldExit (pl : Int32) (ex : Nat → Int32) (rd : Nat → Int32) (tt : Nat → Int32) (ml : Nat → Int32) (cz : Nat → Int32) (fa : Nat → Int32) (q : Int32) (g : Int32) : Int32 × (Nat → Int32) :=
  xbind (FX5_measure pl ex rd tt ml cz fa g) (fun u1 => xbind (LX5_toldExit_t ex rd tt ml cz u1 q 5 0 (-1) 9999) (fun z8 => (z8.1, u1)))
set_option maxHeartbeats 40000000 in
set_option maxRecDepth 100000 in
theorem metX5_toldExit (l : Launch) (G : xG) (sz : Nat) (aR : Nat) (rEx : Nat) (rRd : Nat) (rTo : Nat) (rMi : Nat) (rCl : Nat) (rSh : Nat) (rFa : Nat) (aS : Nat) (aH : Nat) (th : Int32) (pl : Int32) (rs : Int32) (ex : Nat → Int32) (rd : Nat → Int32) (tt : Nat → Int32) (ml : Nat → Int32) (cz : Nat → Int32) (fa : Nat → Int32) (q : Int32) (g : Int32) (hpl : 0 ≤ pl.toInt ∧ pl.toInt ≤ 10) (hex4 : ∀ k, k < 10 → 0 ≤ (ex k).toInt ∧ (ex k).toInt ≤ 4) (hrd : ∀ k, k < 40 → 0 ≤ (rd k).toInt ∧ (rd k).toInt < 20) (htt : ∀ k, k < 40 → 0 ≤ (tt k).toInt ∧ (tt k).toInt < 10) (hq : 0 ≤ q.toInt ∧ q.toInt < 10) : xM l yX5_toldExit wsX5_toldExit ⟨1, 0, 0, 24⟩ G [.ref aR, .int q, .int g] [xO aR 5 [.int th, .int pl, .ref rEx, .ref rRd, .ref rTo, .int rs, .ref rMi, .ref rCl, .ref rSh, .ref rFa, .ref aS, .ref aH], xAI G rEx 10 ex, xAI G rRd 40 rd, xAI G rTo 40 tt, xAI G rMi 20 ml, xAZ G rCl 20 cz, xAI G rFa 10 fa] sz (xQi G [xO aR 5 [.int th, .int pl, .ref rEx, .ref rRd, .ref rTo, .int rs, .ref rMi, .ref rCl, .ref rSh, .ref rFa, .ref aS, .ref aH], xAI G rEx 10 ex, xAI G rRd 40 rd, xAI G rTo 40 tt, xAI G rMi 20 ml, xAZ G rCl 20 cz, xAI G rFa 10 fa] sz (fun (r : Int32) (u : (Nat → Int32)) => r = (FX5_toldExit pl ex rd tt ml cz fa q g).1 ∧ u = (FX5_toldExit pl ex rd tt ml cz fa q g).2) (fun u : (Nat → Int32) => [xO aR 5 [.int th, .int pl, .ref rEx, .ref rRd, .ref rTo, .int rs, .ref rMi, .ref rCl, .ref rSh, .ref rFa, .ref aS, .ref aH], xAI G rEx 10 ex, xAI G rRd 40 rd, xAI G rTo 40 tt, xAI G rMi 20 ml, xAZ G rCl 20 cz, xAI G rFa 10 u])) := by
  refine xof (own := RX5) (cc := cX5_toldExit) (maxL := 7) (ret := (some .int)) rfl (by decide) rfl (Nat.le_of_ble_eq_true rfl) ?_
  intro pg en s mi below meth cd hc hnm hw ls hl
  obtain ⟨hx, hb, -, hown, hts, -⟩ := id hc
  have hl : lv_has ls 7 [(0, .ref aR), (1, .int q), (2, .int g)] := hl
  refine lv_aload_n hx hb dX5_toldExit_0 rfl (lv_at hl 0 rfl) ?_
  refine lv_iload_n hx hb dX5_toldExit_1 rfl (lv_at hl 2 rfl) ?_
  refine xcall_v (isC := [0, 1, 2, 3, 4, 5, 6]) hc hw (xrunV (n := 1) (As := [.int g]) (rest := []) hc hw [0, 1, 2, 3, 4, 5, 6] (metX5_measure l G _ aR rEx rRd rTo rMi rCl rSh rFa aS aH th pl rs ex rd tt ml cz fa g hpl hrd htt) gX5_toldExit_X5_measure rfl (by decide +kernel) ⟨Nat.le_of_ble_eq_true rfl, Nat.le_of_ble_eq_true rfl⟩ 0 rfl rfl rfl rfl rfl rfl hl.1 (Nat.le_of_ble_eq_true rfl) dX5_toldExit_2 ⟨Nat.le_of_ble_eq_true rfl, Nat.le_of_ble_eq_true rfl⟩) rfl [] [0, 1, 2, 3, 4, 5, 6] (fun u1 => [xO aR 5 [.int th, .int pl, .ref rEx, .ref rRd, .ref rTo, .int rs, .ref rMi, .ref rCl, .ref rSh, .ref rFa, .ref aS, .ref aH], xAI G rEx 10 ex, xAI G rRd 40 rd, xAI G rTo 40 tt, xAI G rMi 20 ml, xAZ G rCl 20 cz, xAI G rFa 10 u1]) (fun _ => rfl) rfl rfl rfl rfl (fun u1 H locs hp3 hw => ?_)
  refine lv_iconst (v := (-1)) hx hb dX5_toldExit_5 (by decide) ?_
  refine lv_istore_n (lv' := [(3, .int (-1)), (0, .ref aR), (1, .int q), (2, .int g)]) hx hb dX5_toldExit_6 rfl hl (by decide) rfl (fun ls hl => ?_)
  refine lv_sipush (v := 9999) hx hb dX5_toldExit_7 (by decide) ?_
  refine lv_istore (lv' := [(4, .int 9999), (3, .int (-1)), (0, .ref aR), (1, .int q), (2, .int g)]) hx hb dX5_toldExit_10 hl (by decide) rfl (fun ls hl => ?_)
  refine lv_iconst (v := 0) hx hb dX5_toldExit_12 (by decide) ?_
  refine lv_istore (lv' := [(5, .int 0), (4, .int 9999), (3, .int (-1)), (0, .ref aR), (1, .int q), (2, .int g)]) hx hb dX5_toldExit_13 hl (by decide) rfl (fun ls hl => ?_)
  refine lpX5_toldExit_t G hc aR rEx rRd rTo rMi rCl rSh rFa aS aH th pl rs ex rd tt ml cz u1 q g hpl hex4 hrd htt hq 5 0 (-1) 9999 ((hex4 _ (xcl hq)).1) (by have := hex4 _ (xcl hq); omega) _ _ _ hw (lv_sub hl [3, 4, 5, 2, 1, 0] rfl) (fun z8 ek9 H locs ls hw hl => ?_)
  refine lv_iload_n hx hb dX5_toldExit_118 rfl (lv_at hl 3 rfl) ?_
  exact xret_i u1 hc hw (xe2 (xb hp3 (xb ek9 rfl))) ⟨Nat.le_of_ble_eq_true rfl, Nat.le_of_ble_eq_true rfl⟩ dX5_toldExit_119
def FX5_milesBetween (pl : Int32) (ex : Nat → Int32) (rd : Nat → Int32) (tt : Nat → Int32) (ml : Nat → Int32) (cz : Nat → Int32) (fa : Nat → Int32) (q : Int32) (g : Int32) : Int32 × (Nat → Int32) :=
  xbind (FX5_measure pl ex rd tt ml cz fa g) (fun u1 => if (u1 q.toNatClampNeg) = 9999 then (((-1), u1)) else ((u1 q.toNatClampNeg, u1)))
set_option maxHeartbeats 40000000 in
set_option maxRecDepth 100000 in
theorem metX5_milesBetween (l : Launch) (G : xG) (sz : Nat) (aR : Nat) (rEx : Nat) (rRd : Nat) (rTo : Nat) (rMi : Nat) (rCl : Nat) (rSh : Nat) (rFa : Nat) (aS : Nat) (aH : Nat) (th : Int32) (pl : Int32) (rs : Int32) (ex : Nat → Int32) (rd : Nat → Int32) (tt : Nat → Int32) (ml : Nat → Int32) (cz : Nat → Int32) (fa : Nat → Int32) (q : Int32) (g : Int32) (hpl : 0 ≤ pl.toInt ∧ pl.toInt ≤ 10) (hrd : ∀ k, k < 40 → 0 ≤ (rd k).toInt ∧ (rd k).toInt < 20) (htt : ∀ k, k < 40 → 0 ≤ (tt k).toInt ∧ (tt k).toInt < 10) (hq : 0 ≤ q.toInt ∧ q.toInt < 10) : xM l yX5_milesBetween wsX5_milesBetween ⟨1, 0, 0, 24⟩ G [.ref aR, .int q, .int g] [xO aR 5 [.int th, .int pl, .ref rEx, .ref rRd, .ref rTo, .int rs, .ref rMi, .ref rCl, .ref rSh, .ref rFa, .ref aS, .ref aH], xAI G rEx 10 ex, xAI G rRd 40 rd, xAI G rTo 40 tt, xAI G rMi 20 ml, xAZ G rCl 20 cz, xAI G rFa 10 fa] sz (xQi G [xO aR 5 [.int th, .int pl, .ref rEx, .ref rRd, .ref rTo, .int rs, .ref rMi, .ref rCl, .ref rSh, .ref rFa, .ref aS, .ref aH], xAI G rEx 10 ex, xAI G rRd 40 rd, xAI G rTo 40 tt, xAI G rMi 20 ml, xAZ G rCl 20 cz, xAI G rFa 10 fa] sz (fun (r : Int32) (u : (Nat → Int32)) => r = (FX5_milesBetween pl ex rd tt ml cz fa q g).1 ∧ u = (FX5_milesBetween pl ex rd tt ml cz fa q g).2) (fun u : (Nat → Int32) => [xO aR 5 [.int th, .int pl, .ref rEx, .ref rRd, .ref rTo, .int rs, .ref rMi, .ref rCl, .ref rSh, .ref rFa, .ref aS, .ref aH], xAI G rEx 10 ex, xAI G rRd 40 rd, xAI G rTo 40 tt, xAI G rMi 20 ml, xAZ G rCl 20 cz, xAI G rFa 10 u])) := by
  refine xof (own := RX5) (cc := cX5_milesBetween) (maxL := 3) (ret := (some .int)) rfl (by decide) rfl (Nat.le_of_ble_eq_true rfl) ?_
  intro pg en s mi below meth cd hc hnm hw ls hl
  obtain ⟨hx, hb, -, hown, hts, -⟩ := id hc
  have hl : lv_has ls 3 [(0, .ref aR), (1, .int q), (2, .int g)] := hl
  refine lv_aload_n hx hb dX5_milesBetween_0 rfl (lv_at hl 0 rfl) ?_
  refine lv_iload_n hx hb dX5_milesBetween_1 rfl (lv_at hl 2 rfl) ?_
  refine xcall_v (isC := [0, 1, 2, 3, 4, 5, 6]) hc hw (xrunV (n := 1) (As := [.int g]) (rest := []) hc hw [0, 1, 2, 3, 4, 5, 6] (metX5_measure l G _ aR rEx rRd rTo rMi rCl rSh rFa aS aH th pl rs ex rd tt ml cz fa g hpl hrd htt) gX5_milesBetween_X5_measure rfl (by decide +kernel) ⟨Nat.le_of_ble_eq_true rfl, Nat.le_of_ble_eq_true rfl⟩ 0 rfl rfl rfl rfl rfl rfl hl.1 (Nat.le_of_ble_eq_true rfl) dX5_milesBetween_2 ⟨Nat.le_of_ble_eq_true rfl, Nat.le_of_ble_eq_true rfl⟩) rfl [] [0, 1, 2, 3, 4, 5, 6] (fun u1 => [xO aR 5 [.int th, .int pl, .ref rEx, .ref rRd, .ref rTo, .int rs, .ref rMi, .ref rCl, .ref rSh, .ref rFa, .ref aS, .ref aH], xAI G rEx 10 ex, xAI G rRd 40 rd, xAI G rTo 40 tt, xAI G rMi 20 ml, xAZ G rCl 20 cz, xAI G rFa 10 u1]) (fun _ => rfl) rfl rfl rfl rfl (fun u1 H locs hp3 hw => ?_)
  refine lv_aload_n hx hb dX5_milesBetween_5 rfl (lv_at hl 0 rfl) ?_
  refine xget (C := RX5) (T := TX5) (N := 12) hc hw inX5_milesBetween_X5 0 rfl rfl 9 (by decide) lkX5_milesBetween_f29 rfl rfl dX5_milesBetween_6 ?_
  refine lv_iload_n hx hb dX5_milesBetween_9 rfl (lv_at hl 1 rfl) ?_
  refine xiald hc hw 6 rfl (xin hq) dX5_milesBetween_10 ?_
  refine lv_sipush (v := 9999) hx hb dX5_milesBetween_11 (by decide) ?_
  refine lv_icmp_ne (tgt := 21) hx hb dX5_milesBetween_14 (by decide) (fun c_5 => ?_) (fun c_5 => ?_)
  · refine lv_aload_n hx hb dX5_milesBetween_21 rfl (lv_at hl 0 rfl) ?_
    refine xget (C := RX5) (T := TX5) (N := 12) hc hw inX5_milesBetween_X5 0 rfl rfl 9 (by decide) lkX5_milesBetween_f29 rfl rfl dX5_milesBetween_22 ?_
    refine lv_iload_n hx hb dX5_milesBetween_25 rfl (lv_at hl 1 rfl) ?_
    refine xiald hc hw 6 rfl (xin hq) dX5_milesBetween_26 ?_
    exact xret_i u1 hc hw (xe2 (xb hp3 (if_neg c_5))) ⟨Nat.le_of_ble_eq_true rfl, Nat.le_of_ble_eq_true rfl⟩ dX5_milesBetween_27
  · refine lv_iconst (v := (-1)) hx hb dX5_milesBetween_17 (by decide) ?_
    refine lv_goto (tgt := 27) hx hb dX5_milesBetween_18 (by decide) ?_
    exact xret_i u1 hc hw (xe2 (xb hp3 (if_pos c_5))) ⟨Nat.le_of_ble_eq_true rfl, Nat.le_of_ble_eq_true rfl⟩ dX5_milesBetween_27
def LX5_triesNext_t (ex : Nat → Int32) (rd : Nat → Int32) (tt : Nat → Int32) (ml : Nat → Int32) (cz : Nat → Int32) (po : Int32) (ln : Int32) (wk : Int32) (tr : Nat → Int32) (wy : Nat → Int32) (qq : Int32) : Nat → Nat → Int32 × (Int32) × (Int32) × (Int32) × (Nat → Int32) × (Nat → Int32)
  | 0, i => (0, po, ln, wk, tr, wy)
  | n + 1, i =>
    if (ex qq.toNatClampNeg) ≤ (nI i) then ((0, po, ln, wk, tr, wy)) else (xbind (FX5_canTake rd cz tr ((4 * qq) + (nI i))) (fun r3 => if r3 = 0 then (LX5_triesNext_t ex rd tt ml cz po ln wk tr wy qq n (i + 1)) else (xbind (FX5_take rd tt ml ln wk tr wy ((4 * qq) + (nI i))) (fun u7 => (1, u7.1, u7.2.1, u7.2.2.1, u7.2.2.2.1, u7.2.2.2.2)))))
set_option maxHeartbeats 40000000 in
set_option maxRecDepth 100000 in
theorem lpX5_triesNext_t {pg : Program} {l : Launch} {en : Env} {s : State} {mi : MethodId} {args : Array Value} {below : List Frame} {meth : Method} {cd : Code} {w0 : va_W} {sz : Nat} {post : Int32 → (Int32) × (Int32) × (Int32) × (Nat → Int32) × (Nat → Int32) → Prop} (G : xG) (hc : xC pg s mi args meth cd cX5_triesNext 4 RX5 wsX5_triesNext (some .boolean) G (va_A w0 sz)) (aR : Nat) (rEx : Nat) (rRd : Nat) (rTo : Nat) (rMi : Nat) (rCl : Nat) (rSh : Nat) (rFa : Nat) (aS : Nat) (aH : Nat) (aO : Nat) (oTr : Nat) (oAk : Nat) (oWy : Nat) (oXe : Nat) (oSg : Nat) (th : Int32) (pl : Int32) (rs : Int32) (ex : Nat → Int32) (rd : Nat → Int32) (tt : Nat → Int32) (ml : Nat → Int32) (cz : Nat → Int32) (po : Int32) (co : Int32) (go : Int32) (ln : Int32) (wk : Int32) (db : Int32) (dn : Int32) (iv : Int32) (qs : Int32) (tr : Nat → Int32) (wy : Nat → Int32) (qq : Int32) (hex4 : ∀ k, k < 10 → 0 ≤ (ex k).toInt ∧ (ex k).toInt ≤ 4) (hrd : ∀ k, k < 40 → 0 ≤ (rd k).toInt ∧ (rd k).toInt < 20) (hln : 0 ≤ ln.toInt ∧ ln.toInt < 40) (hpo : 0 ≤ po.toInt ∧ po.toInt < 10) (hqq : 0 ≤ qq.toInt ∧ qq.toInt < 10) :
    ∀ (n i : Nat), ((i : Nat) : Int) ≤ (ex qq.toNatClampNeg : Int32).toInt → (ex qq.toNatClampNeg : Int32).toInt < ((i + n : Nat) : Int) → ∀ (H : Heap) (locs : List Loc) (ls : Array Slot), xW G (va_A w0 sz) s.heap [xO aR 5 [.int th, .int pl, .ref rEx, .ref rRd, .ref rTo, .int rs, .ref rMi, .ref rCl, .ref rSh, .ref rFa, .ref aS, .ref aH], xAI G rEx 10 ex, xAI G rRd 40 rd, xAI G rTo 40 tt, xAI G rMi 20 ml, xAZ G rCl 20 cz, xO aO 4 [.int po, .int co, .int go, .ref oTr, .ref oAk, .ref oWy, .int ln, .ref oXe, .ref oSg, .int wk, .int db, .int dn, .int iv, .int qs], xAZ G oTr 20 tr, xAI G oWy 40 wy] H locs → lv_has ls 4 [(0, .ref aR), (1, .ref aO), (2, .int qq), (3, .int (nI i))] → (∀ r u, (r = (LX5_triesNext_t ex rd tt ml cz po ln wk tr wy qq n i).1 ∧ u = (LX5_triesNext_t ex rd tt ml cz po ln wk tr wy qq n i).2) → post r u) → W pg l en ⟨1, 0, 0, 22⟩ s mi args below meth cd H locs 0 0 (MQ below (xQi G w0 sz post (fun u : (Int32) × (Int32) × (Int32) × (Nat → Int32) × (Nat → Int32) => [xO aR 5 [.int th, .int pl, .ref rEx, .ref rRd, .ref rTo, .int rs, .ref rMi, .ref rCl, .ref rSh, .ref rFa, .ref aS, .ref aH], xAI G rEx 10 ex, xAI G rRd 40 rd, xAI G rTo 40 tt, xAI G rMi 20 ml, xAZ G rCl 20 cz, xO aO 4 [.int u.1, .int co, .int go, .ref oTr, .ref oAk, .ref oWy, .int u.2.1, .ref oXe, .ref oSg, .int u.2.2.1, .int db, .int dn, .int iv, .int qs], xAZ G oTr 20 u.2.2.2.1, xAI G oWy 40 u.2.2.2.2])) args s (⟨1, 0, 0, 22⟩ : Room).cells (⟨1, 0, 0, 22⟩ : Room).slots (va_A w0 sz)) (F0 mi 7 ls []) := by
  obtain ⟨hx, hb, -, hown, hts, -⟩ := id hc
  intro n
  induction n with
  | zero =>
    intro i hlo hfu
    intros; exact absurd hfu (by omega)
  | succ n ih =>
    intro i hlo hfu  H locs ls hw hl hres
    refine lv_iload_n hx hb dX5_triesNext_7 rfl (lv_at hl 3 rfl) ?_
    refine lv_aload_n hx hb dX5_triesNext_8 rfl (lv_at hl 0 rfl) ?_
    refine xget (C := RX5) (T := TX5) (N := 12) hc hw inX5_triesNext_X5 0 rfl rfl 2 (by decide) lkX5_triesNext_f9 rfl rfl dX5_triesNext_9 ?_
    refine lv_iload_n hx hb dX5_triesNext_12 rfl (lv_at hl 2 rfl) ?_
    refine xiald hc hw 1 rfl (xin hqq) dX5_triesNext_13 ?_
    refine lv_icmp_ge (tgt := 51) hx hb dX5_triesNext_14 (by decide) (fun c_1 => ?_) (fun c_1 => ?_)
    · refine lv_iconst (v := 0) hx hb dX5_triesNext_51 (by decide) ?_
      obtain ⟨u0, hu0⟩ : ∃ z : (Int32) × (Int32) × (Int32) × (Nat → Int32) × (Nat → Int32), z = (po, ln, wk, tr, wy) := ⟨_, rfl⟩
      refine xret_z u0 hc ?_ rfl ?_ ⟨Nat.le_of_ble_eq_true rfl, Nat.le_of_ble_eq_true rfl⟩ dX5_triesNext_52
      · subst hu0; dsimp only; exact hw
      · subst hu0; exact hres _ _ (xe2 (if_pos c_1))
    · refine lv_aload_n hx hb dX5_triesNext_17 rfl (lv_at hl 0 rfl) ?_
      refine lv_aload_n hx hb dX5_triesNext_18 rfl (lv_at hl 1 rfl) ?_
      refine lv_iconst (v := 4) hx hb dX5_triesNext_19 (by decide) ?_
      refine lv_iload_n hx hb dX5_triesNext_20 rfl (lv_at hl 2 rfl) ?_
      refine lv_imul hx hb dX5_triesNext_21 ?_
      refine lv_iload_n hx hb dX5_triesNext_22 rfl (lv_at hl 3 rfl) ?_
      refine lv_iadd hx hb dX5_triesNext_23 ?_
      refine xcall_i (isC := [0, 2, 5, 6, 7]) hc hw (xrunV (n := 2) (As := [.ref aO, .int ((4 * qq) + (nI i))]) (rest := []) hc hw [0, 2, 5, 6, 7] (metX5_canTake l G _ aR rEx rRd rTo rMi rCl rSh rFa aS aH aO oTr oAk oWy oXe oSg th pl rs rd cz po co go ln wk db dn iv qs tr ((4 * qq) + (nI i)) hrd (ye4 hex4 hqq hlo c_1)) gX5_triesNext_X5_canTake rfl (by decide +kernel) ⟨Nat.le_of_ble_eq_true rfl, Nat.le_of_ble_eq_true rfl⟩ 0 rfl rfl rfl rfl rfl rfl hl.1 (Nat.le_of_ble_eq_true rfl) dX5_triesNext_24 ⟨Nat.le_of_ble_eq_true rfl, Nat.le_of_ble_eq_true rfl⟩) rfl [1, 3, 4, 8] [4, 0, 5, 1, 2, 6, 7, 8, 3] (fun u2 => [xO aR 5 [.int th, .int pl, .ref rEx, .ref rRd, .ref rTo, .int rs, .ref rMi, .ref rCl, .ref rSh, .ref rFa, .ref aS, .ref aH], xAI G rEx 10 ex, xAI G rRd 40 rd, xAI G rTo 40 tt, xAI G rMi 20 ml, xAZ G rCl 20 cz, xO aO 4 [.int po, .int co, .int go, .ref oTr, .ref oAk, .ref oWy, .int ln, .ref oXe, .ref oSg, .int wk, .int db, .int dn, .int iv, .int qs], xAZ G oTr 20 tr, xAI G oWy 40 wy]) (fun _ => rfl) rfl rfl rfl rfl (fun r3 u2 H locs hp4 hw => ?_)
      refine lv_if_ne (tgt := 33) hx hb dX5_triesNext_27 (by decide) (fun c_6 => ?_) (fun c_6 => ?_)
      · refine lv_aload_n hx hb dX5_triesNext_33 rfl (lv_at hl 0 rfl) ?_
        refine lv_aload_n hx hb dX5_triesNext_34 rfl (lv_at hl 1 rfl) ?_
        refine lv_iconst (v := 4) hx hb dX5_triesNext_35 (by decide) ?_
        refine lv_iload_n hx hb dX5_triesNext_36 rfl (lv_at hl 2 rfl) ?_
        refine lv_imul hx hb dX5_triesNext_37 ?_
        refine lv_iload_n hx hb dX5_triesNext_38 rfl (lv_at hl 3 rfl) ?_
        refine lv_iadd hx hb dX5_triesNext_39 ?_
        refine xcall_v (isC := [0, 2, 3, 4, 6, 7, 8]) hc hw (xrunV (n := 2) (As := [.ref aO, .int ((4 * qq) + (nI i))]) (rest := []) hc hw [0, 2, 3, 4, 6, 7, 8] (metX5_take l G _ aR rEx rRd rTo rMi rCl rSh rFa aS aH aO oTr oAk oWy oXe oSg th pl rs rd tt ml po co go ln wk db dn iv qs tr wy ((4 * qq) + (nI i)) hrd (ye4 hex4 hqq hlo c_1) hln) gX5_triesNext_X5_take rfl (by decide +kernel) ⟨Nat.le_of_ble_eq_true rfl, Nat.le_of_ble_eq_true rfl⟩ 0 rfl rfl rfl rfl rfl rfl hl.1 (Nat.le_of_ble_eq_true rfl) dX5_triesNext_40 ⟨Nat.le_of_ble_eq_true rfl, Nat.le_of_ble_eq_true rfl⟩) rfl [1, 5] [2, 0, 3, 4, 5, 1, 6, 7, 8] (fun u7 => [xO aR 5 [.int th, .int pl, .ref rEx, .ref rRd, .ref rTo, .int rs, .ref rMi, .ref rCl, .ref rSh, .ref rFa, .ref aS, .ref aH], xAI G rEx 10 ex, xAI G rRd 40 rd, xAI G rTo 40 tt, xAI G rMi 20 ml, xAZ G rCl 20 cz, xO aO 4 [.int u7.1, .int co, .int go, .ref oTr, .ref oAk, .ref oWy, .int u7.2.1, .ref oXe, .ref oSg, .int u7.2.2.1, .int db, .int dn, .int iv, .int qs], xAZ G oTr 20 u7.2.2.2.1, xAI G oWy 40 u7.2.2.2.2]) (fun _ => rfl) rfl rfl rfl rfl (fun u7 H locs hp9 hw => ?_)
        refine lv_iconst (v := 1) hx hb dX5_triesNext_43 (by decide) ?_
        obtain ⟨u0, hu0⟩ : ∃ z : (Int32) × (Int32) × (Int32) × (Nat → Int32) × (Nat → Int32), z = (u7.1, u7.2.1, u7.2.2.1, u7.2.2.2.1, u7.2.2.2.2) := ⟨_, rfl⟩
        refine xret_z u0 hc ?_ rfl ?_ ⟨Nat.le_of_ble_eq_true rfl, Nat.le_of_ble_eq_true rfl⟩ dX5_triesNext_44
        · subst hu0; dsimp only; exact hw
        · subst hu0; exact hres _ _ (xe2 (Eq.trans (if_neg c_1) (xb hp4 (Eq.trans (if_neg c_6) (xb hp9 rfl)))))
      · refine lv_goto (tgt := 45) hx hb dX5_triesNext_30 (by decide) ?_
        refine lv_iinc (v := nI (i + 1)) (lv' := [(3, .int (nI (i + 1))), (0, .ref aR), (1, .ref aO), (2, .int qq)]) hx hb dX5_triesNext_45 hl (k := 3) rfl (nI_1 _) (by decide) rfl (fun ls hl => ?_)
        refine lv_goto (tgt := 7) hx hb dX5_triesNext_48 (by decide) ?_
        exact ih (i + 1)  (xlt hlo c_1) (by omega) H locs ls hw (lv_sub hl [1, 2, 3, 0] rfl) (fun r u e => hres r u (xtr2 (Eq.trans (if_neg c_1) (xb hp4 (if_pos c_6))) e))
def FX5_triesNext (ex : Nat → Int32) (rd : Nat → Int32) (tt : Nat → Int32) (ml : Nat → Int32) (cz : Nat → Int32) (po : Int32) (ln : Int32) (wk : Int32) (tr : Nat → Int32) (wy : Nat → Int32) : Int32 × (Int32) × (Int32) × (Int32) × (Nat → Int32) × (Nat → Int32) :=
  LX5_triesNext_t ex rd tt ml cz po ln wk tr wy po 5 0
set_option maxHeartbeats 40000000 in
set_option maxRecDepth 100000 in
theorem metX5_triesNext (l : Launch) (G : xG) (sz : Nat) (aR : Nat) (rEx : Nat) (rRd : Nat) (rTo : Nat) (rMi : Nat) (rCl : Nat) (rSh : Nat) (rFa : Nat) (aS : Nat) (aH : Nat) (aO : Nat) (oTr : Nat) (oAk : Nat) (oWy : Nat) (oXe : Nat) (oSg : Nat) (th : Int32) (pl : Int32) (rs : Int32) (ex : Nat → Int32) (rd : Nat → Int32) (tt : Nat → Int32) (ml : Nat → Int32) (cz : Nat → Int32) (po : Int32) (co : Int32) (go : Int32) (ln : Int32) (wk : Int32) (db : Int32) (dn : Int32) (iv : Int32) (qs : Int32) (tr : Nat → Int32) (wy : Nat → Int32) (hex4 : ∀ k, k < 10 → 0 ≤ (ex k).toInt ∧ (ex k).toInt ≤ 4) (hrd : ∀ k, k < 40 → 0 ≤ (rd k).toInt ∧ (rd k).toInt < 20) (hln : 0 ≤ ln.toInt ∧ ln.toInt < 40) (hpo : 0 ≤ po.toInt ∧ po.toInt < 10) : xM l yX5_triesNext wsX5_triesNext ⟨1, 0, 0, 22⟩ G [.ref aR, .ref aO] [xO aR 5 [.int th, .int pl, .ref rEx, .ref rRd, .ref rTo, .int rs, .ref rMi, .ref rCl, .ref rSh, .ref rFa, .ref aS, .ref aH], xAI G rEx 10 ex, xAI G rRd 40 rd, xAI G rTo 40 tt, xAI G rMi 20 ml, xAZ G rCl 20 cz, xO aO 4 [.int po, .int co, .int go, .ref oTr, .ref oAk, .ref oWy, .int ln, .ref oXe, .ref oSg, .int wk, .int db, .int dn, .int iv, .int qs], xAZ G oTr 20 tr, xAI G oWy 40 wy] sz (xQi G [xO aR 5 [.int th, .int pl, .ref rEx, .ref rRd, .ref rTo, .int rs, .ref rMi, .ref rCl, .ref rSh, .ref rFa, .ref aS, .ref aH], xAI G rEx 10 ex, xAI G rRd 40 rd, xAI G rTo 40 tt, xAI G rMi 20 ml, xAZ G rCl 20 cz, xO aO 4 [.int po, .int co, .int go, .ref oTr, .ref oAk, .ref oWy, .int ln, .ref oXe, .ref oSg, .int wk, .int db, .int dn, .int iv, .int qs], xAZ G oTr 20 tr, xAI G oWy 40 wy] sz (fun (r : Int32) (u : (Int32) × (Int32) × (Int32) × (Nat → Int32) × (Nat → Int32)) => r = (FX5_triesNext ex rd tt ml cz po ln wk tr wy).1 ∧ u = (FX5_triesNext ex rd tt ml cz po ln wk tr wy).2) (fun u : (Int32) × (Int32) × (Int32) × (Nat → Int32) × (Nat → Int32) => [xO aR 5 [.int th, .int pl, .ref rEx, .ref rRd, .ref rTo, .int rs, .ref rMi, .ref rCl, .ref rSh, .ref rFa, .ref aS, .ref aH], xAI G rEx 10 ex, xAI G rRd 40 rd, xAI G rTo 40 tt, xAI G rMi 20 ml, xAZ G rCl 20 cz, xO aO 4 [.int u.1, .int co, .int go, .ref oTr, .ref oAk, .ref oWy, .int u.2.1, .ref oXe, .ref oSg, .int u.2.2.1, .int db, .int dn, .int iv, .int qs], xAZ G oTr 20 u.2.2.2.1, xAI G oWy 40 u.2.2.2.2])) := by
  refine xof (own := RX5) (cc := cX5_triesNext) (maxL := 4) (ret := (some .boolean)) rfl (by decide) rfl (Nat.le_of_ble_eq_true rfl) ?_
  intro pg en s mi below meth cd hc hnm hw ls hl
  obtain ⟨hx, hb, -, hown, hts, -⟩ := id hc
  have hl : lv_has ls 4 [(0, .ref aR), (1, .ref aO)] := hl
  refine lv_aload_n hx hb dX5_triesNext_0 rfl (lv_at hl 1 rfl) ?_
  refine xgetN (C := RX4) (T := TX4) (N := 14) hc hw inX5_triesNext_X4 6 rfl rfl 0 (by decide) nkX5_61 rfl rfl dX5_triesNext_1 ?_
  refine lv_istore_n (lv' := [(2, .int po), (0, .ref aR), (1, .ref aO)]) hx hb dX5_triesNext_4 rfl hl (by decide) rfl (fun ls hl => ?_)
  refine lv_iconst (v := 0) hx hb dX5_triesNext_5 (by decide) ?_
  refine lv_istore_n (lv' := [(3, .int 0), (2, .int po), (0, .ref aR), (1, .ref aO)]) hx hb dX5_triesNext_6 rfl hl (by decide) rfl (fun ls hl => ?_)
  exact lpX5_triesNext_t G hc aR rEx rRd rTo rMi rCl rSh rFa aS aH aO oTr oAk oWy oXe oSg th pl rs ex rd tt ml cz po co go ln wk db dn iv qs tr wy po hex4 hrd hln hpo hpo 5 0 ((hex4 _ (xcl hpo)).1) (by have := hex4 _ (xcl hpo); omega) _ _ _ hw (lv_sub hl [2, 3, 1, 0] rfl) (fun r u e => xtr2 rfl e)
def FX5_doublesBack (rd : Nat → Int32) (ml : Nat → Int32) (po : Int32) (ln : Int32) (wk : Int32) (db : Int32) (wy : Nat → Int32) : Int32 × (Int32) × (Int32) × (Int32) × (Int32) :=
  if ln = 0 then ((0, po, ln, wk, db)) else ((1, (wy (ln - 1).toNatClampNeg) / 4, ln - 1, wk + (ml (rd (wy (ln - 1).toNatClampNeg).toNatClampNeg).toNatClampNeg), db + (ml (rd (wy (ln - 1).toNatClampNeg).toNatClampNeg).toNatClampNeg)))
set_option maxHeartbeats 40000000 in
set_option maxRecDepth 100000 in
theorem metX5_doublesBack (l : Launch) (G : xG) (sz : Nat) (aR : Nat) (rEx : Nat) (rRd : Nat) (rTo : Nat) (rMi : Nat) (rCl : Nat) (rSh : Nat) (rFa : Nat) (aS : Nat) (aH : Nat) (aO : Nat) (oTr : Nat) (oAk : Nat) (oWy : Nat) (oXe : Nat) (oSg : Nat) (th : Int32) (pl : Int32) (rs : Int32) (rd : Nat → Int32) (ml : Nat → Int32) (po : Int32) (co : Int32) (go : Int32) (ln : Int32) (wk : Int32) (db : Int32) (dn : Int32) (iv : Int32) (qs : Int32) (wy : Nat → Int32) (hrd : ∀ k, k < 40 → 0 ≤ (rd k).toInt ∧ (rd k).toInt < 20) (hlm : 0 ≤ ln.toInt ∧ ln.toInt ≤ 40) (hwy : ∀ k, k < 40 → 0 ≤ (wy k).toInt ∧ (wy k).toInt < 40) : xM l yX5_doublesBack wsX5_doublesBack ⟨0, 0, 0, 0⟩ G [.ref aR, .ref aO] [xO aR 5 [.int th, .int pl, .ref rEx, .ref rRd, .ref rTo, .int rs, .ref rMi, .ref rCl, .ref rSh, .ref rFa, .ref aS, .ref aH], xAI G rRd 40 rd, xAI G rMi 20 ml, xO aO 4 [.int po, .int co, .int go, .ref oTr, .ref oAk, .ref oWy, .int ln, .ref oXe, .ref oSg, .int wk, .int db, .int dn, .int iv, .int qs], xAI G oWy 40 wy] sz (xQi G [xO aR 5 [.int th, .int pl, .ref rEx, .ref rRd, .ref rTo, .int rs, .ref rMi, .ref rCl, .ref rSh, .ref rFa, .ref aS, .ref aH], xAI G rRd 40 rd, xAI G rMi 20 ml, xO aO 4 [.int po, .int co, .int go, .ref oTr, .ref oAk, .ref oWy, .int ln, .ref oXe, .ref oSg, .int wk, .int db, .int dn, .int iv, .int qs], xAI G oWy 40 wy] sz (fun (r : Int32) (u : (Int32) × (Int32) × (Int32) × (Int32)) => r = (FX5_doublesBack rd ml po ln wk db wy).1 ∧ u = (FX5_doublesBack rd ml po ln wk db wy).2) (fun u : (Int32) × (Int32) × (Int32) × (Int32) => [xO aR 5 [.int th, .int pl, .ref rEx, .ref rRd, .ref rTo, .int rs, .ref rMi, .ref rCl, .ref rSh, .ref rFa, .ref aS, .ref aH], xAI G rRd 40 rd, xAI G rMi 20 ml, xO aO 4 [.int u.1, .int co, .int go, .ref oTr, .ref oAk, .ref oWy, .int u.2.1, .ref oXe, .ref oSg, .int u.2.2.1, .int u.2.2.2, .int dn, .int iv, .int qs], xAI G oWy 40 wy])) := by
  refine xof (own := RX5) (cc := cX5_doublesBack) (maxL := 3) (ret := (some .boolean)) rfl (by decide) rfl (Nat.le_of_ble_eq_true rfl) ?_
  intro pg en s mi below meth cd hc hnm hw ls hl
  obtain ⟨hx, hb, -, hown, hts, -⟩ := id hc
  have hl : lv_has ls 3 [(0, .ref aR), (1, .ref aO)] := hl
  refine lv_aload_n hx hb dX5_doublesBack_0 rfl (lv_at hl 1 rfl) ?_
  refine xgetN (C := RX4) (T := TX4) (N := 14) hc hw inX5_doublesBack_X4 3 rfl rfl 6 (by decide) nkX5_84 rfl rfl dX5_doublesBack_1 ?_
  refine lv_if_ne (tgt := 9) hx hb dX5_doublesBack_4 (by decide) (fun c_1 => ?_) (fun c_1 => ?_)
  · refine lv_aload_n hx hb dX5_doublesBack_9 rfl (lv_at hl 1 rfl) ?_
    refine lv_dup hx hb dX5_doublesBack_10 rfl ?_
    refine xgetN (C := RX4) (T := TX4) (N := 14) hc hw inX5_doublesBack_X4 3 rfl rfl 6 (by decide) nkX5_84 rfl rfl dX5_doublesBack_11 ?_
    refine lv_iconst (v := 1) hx hb dX5_doublesBack_14 (by decide) ?_
    refine lv_isub hx hb dX5_doublesBack_15 ?_
    refine xputN (C := RX4) (T := TX4) (N := 14) (ty := .int) hc hw inX5_doublesBack_X4 tyX4 tyX4_ok nmX4 3 [xO aR 5 [.int th, .int pl, .ref rEx, .ref rRd, .ref rTo, .int rs, .ref rMi, .ref rCl, .ref rSh, .ref rFa, .ref aS, .ref aH], xAI G rRd 40 rd, xAI G rMi 20 ml, xO aO 4 [.int po, .int co, .int go, .ref oTr, .ref oAk, .ref oWy, .int (ln - 1), .ref oXe, .ref oSg, .int wk, .int db, .int dn, .int iv, .int qs], xAI G oWy 40 wy] rfl rfl 6 (by decide) nkX5_84 rfl rfl rfl rfl (Nat.le_of_ble_eq_true rfl) rfl dX5_doublesBack_16 (fun H locs hw => ?_)
    refine lv_aload_n hx hb dX5_doublesBack_19 rfl (lv_at hl 1 rfl) ?_
    refine xgetN (C := RX4) (T := TX4) (N := 14) hc hw inX5_doublesBack_X4 3 rfl rfl 5 (by decide) nkX5_81 rfl rfl dX5_doublesBack_20 ?_
    refine lv_aload_n hx hb dX5_doublesBack_23 rfl (lv_at hl 1 rfl) ?_
    refine xgetN (C := RX4) (T := TX4) (N := 14) hc hw inX5_doublesBack_X4 3 rfl rfl 6 (by decide) nkX5_84 rfl rfl dX5_doublesBack_24 ?_
    refine xiald hc hw 4 rfl (xin (ysub1 hlm c_1).2) dX5_doublesBack_27 ?_
    refine lv_istore_n (lv' := [(2, .int (wy (ln - 1).toNatClampNeg)), (0, .ref aR), (1, .ref aO)]) hx hb dX5_doublesBack_28 rfl hl (by decide) rfl (fun ls hl => ?_)
    refine lv_aload_n hx hb dX5_doublesBack_29 rfl (lv_at hl 2 rfl) ?_
    refine lv_iload_n hx hb dX5_doublesBack_30 rfl (lv_at hl 0 rfl) ?_
    refine lv_iconst (v := 4) hx hb dX5_doublesBack_31 (by decide) ?_
    refine lv_idiv hx hb dX5_doublesBack_32 (by decide) ?_
    refine xputN (C := RX4) (T := TX4) (N := 14) (ty := .int) hc hw inX5_doublesBack_X4 tyX4 tyX4_ok nmX4 3 [xO aR 5 [.int th, .int pl, .ref rEx, .ref rRd, .ref rTo, .int rs, .ref rMi, .ref rCl, .ref rSh, .ref rFa, .ref aS, .ref aH], xAI G rRd 40 rd, xAI G rMi 20 ml, xO aO 4 [.int ((wy (ln - 1).toNatClampNeg) / 4), .int co, .int go, .ref oTr, .ref oAk, .ref oWy, .int (ln - 1), .ref oXe, .ref oSg, .int wk, .int db, .int dn, .int iv, .int qs], xAI G oWy 40 wy] rfl rfl 0 (by decide) nkX5_61 rfl rfl rfl rfl (Nat.le_of_ble_eq_true rfl) rfl dX5_doublesBack_33 (fun H locs hw => ?_)
    refine lv_aload_n hx hb dX5_doublesBack_36 rfl (lv_at hl 2 rfl) ?_
    refine lv_dup hx hb dX5_doublesBack_37 rfl ?_
    refine xgetN (C := RX4) (T := TX4) (N := 14) hc hw inX5_doublesBack_X4 3 rfl rfl 9 (by decide) nkX5_87 rfl rfl dX5_doublesBack_38 ?_
    refine lv_aload_n hx hb dX5_doublesBack_41 rfl (lv_at hl 1 rfl) ?_
    refine xget (C := RX5) (T := TX5) (N := 12) hc hw inX5_doublesBack_X5 0 rfl rfl 6 (by decide) lkX5_doublesBack_f19 rfl rfl dX5_doublesBack_42 ?_
    refine lv_aload_n hx hb dX5_doublesBack_45 rfl (lv_at hl 1 rfl) ?_
    refine xget (C := RX5) (T := TX5) (N := 12) hc hw inX5_doublesBack_X5 0 rfl rfl 3 (by decide) lkX5_doublesBack_f13 rfl rfl dX5_doublesBack_46 ?_
    refine lv_iload_n hx hb dX5_doublesBack_49 rfl (lv_at hl 0 rfl) ?_
    refine xiald hc hw 1 rfl (xin (hwy _ (xcl (ysub1 hlm c_1).2))) dX5_doublesBack_50 ?_
    refine xiald hc hw 2 rfl (xin (hrd _ (xcl (hwy _ (xcl (ysub1 hlm c_1).2))))) dX5_doublesBack_51 ?_
    refine lv_iadd hx hb dX5_doublesBack_52 ?_
    refine xputN (C := RX4) (T := TX4) (N := 14) (ty := .int) hc hw inX5_doublesBack_X4 tyX4 tyX4_ok nmX4 3 [xO aR 5 [.int th, .int pl, .ref rEx, .ref rRd, .ref rTo, .int rs, .ref rMi, .ref rCl, .ref rSh, .ref rFa, .ref aS, .ref aH], xAI G rRd 40 rd, xAI G rMi 20 ml, xO aO 4 [.int ((wy (ln - 1).toNatClampNeg) / 4), .int co, .int go, .ref oTr, .ref oAk, .ref oWy, .int (ln - 1), .ref oXe, .ref oSg, .int (wk + (ml (rd (wy (ln - 1).toNatClampNeg).toNatClampNeg).toNatClampNeg)), .int db, .int dn, .int iv, .int qs], xAI G oWy 40 wy] rfl rfl 9 (by decide) nkX5_87 rfl rfl rfl rfl (Nat.le_of_ble_eq_true rfl) rfl dX5_doublesBack_53 (fun H locs hw => ?_)
    refine lv_aload_n hx hb dX5_doublesBack_56 rfl (lv_at hl 2 rfl) ?_
    refine lv_dup hx hb dX5_doublesBack_57 rfl ?_
    refine xgetN (C := RX4) (T := TX4) (N := 14) hc hw inX5_doublesBack_X4 3 rfl rfl 10 (by decide) nkX5_122 rfl rfl dX5_doublesBack_58 ?_
    refine lv_aload_n hx hb dX5_doublesBack_61 rfl (lv_at hl 1 rfl) ?_
    refine xget (C := RX5) (T := TX5) (N := 12) hc hw inX5_doublesBack_X5 0 rfl rfl 6 (by decide) lkX5_doublesBack_f19 rfl rfl dX5_doublesBack_62 ?_
    refine lv_aload_n hx hb dX5_doublesBack_65 rfl (lv_at hl 1 rfl) ?_
    refine xget (C := RX5) (T := TX5) (N := 12) hc hw inX5_doublesBack_X5 0 rfl rfl 3 (by decide) lkX5_doublesBack_f13 rfl rfl dX5_doublesBack_66 ?_
    refine lv_iload_n hx hb dX5_doublesBack_69 rfl (lv_at hl 0 rfl) ?_
    refine xiald hc hw 1 rfl (xin (hwy _ (xcl (ysub1 hlm c_1).2))) dX5_doublesBack_70 ?_
    refine xiald hc hw 2 rfl (xin (hrd _ (xcl (hwy _ (xcl (ysub1 hlm c_1).2))))) dX5_doublesBack_71 ?_
    refine lv_iadd hx hb dX5_doublesBack_72 ?_
    refine xputN (C := RX4) (T := TX4) (N := 14) (ty := .int) hc hw inX5_doublesBack_X4 tyX4 tyX4_ok nmX4 3 [xO aR 5 [.int th, .int pl, .ref rEx, .ref rRd, .ref rTo, .int rs, .ref rMi, .ref rCl, .ref rSh, .ref rFa, .ref aS, .ref aH], xAI G rRd 40 rd, xAI G rMi 20 ml, xO aO 4 [.int ((wy (ln - 1).toNatClampNeg) / 4), .int co, .int go, .ref oTr, .ref oAk, .ref oWy, .int (ln - 1), .ref oXe, .ref oSg, .int (wk + (ml (rd (wy (ln - 1).toNatClampNeg).toNatClampNeg).toNatClampNeg)), .int (db + (ml (rd (wy (ln - 1).toNatClampNeg).toNatClampNeg).toNatClampNeg)), .int dn, .int iv, .int qs], xAI G oWy 40 wy] rfl rfl 10 (by decide) nkX5_122 rfl rfl rfl rfl (Nat.le_of_ble_eq_true rfl) rfl dX5_doublesBack_73 (fun H locs hw => ?_)
    refine lv_iconst (v := 1) hx hb dX5_doublesBack_76 (by decide) ?_
    obtain ⟨u0, hu0⟩ : ∃ z : (Int32) × (Int32) × (Int32) × (Int32), z = ((wy (ln - 1).toNatClampNeg) / 4, ln - 1, wk + (ml (rd (wy (ln - 1).toNatClampNeg).toNatClampNeg).toNatClampNeg), db + (ml (rd (wy (ln - 1).toNatClampNeg).toNatClampNeg).toNatClampNeg)) := ⟨_, rfl⟩
    refine xret_z u0 hc ?_ rfl ?_ ⟨Nat.le_of_ble_eq_true rfl, Nat.le_of_ble_eq_true rfl⟩ dX5_doublesBack_77
    · subst hu0; dsimp only; exact hw
    · subst hu0; exact xe2 (if_neg c_1)
  · refine lv_iconst (v := 0) hx hb dX5_doublesBack_7 (by decide) ?_
    obtain ⟨u0, hu0⟩ : ∃ z : (Int32) × (Int32) × (Int32) × (Int32), z = (po, ln, wk, db) := ⟨_, rfl⟩
    refine xret_z u0 hc ?_ rfl ?_ ⟨Nat.le_of_ble_eq_true rfl, Nat.le_of_ble_eq_true rfl⟩ dX5_doublesBack_8
    · subst hu0; dsimp only; exact hw
    · subst hu0; exact xe2 (if_pos c_1)
