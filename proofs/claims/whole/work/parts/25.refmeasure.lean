def LX5_measure_a (pl : Int32) (g : Int32) : Nat → Nat → (Nat → Int32) → (Nat → Int32)
  | 0, i, fa => fa
  | n + 1, i, fa =>
    if pl ≤ (nI i) then (fa) else (if (nI i) = g then (LX5_measure_a pl g n (i + 1) (upd fa (nI i).toNatClampNeg 0)) else (LX5_measure_a pl g n (i + 1) (upd fa (nI i).toNatClampNeg 9999)))
set_option maxHeartbeats 40000000 in
set_option maxRecDepth 100000 in
theorem lpX5_measure_a {pg : Program} {l : Launch} {en : Env} {s : State} {mi : MethodId} {args : Array Value} {below : List Frame} {meth : Method} {cd : Code} {A : Nat → Prop} {Q : State → Prop} (G : xG) (hc : xC pg s mi args meth cd cX5_measure 5 RX5 wsX5_measure none G A) (aR : Nat) (rEx : Nat) (rRd : Nat) (rTo : Nat) (rMi : Nat) (rCl : Nat) (rSh : Nat) (rFa : Nat) (aS : Nat) (aH : Nat) (th : Int32) (pl : Int32) (rs : Int32) (ex : Nat → Int32) (rd : Nat → Int32) (tt : Nat → Int32) (ml : Nat → Int32) (cz : Nat → Int32) (g : Int32) (hpl : 0 ≤ pl.toInt ∧ pl.toInt ≤ 10) (hrd : ∀ k, k < 40 → 0 ≤ (rd k).toInt ∧ (rd k).toInt < 20) (htt : ∀ k, k < 40 → 0 ≤ (tt k).toInt ∧ (tt k).toInt < 10) :
    ∀ (n i : Nat) (fa : Nat → Int32), ((i : Nat) : Int) ≤ (pl : Int32).toInt → (pl : Int32).toInt < ((i + n : Nat) : Int) → ∀ (H : Heap) (locs : List Loc) (ls : Array Slot), xW G A s.heap [xO aR 5 [.int th, .int pl, .ref rEx, .ref rRd, .ref rTo, .int rs, .ref rMi, .ref rCl, .ref rSh, .ref rFa, .ref aS, .ref aH], xAI G rEx 10 ex, xAI G rRd 40 rd, xAI G rTo 40 tt, xAI G rMi 20 ml, xAZ G rCl 20 cz, xAI G rFa 10 fa] H locs → lv_has ls 5 [(0, .ref aR), (1, .int g), (2, .int (nI i))] → (∀ (z : (Nat → Int32)), z = LX5_measure_a pl g n i fa → ∀ (H1 : Heap) (locs1 : List Loc) (ls1 : Array Slot), xW G A s.heap [xO aR 5 [.int th, .int pl, .ref rEx, .ref rRd, .ref rTo, .int rs, .ref rMi, .ref rCl, .ref rSh, .ref rFa, .ref aS, .ref aH], xAI G rEx 10 ex, xAI G rRd 40 rd, xAI G rTo 40 tt, xAI G rMi 20 ml, xAZ G rCl 20 cz, xAI G rFa 10 z] H1 locs1 → lv_has ls1 5 [(0, .ref aR), (1, .int g)] → W pg l en ⟨0, 0, 0, 0⟩ s mi args below meth cd H1 locs1 0 0 Q (F0 mi 34 ls1 [])) → W pg l en ⟨0, 0, 0, 0⟩ s mi args below meth cd H locs 0 0 Q (F0 mi 2 ls []) := by
  obtain ⟨hx, hb, -, hown, hts, -⟩ := id hc
  intro n
  induction n with
  | zero =>
    intro i fa hlo hfu
    intros; exact absurd hfu (by omega)
  | succ n ih =>
    intro i fa hlo hfu  H locs ls hw hl K
    refine lv_iload_n hx hb dX5_measure_2 rfl (lv_at hl 2 rfl) ?_
    refine lv_aload_n hx hb dX5_measure_3 rfl (lv_at hl 0 rfl) ?_
    refine xget (C := RX5) (T := TX5) (N := 12) hc hw inX5_measure_X5 0 rfl rfl 1 (by decide) lkX5_measure_f46 rfl rfl dX5_measure_4 ?_
    refine lv_icmp_ge (tgt := 34) hx hb dX5_measure_7 (by decide) (fun c_1 => ?_) (fun c_1 => ?_)
    · exact K fa (Eq.symm (if_pos c_1)) H locs ls hw (lv_sub hl [0, 1] rfl)
    · refine lv_aload_n hx hb dX5_measure_10 rfl (lv_at hl 0 rfl) ?_
      refine xget (C := RX5) (T := TX5) (N := 12) hc hw inX5_measure_X5 0 rfl rfl 9 (by decide) lkX5_measure_f29 rfl rfl dX5_measure_11 ?_
      refine lv_iload_n hx hb dX5_measure_14 rfl (lv_at hl 2 rfl) ?_
      refine lv_iload_n hx hb dX5_measure_15 rfl (lv_at hl 2 rfl) ?_
      refine lv_iload_n hx hb dX5_measure_16 rfl (lv_at hl 1 rfl) ?_
      refine lv_icmp_ne (tgt := 24) hx hb dX5_measure_17 (by decide) (fun c_2 => ?_) (fun c_2 => ?_)
      · refine lv_sipush (v := 9999) hx hb dX5_measure_24 (by decide) ?_
        refine xiast hc hw 6 [xO aR 5 [.int th, .int pl, .ref rEx, .ref rRd, .ref rTo, .int rs, .ref rMi, .ref rCl, .ref rSh, .ref rFa, .ref aS, .ref aH], xAI G rEx 10 ex, xAI G rRd 40 rd, xAI G rTo 40 tt, xAI G rMi 20 ml, xAZ G rCl 20 cz, xAI G rFa 10 (upd fa (nI i).toNatClampNeg 9999)] rfl (xinB hlo c_1 hpl.2) rfl dX5_measure_27 (fun H locs hw => ?_)
        refine lv_iinc (v := nI (i + 1)) (lv' := [(2, .int (nI (i + 1))), (0, .ref aR), (1, .int g)]) hx hb dX5_measure_28 hl (k := 2) rfl (nI_1 _) (by decide) rfl (fun ls hl => ?_)
        refine lv_goto (tgt := 2) hx hb dX5_measure_31 (by decide) ?_
        exact ih (i + 1) (upd fa (nI i).toNatClampNeg 9999) (xlt hlo c_1) (by omega) H locs ls hw (lv_sub hl [1, 2, 0] rfl) (fun z e => K z (xtr1 (Eq.trans (if_neg c_1) (if_neg c_2)) e))
      · refine lv_iconst (v := 0) hx hb dX5_measure_20 (by decide) ?_
        refine lv_goto (tgt := 27) hx hb dX5_measure_21 (by decide) ?_
        refine xiast hc hw 6 [xO aR 5 [.int th, .int pl, .ref rEx, .ref rRd, .ref rTo, .int rs, .ref rMi, .ref rCl, .ref rSh, .ref rFa, .ref aS, .ref aH], xAI G rEx 10 ex, xAI G rRd 40 rd, xAI G rTo 40 tt, xAI G rMi 20 ml, xAZ G rCl 20 cz, xAI G rFa 10 (upd fa (nI i).toNatClampNeg 0)] rfl (xinB hlo c_1 hpl.2) rfl dX5_measure_27 (fun H locs hw => ?_)
        refine lv_iinc (v := nI (i + 1)) (lv' := [(2, .int (nI (i + 1))), (0, .ref aR), (1, .int g)]) hx hb dX5_measure_28 hl (k := 2) rfl (nI_1 _) (by decide) rfl (fun ls hl => ?_)
        refine lv_goto (tgt := 2) hx hb dX5_measure_31 (by decide) ?_
        exact ih (i + 1) (upd fa (nI i).toNatClampNeg 0) (xlt hlo c_1) (by omega) H locs ls hw (lv_sub hl [1, 2, 0] rfl) (fun z e => K z (xtr1 (Eq.trans (if_neg c_1) (if_pos c_2)) e))
def LX5_measure_e (pl : Int32) (ex : Nat → Int32) (rd : Nat → Int32) (tt : Nat → Int32) (ml : Nat → Int32) (cz : Nat → Int32) : Nat → Nat → (Nat → Int32) → (Int32) → (Nat → Int32) × (Int32)
  | 0, i, fa, on => (fa, on)
  | n + 1, i, fa, on =>
    if (4 * pl) ≤ (nI i) then ((fa, on)) else (if (ex ((nI i) / 4).toNatClampNeg) ≤ ((nI i) - (nI i) / 4 * 4) then (LX5_measure_e pl ex rd tt ml cz n (i + 1) fa on) else (if (cz (rd (nI i).toNatClampNeg).toNatClampNeg) = 0 then (if ((fa (tt (nI i).toNatClampNeg).toNatClampNeg) + (ml (rd (nI i).toNatClampNeg).toNatClampNeg)) < (fa ((nI i) / 4).toNatClampNeg) then (LX5_measure_e pl ex rd tt ml cz n (i + 1) (upd fa ((nI i) / 4).toNatClampNeg ((fa (tt (nI i).toNatClampNeg).toNatClampNeg) + (ml (rd (nI i).toNatClampNeg).toNatClampNeg))) 1) else (LX5_measure_e pl ex rd tt ml cz n (i + 1) fa on)) else (LX5_measure_e pl ex rd tt ml cz n (i + 1) fa on)))
set_option maxHeartbeats 40000000 in
set_option maxRecDepth 100000 in
theorem lpX5_measure_e {pg : Program} {l : Launch} {en : Env} {s : State} {mi : MethodId} {args : Array Value} {below : List Frame} {meth : Method} {cd : Code} {A : Nat → Prop} {Q : State → Prop} (G : xG) (hc : xC pg s mi args meth cd cX5_measure 5 RX5 wsX5_measure none G A) (aR : Nat) (rEx : Nat) (rRd : Nat) (rTo : Nat) (rMi : Nat) (rCl : Nat) (rSh : Nat) (rFa : Nat) (aS : Nat) (aH : Nat) (th : Int32) (pl : Int32) (rs : Int32) (ex : Nat → Int32) (rd : Nat → Int32) (tt : Nat → Int32) (ml : Nat → Int32) (cz : Nat → Int32) (g : Int32) (hpl : 0 ≤ pl.toInt ∧ pl.toInt ≤ 10) (hrd : ∀ k, k < 40 → 0 ≤ (rd k).toInt ∧ (rd k).toInt < 20) (htt : ∀ k, k < 40 → 0 ≤ (tt k).toInt ∧ (tt k).toInt < 10) :
    ∀ (n i : Nat) (fa : Nat → Int32) (on : Int32), ((i : Nat) : Int) ≤ (4 * pl : Int32).toInt → (4 * pl : Int32).toInt < ((i + n : Nat) : Int) → ∀ (H : Heap) (locs : List Loc) (ls : Array Slot), xW G A s.heap [xO aR 5 [.int th, .int pl, .ref rEx, .ref rRd, .ref rTo, .int rs, .ref rMi, .ref rCl, .ref rSh, .ref rFa, .ref aS, .ref aH], xAI G rEx 10 ex, xAI G rRd 40 rd, xAI G rTo 40 tt, xAI G rMi 20 ml, xAZ G rCl 20 cz, xAI G rFa 10 fa] H locs → lv_has ls 5 [(0, .ref aR), (1, .int g), (2, .int on), (3, .int (nI i))] → (∀ (z : (Nat → Int32) × (Int32)), z = LX5_measure_e pl ex rd tt ml cz n i fa on → ∀ (H1 : Heap) (locs1 : List Loc) (ls1 : Array Slot), xW G A s.heap [xO aR 5 [.int th, .int pl, .ref rEx, .ref rRd, .ref rTo, .int rs, .ref rMi, .ref rCl, .ref rSh, .ref rFa, .ref aS, .ref aH], xAI G rEx 10 ex, xAI G rRd 40 rd, xAI G rTo 40 tt, xAI G rMi 20 ml, xAZ G rCl 20 cz, xAI G rFa 10 z.1] H1 locs1 → lv_has ls1 5 [(0, .ref aR), (1, .int g), (2, .int z.2)] → W pg l en ⟨0, 0, 0, 0⟩ s mi args below meth cd H1 locs1 0 0 Q (F0 mi 160 ls1 [])) → W pg l en ⟨0, 0, 0, 0⟩ s mi args below meth cd H locs 0 0 Q (F0 mi 44 ls []) := by
  obtain ⟨hx, hb, -, hown, hts, -⟩ := id hc
  intro n
  induction n with
  | zero =>
    intro i fa on hlo hfu
    intros; exact absurd hfu (by omega)
  | succ n ih =>
    intro i fa on hlo hfu  H locs ls hw hl K
    refine lv_iload_n hx hb dX5_measure_44 rfl (lv_at hl 3 rfl) ?_
    refine lv_iconst (v := 4) hx hb dX5_measure_45 (by decide) ?_
    refine lv_aload_n hx hb dX5_measure_46 rfl (lv_at hl 0 rfl) ?_
    refine xget (C := RX5) (T := TX5) (N := 12) hc hw inX5_measure_X5 0 rfl rfl 1 (by decide) lkX5_measure_f46 rfl rfl dX5_measure_47 ?_
    refine lv_imul hx hb dX5_measure_50 ?_
    refine lv_icmp_ge (tgt := 160) hx hb dX5_measure_51 (by decide) (fun c_6 => ?_) (fun c_6 => ?_)
    · exact K (fa, on) (Eq.symm (if_pos c_6)) H locs ls (by first | (dsimp only; exact hw) | exact hw) (by first | exact lv_sub hl [0, 1, 2] rfl | (dsimp only; exact lv_sub hl [0, 1, 2] rfl))
    · refine lv_iload_n hx hb dX5_measure_54 rfl (lv_at hl 3 rfl) ?_
      refine lv_iconst (v := 4) hx hb dX5_measure_55 (by decide) ?_
      refine lv_idiv hx hb dX5_measure_56 (by decide) ?_
      refine lv_istore (lv' := [(4, .int ((nI i) / 4)), (0, .ref aR), (1, .int g), (2, .int on), (3, .int (nI i))]) hx hb dX5_measure_57 hl (by decide) rfl (fun ls hl => ?_)
      refine lv_iload_n hx hb dX5_measure_59 rfl (lv_at hl 4 rfl) ?_
      refine lv_iconst (v := 4) hx hb dX5_measure_60 (by decide) ?_
      refine lv_irem hx hb dX5_measure_61 (by decide) ?_
      refine lv_aload_n hx hb dX5_measure_62 rfl (lv_at hl 1 rfl) ?_
      refine xget (C := RX5) (T := TX5) (N := 12) hc hw inX5_measure_X5 0 rfl rfl 2 (by decide) lkX5_measure_f9 rfl rfl dX5_measure_63 ?_
      refine lv_iload hx hb dX5_measure_66 (lv_at hl 0 rfl) ?_
      refine xiald hc hw 1 rfl (xin (yd4in (yi40 hpl hlo c_6))) dX5_measure_68 ?_
      refine lv_icmp_ge (tgt := 154) hx hb dX5_measure_69 (by decide) (fun c_7 => ?_) (fun c_7 => ?_)
      · refine lv_iinc (v := nI (i + 1)) (lv' := [(3, .int (nI (i + 1))), (4, .int ((nI i) / 4)), (0, .ref aR), (1, .int g), (2, .int on)]) hx hb dX5_measure_154 hl (k := 4) rfl (nI_1 _) (by decide) rfl (fun ls hl => ?_)
        refine lv_goto (tgt := 44) hx hb dX5_measure_157 (by decide) ?_
        exact ih (i + 1) fa on (xlt hlo c_6) (by omega) H locs ls hw (lv_sub hl [2, 3, 4, 0] rfl) (fun z e => K z (xtr1 (Eq.trans (if_neg c_6) (if_pos c_7)) e))
      · refine lv_aload_n hx hb dX5_measure_72 rfl (lv_at hl 1 rfl) ?_
        refine xget (C := RX5) (T := TX5) (N := 12) hc hw inX5_measure_X5 0 rfl rfl 7 (by decide) lkX5_measure_f22 rfl rfl dX5_measure_73 ?_
        refine lv_aload_n hx hb dX5_measure_76 rfl (lv_at hl 1 rfl) ?_
        refine xget (C := RX5) (T := TX5) (N := 12) hc hw inX5_measure_X5 0 rfl rfl 3 (by decide) lkX5_measure_f13 rfl rfl dX5_measure_77 ?_
        refine lv_iload_n hx hb dX5_measure_80 rfl (lv_at hl 4 rfl) ?_
        refine xiald hc hw 2 rfl (xin (yi40 hpl hlo c_6)) dX5_measure_81 ?_
        refine xzald hc hw 5 rfl (xin (hrd _ (xcl (yi40 hpl hlo c_6)))) dX5_measure_82 ?_
        refine lv_if_ne (tgt := 154) hx hb dX5_measure_83 (by decide) (fun c_8 => ?_) (fun c_8 => ?_)
        · refine lv_iinc (v := nI (i + 1)) (lv' := [(3, .int (nI (i + 1))), (4, .int ((nI i) / 4)), (0, .ref aR), (1, .int g), (2, .int on)]) hx hb dX5_measure_154 hl (k := 4) rfl (nI_1 _) (by decide) rfl (fun ls hl => ?_)
          refine lv_goto (tgt := 44) hx hb dX5_measure_157 (by decide) ?_
          exact ih (i + 1) fa on (xlt hlo c_6) (by omega) H locs ls hw (lv_sub hl [2, 3, 4, 0] rfl) (fun z e => K z (xtr1 (Eq.trans (if_neg c_6) (Eq.trans (if_neg c_7) (if_neg c_8))) e))
        · refine lv_aload_n hx hb dX5_measure_86 rfl (lv_at hl 1 rfl) ?_
          refine xget (C := RX5) (T := TX5) (N := 12) hc hw inX5_measure_X5 0 rfl rfl 9 (by decide) lkX5_measure_f29 rfl rfl dX5_measure_87 ?_
          refine lv_aload_n hx hb dX5_measure_90 rfl (lv_at hl 1 rfl) ?_
          refine xget (C := RX5) (T := TX5) (N := 12) hc hw inX5_measure_X5 0 rfl rfl 4 (by decide) lkX5_measure_f16 rfl rfl dX5_measure_91 ?_
          refine lv_iload_n hx hb dX5_measure_94 rfl (lv_at hl 4 rfl) ?_
          refine xiald hc hw 3 rfl (xin (yi40 hpl hlo c_6)) dX5_measure_95 ?_
          refine xiald hc hw 6 rfl (xin (htt _ (xcl (yi40 hpl hlo c_6)))) dX5_measure_96 ?_
          refine lv_aload_n hx hb dX5_measure_97 rfl (lv_at hl 1 rfl) ?_
          refine xget (C := RX5) (T := TX5) (N := 12) hc hw inX5_measure_X5 0 rfl rfl 6 (by decide) lkX5_measure_f19 rfl rfl dX5_measure_98 ?_
          refine lv_aload_n hx hb dX5_measure_101 rfl (lv_at hl 1 rfl) ?_
          refine xget (C := RX5) (T := TX5) (N := 12) hc hw inX5_measure_X5 0 rfl rfl 3 (by decide) lkX5_measure_f13 rfl rfl dX5_measure_102 ?_
          refine lv_iload_n hx hb dX5_measure_105 rfl (lv_at hl 4 rfl) ?_
          refine xiald hc hw 2 rfl (xin (yi40 hpl hlo c_6)) dX5_measure_106 ?_
          refine xiald hc hw 4 rfl (xin (hrd _ (xcl (yi40 hpl hlo c_6)))) dX5_measure_107 ?_
          refine lv_iadd hx hb dX5_measure_108 ?_
          refine lv_aload_n hx hb dX5_measure_109 rfl (lv_at hl 1 rfl) ?_
          refine xget (C := RX5) (T := TX5) (N := 12) hc hw inX5_measure_X5 0 rfl rfl 9 (by decide) lkX5_measure_f29 rfl rfl dX5_measure_110 ?_
          refine lv_iload hx hb dX5_measure_113 (lv_at hl 0 rfl) ?_
          refine xiald hc hw 6 rfl (xin (yd4in (yi40 hpl hlo c_6))) dX5_measure_115 ?_
          refine lv_icmp_lt (tgt := 122) hx hb dX5_measure_116 (by decide) (fun c_9 => ?_) (fun c_9 => ?_)
          · refine lv_aload_n hx hb dX5_measure_122 rfl (lv_at hl 1 rfl) ?_
            refine xget (C := RX5) (T := TX5) (N := 12) hc hw inX5_measure_X5 0 rfl rfl 9 (by decide) lkX5_measure_f29 rfl rfl dX5_measure_123 ?_
            refine lv_iload hx hb dX5_measure_126 (lv_at hl 0 rfl) ?_
            refine lv_aload_n hx hb dX5_measure_128 rfl (lv_at hl 1 rfl) ?_
            refine xget (C := RX5) (T := TX5) (N := 12) hc hw inX5_measure_X5 0 rfl rfl 9 (by decide) lkX5_measure_f29 rfl rfl dX5_measure_129 ?_
            refine lv_aload_n hx hb dX5_measure_132 rfl (lv_at hl 1 rfl) ?_
            refine xget (C := RX5) (T := TX5) (N := 12) hc hw inX5_measure_X5 0 rfl rfl 4 (by decide) lkX5_measure_f16 rfl rfl dX5_measure_133 ?_
            refine lv_iload_n hx hb dX5_measure_136 rfl (lv_at hl 4 rfl) ?_
            refine xiald hc hw 3 rfl (xin (yi40 hpl hlo c_6)) dX5_measure_137 ?_
            refine xiald hc hw 6 rfl (xin (htt _ (xcl (yi40 hpl hlo c_6)))) dX5_measure_138 ?_
            refine lv_aload_n hx hb dX5_measure_139 rfl (lv_at hl 1 rfl) ?_
            refine xget (C := RX5) (T := TX5) (N := 12) hc hw inX5_measure_X5 0 rfl rfl 6 (by decide) lkX5_measure_f19 rfl rfl dX5_measure_140 ?_
            refine lv_aload_n hx hb dX5_measure_143 rfl (lv_at hl 1 rfl) ?_
            refine xget (C := RX5) (T := TX5) (N := 12) hc hw inX5_measure_X5 0 rfl rfl 3 (by decide) lkX5_measure_f13 rfl rfl dX5_measure_144 ?_
            refine lv_iload_n hx hb dX5_measure_147 rfl (lv_at hl 4 rfl) ?_
            refine xiald hc hw 2 rfl (xin (yi40 hpl hlo c_6)) dX5_measure_148 ?_
            refine xiald hc hw 4 rfl (xin (hrd _ (xcl (yi40 hpl hlo c_6)))) dX5_measure_149 ?_
            refine lv_iadd hx hb dX5_measure_150 ?_
            refine xiast hc hw 6 [xO aR 5 [.int th, .int pl, .ref rEx, .ref rRd, .ref rTo, .int rs, .ref rMi, .ref rCl, .ref rSh, .ref rFa, .ref aS, .ref aH], xAI G rEx 10 ex, xAI G rRd 40 rd, xAI G rTo 40 tt, xAI G rMi 20 ml, xAZ G rCl 20 cz, xAI G rFa 10 (upd fa ((nI i) / 4).toNatClampNeg ((fa (tt (nI i).toNatClampNeg).toNatClampNeg) + (ml (rd (nI i).toNatClampNeg).toNatClampNeg)))] rfl (xin (yd4in (yi40 hpl hlo c_6))) rfl dX5_measure_151 (fun H locs hw => ?_)
            refine lv_iconst (v := 1) hx hb dX5_measure_152 (by decide) ?_
            refine lv_istore_n (lv' := [(2, .int 1), (4, .int ((nI i) / 4)), (0, .ref aR), (1, .int g), (3, .int (nI i))]) hx hb dX5_measure_153 rfl hl (by decide) rfl (fun ls hl => ?_)
            refine lv_iinc (v := nI (i + 1)) (lv' := [(3, .int (nI (i + 1))), (2, .int 1), (4, .int ((nI i) / 4)), (0, .ref aR), (1, .int g)]) hx hb dX5_measure_154 hl (k := 4) rfl (nI_1 _) (by decide) rfl (fun ls hl => ?_)
            refine lv_goto (tgt := 44) hx hb dX5_measure_157 (by decide) ?_
            exact ih (i + 1) (upd fa ((nI i) / 4).toNatClampNeg ((fa (tt (nI i).toNatClampNeg).toNatClampNeg) + (ml (rd (nI i).toNatClampNeg).toNatClampNeg))) 1 (xlt hlo c_6) (by omega) H locs ls hw (lv_sub hl [3, 4, 1, 0] rfl) (fun z e => K z (xtr1 (Eq.trans (if_neg c_6) (Eq.trans (if_neg c_7) (Eq.trans (if_pos c_8) (if_pos c_9)))) e))
          · refine lv_goto (tgt := 154) hx hb dX5_measure_119 (by decide) ?_
            refine lv_iinc (v := nI (i + 1)) (lv' := [(3, .int (nI (i + 1))), (4, .int ((nI i) / 4)), (0, .ref aR), (1, .int g), (2, .int on)]) hx hb dX5_measure_154 hl (k := 4) rfl (nI_1 _) (by decide) rfl (fun ls hl => ?_)
            refine lv_goto (tgt := 44) hx hb dX5_measure_157 (by decide) ?_
            exact ih (i + 1) fa on (xlt hlo c_6) (by omega) H locs ls hw (lv_sub hl [2, 3, 4, 0] rfl) (fun z e => K z (xtr1 (Eq.trans (if_neg c_6) (Eq.trans (if_neg c_7) (Eq.trans (if_pos c_8) (if_neg c_9)))) e))
def LX5_measure_w (pl : Int32) (ex : Nat → Int32) (rd : Nat → Int32) (tt : Nat → Int32) (ml : Nat → Int32) (cz : Nat → Int32) : Nat → (Nat → Int32) → (Int32) → Nat × (Nat → Int32) × (Int32)
  | 0, fa, on => (1, fa, on)
  | n + 1, fa, on =>
    if on = 0 then ((0, fa, on)) else (xbind (LX5_measure_e pl ex rd tt ml cz 41 0 fa 0) (fun z6 => LX5_measure_w pl ex rd tt ml cz n z6.1 z6.2))
set_option maxHeartbeats 40000000 in
set_option maxRecDepth 100000 in
theorem lpX5_measure_w {pg : Program} {l : Launch} {en : Env} {s : State} {mi : MethodId} {args : Array Value} {below : List Frame} {meth : Method} {cd : Code} {A : Nat → Prop} {Q : State → Prop} (G : xG) (hc : xC pg s mi args meth cd cX5_measure 5 RX5 wsX5_measure none G A) (aR : Nat) (rEx : Nat) (rRd : Nat) (rTo : Nat) (rMi : Nat) (rCl : Nat) (rSh : Nat) (rFa : Nat) (aS : Nat) (aH : Nat) (th : Int32) (pl : Int32) (rs : Int32) (ex : Nat → Int32) (rd : Nat → Int32) (tt : Nat → Int32) (ml : Nat → Int32) (cz : Nat → Int32) (g : Int32) (hpl : 0 ≤ pl.toInt ∧ pl.toInt ≤ 10) (hrd : ∀ k, k < 40 → 0 ≤ (rd k).toInt ∧ (rd k).toInt < 20) (htt : ∀ k, k < 40 → 0 ≤ (tt k).toInt ∧ (tt k).toInt < 10) :
    ∀ (n : Nat) (fa : Nat → Int32) (on : Int32), (LX5_measure_w pl ex rd tt ml cz n fa on).1 = 0 → ∀ (H : Heap) (locs : List Loc) (ls : Array Slot), xW G A s.heap [xO aR 5 [.int th, .int pl, .ref rEx, .ref rRd, .ref rTo, .int rs, .ref rMi, .ref rCl, .ref rSh, .ref rFa, .ref aS, .ref aH], xAI G rEx 10 ex, xAI G rRd 40 rd, xAI G rTo 40 tt, xAI G rMi 20 ml, xAZ G rCl 20 cz, xAI G rFa 10 fa] H locs → lv_has ls 5 [(0, .ref aR), (1, .int g), (2, .int on)] → (∀ (z : Nat × (Nat → Int32) × (Int32)), z = LX5_measure_w pl ex rd tt ml cz n fa on → ∀ (H1 : Heap) (locs1 : List Loc) (ls1 : Array Slot), xW G A s.heap [xO aR 5 [.int th, .int pl, .ref rEx, .ref rRd, .ref rTo, .int rs, .ref rMi, .ref rCl, .ref rSh, .ref rFa, .ref aS, .ref aH], xAI G rEx 10 ex, xAI G rRd 40 rd, xAI G rTo 40 tt, xAI G rMi 20 ml, xAZ G rCl 20 cz, xAI G rFa 10 z.2.1] H1 locs1 → lv_has ls1 5 [(0, .ref aR), (1, .int g), (2, .int z.2.2)] → W pg l en ⟨0, 0, 0, 0⟩ s mi args below meth cd H1 locs1 0 0 Q (F0 mi 163 ls1 [])) → W pg l en ⟨0, 0, 0, 0⟩ s mi args below meth cd H locs 0 0 Q (F0 mi 36 ls []) := by
  obtain ⟨hx, hb, -, hown, hts, -⟩ := id hc
  intro n
  induction n with
  | zero =>
    intro fa on hfu
    intros; exact absurd hfu Nat.one_ne_zero
  | succ n ih =>
    intro fa on hfu  H locs ls hw hl K
    refine lv_iload_n hx hb dX5_measure_36 rfl (lv_at hl 2 rfl) ?_
    refine lv_if_eq (tgt := 163) hx hb dX5_measure_37 (by decide) (fun c_5 => ?_) (fun c_5 => ?_)
    · exact K (0, fa, on) (Eq.symm (if_pos c_5)) H locs ls (by first | (dsimp only; exact hw) | exact hw) (by first | exact lv_sub hl [0, 1, 2] rfl | (dsimp only; exact lv_sub hl [0, 1, 2] rfl))
    · refine lv_iconst (v := 0) hx hb dX5_measure_40 (by decide) ?_
      refine lv_istore_n (lv' := [(2, .int 0), (0, .ref aR), (1, .int g)]) hx hb dX5_measure_41 rfl hl (by decide) rfl (fun ls hl => ?_)
      refine lv_iconst (v := 0) hx hb dX5_measure_42 (by decide) ?_
      refine lv_istore_n (lv' := [(3, .int 0), (2, .int 0), (0, .ref aR), (1, .int g)]) hx hb dX5_measure_43 rfl hl (by decide) rfl (fun ls hl => ?_)
      refine lpX5_measure_e G hc aR rEx rRd rTo rMi rCl rSh rFa aS aH th pl rs ex rd tt ml cz g hpl hrd htt 41 0 fa 0 (by rw [y4pl hpl]; have := hpl.1; omega) (by rw [y4pl hpl]; have := hpl.2; omega) _ _ _ hw (lv_sub hl [2, 3, 1, 0] rfl) (fun z6 ek7 H locs ls hw hl => ?_)
      refine lv_goto (tgt := 36) hx hb dX5_measure_160 (by decide) ?_
      exact ih z6.1 z6.2  ((congrArg Prod.fst (Eq.symm (Eq.trans (if_neg c_5) (xb ek7 rfl)))).trans hfu) H locs ls hw (lv_sub hl [0, 1, 2] rfl) (fun z e => K z (xtr1 (Eq.trans (if_neg c_5) (xb ek7 rfl)) e))
def yfuel : Nat := 42949672972
def ysum : Nat → (Nat → Int32) → Nat
  | 0, _ => 0
  | n + 1, f => ysum n f + ((f n).toInt + 2147483648).toNat
theorem ysum_le (f : Nat → Int32) : ∀ n, ysum n f ≤ n * 4294967296
  | 0 => Nat.le_refl 0
  | n + 1 => by
    have h := ysum_le f n
    have h1 := Int32.toInt_lt (f n)
    have h2 := Int32.le_toInt (f n)
    unfold ysum
    omega
theorem ysum_far (f : Nat → Int32) (k : Nat) (v : Int32) : ∀ n, n ≤ k → ysum n (upd f k v) = ysum n f
  | 0, _ => rfl
  | n + 1, h => by
    unfold ysum
    rw [ysum_far f k v n (by omega), upd, if_neg (by omega)]
theorem ysum_lt (f : Nat → Int32) (k : Nat) (v : Int32) (hv : v.toInt < (f k).toInt) : ∀ n, k < n → ysum n (upd f k v) < ysum n f
  | 0, h => absurd h (by omega)
  | n + 1, h => by
    unfold ysum
    by_cases e : k = n
    · subst e
      rw [ysum_far f k v k (Nat.le_refl k), upd, if_pos rfl]
      have h2 := Int32.le_toInt v
      omega
    · have := ysum_lt f k v hv n (by omega)
      rw [upd, if_neg (by omega)]
      omega
theorem yterm_e {pl : Int32} (hpl : 0 ≤ pl.toInt ∧ pl.toInt ≤ 10) (ex rd tt ml cz : Nat → Int32) : ∀ (n i : Nat) (fa : Nat → Int32) (on : Int32), ((i : Nat) : Int) ≤ (4 * pl : Int32).toInt →
    ((LX5_measure_e pl ex rd tt ml cz n i fa on).1 = fa ∧ (LX5_measure_e pl ex rd tt ml cz n i fa on).2 = on) ∨ ysum 10 (LX5_measure_e pl ex rd tt ml cz n i fa on).1 < ysum 10 fa
  | 0, _, _, _, _ => Or.inl ⟨rfl, rfl⟩
  | n + 1, i, fa, on, hlo => by
    unfold LX5_measure_e
    by_cases c1 : 4 * pl ≤ nI i
    · rw [if_pos c1]; exact Or.inl ⟨rfl, rfl⟩
    · rw [if_neg c1]
      by_cases c2 : ex (nI i / 4).toNatClampNeg ≤ nI i - nI i / 4 * 4
      · rw [if_pos c2]; exact yterm_e hpl ex rd tt ml cz n (i + 1) fa on (xlt hlo c1)
      · rw [if_neg c2]
        by_cases c3 : cz (rd (nI i).toNatClampNeg).toNatClampNeg = 0
        · rw [if_pos c3]
          by_cases c4 : fa (tt (nI i).toNatClampNeg).toNatClampNeg + ml (rd (nI i).toNatClampNeg).toNatClampNeg < fa (nI i / 4).toNatClampNeg
          · rw [if_pos c4]
            rw [xltI] at c4
            have h1 := ysum_lt fa _ _ c4 10 (xcl (yd4in (yi40 hpl hlo c1)))
            rcases yterm_e hpl ex rd tt ml cz n (i + 1) _ 1 (xlt hlo c1) with h | h
            · right; rw [h.1]; exact h1
            · right; exact Nat.lt_trans h h1
          · rw [if_neg c4]; exact yterm_e hpl ex rd tt ml cz n (i + 1) fa on (xlt hlo c1)
        · rw [if_neg c3]; exact yterm_e hpl ex rd tt ml cz n (i + 1) fa on (xlt hlo c1)
theorem yterm_w {pl : Int32} (hpl : 0 ≤ pl.toInt ∧ pl.toInt ≤ 10) (ex rd tt ml cz : Nat → Int32) : ∀ (n : Nat) (fa : Nat → Int32) (on : Int32), ysum 10 fa + 1 < n → (LX5_measure_w pl ex rd tt ml cz n fa on).1 = 0
  | 0, _, _, h => absurd h (by omega)
  | n + 1, fa, on, h => by
    unfold LX5_measure_w
    by_cases c1 : on = 0
    · rw [if_pos c1]
    · rw [if_neg c1]
      unfold xbind
      rcases yterm_e hpl ex rd tt ml cz 41 0 fa 0 (by rw [y4pl hpl]; omega) with h1 | h1
      · obtain ⟨k, hk⟩ : ∃ k, n = k + 1 := ⟨n - 1, by omega⟩
        subst hk
        unfold LX5_measure_w
        dsimp only
        rw [if_pos h1.2]
      · exact yterm_w hpl ex rd tt ml cz n _ _ (by omega)
theorem yterm {pl : Int32} {ex rd tt ml cz : Nat → Int32} (hpl : 0 ≤ pl.toInt ∧ pl.toInt ≤ 10) (fa : Nat → Int32) (on : Int32) : (LX5_measure_w pl ex rd tt ml cz yfuel fa on).1 = 0 :=
  yterm_w hpl ex rd tt ml cz yfuel fa on (by have := ysum_le fa 10; unfold yfuel; omega)
def FX5_measure (pl : Int32) (ex : Nat → Int32) (rd : Nat → Int32) (tt : Nat → Int32) (ml : Nat → Int32) (cz : Nat → Int32) (fa : Nat → Int32) (g : Int32) : (Nat → Int32) :=
  xbind (LX5_measure_a pl g 11 0 fa) (fun z3 => xbind (LX5_measure_w pl ex rd tt ml cz yfuel z3 1) (fun z8 => z8.2.1))
set_option maxHeartbeats 40000000 in
set_option maxRecDepth 100000 in
theorem metX5_measure (l : Launch) (G : xG) (sz : Nat) (aR : Nat) (rEx : Nat) (rRd : Nat) (rTo : Nat) (rMi : Nat) (rCl : Nat) (rSh : Nat) (rFa : Nat) (aS : Nat) (aH : Nat) (th : Int32) (pl : Int32) (rs : Int32) (ex : Nat → Int32) (rd : Nat → Int32) (tt : Nat → Int32) (ml : Nat → Int32) (cz : Nat → Int32) (fa : Nat → Int32) (g : Int32) (hpl : 0 ≤ pl.toInt ∧ pl.toInt ≤ 10) (hrd : ∀ k, k < 40 → 0 ≤ (rd k).toInt ∧ (rd k).toInt < 20) (htt : ∀ k, k < 40 → 0 ≤ (tt k).toInt ∧ (tt k).toInt < 10) : xM l yX5_measure wsX5_measure ⟨0, 0, 0, 0⟩ G [.ref aR, .int g] [xO aR 5 [.int th, .int pl, .ref rEx, .ref rRd, .ref rTo, .int rs, .ref rMi, .ref rCl, .ref rSh, .ref rFa, .ref aS, .ref aH], xAI G rEx 10 ex, xAI G rRd 40 rd, xAI G rTo 40 tt, xAI G rMi 20 ml, xAZ G rCl 20 cz, xAI G rFa 10 fa] sz (xQv G [xO aR 5 [.int th, .int pl, .ref rEx, .ref rRd, .ref rTo, .int rs, .ref rMi, .ref rCl, .ref rSh, .ref rFa, .ref aS, .ref aH], xAI G rEx 10 ex, xAI G rRd 40 rd, xAI G rTo 40 tt, xAI G rMi 20 ml, xAZ G rCl 20 cz, xAI G rFa 10 fa] sz (fun (u : (Nat → Int32)) => u = FX5_measure pl ex rd tt ml cz fa g) (fun u : (Nat → Int32) => [xO aR 5 [.int th, .int pl, .ref rEx, .ref rRd, .ref rTo, .int rs, .ref rMi, .ref rCl, .ref rSh, .ref rFa, .ref aS, .ref aH], xAI G rEx 10 ex, xAI G rRd 40 rd, xAI G rTo 40 tt, xAI G rMi 20 ml, xAZ G rCl 20 cz, xAI G rFa 10 u])) := by
  refine xof (own := RX5) (cc := cX5_measure) (maxL := 5) (ret := none) rfl (by decide) rfl (Nat.le_of_ble_eq_true rfl) ?_
  intro pg en s mi below meth cd hc hnm hw ls hl
  obtain ⟨hx, hb, -, hown, hts, -⟩ := id hc
  have hl : lv_has ls 5 [(0, .ref aR), (1, .int g)] := hl
  refine lv_iconst (v := 0) hx hb dX5_measure_0 (by decide) ?_
  refine lv_istore_n (lv' := [(2, .int 0), (0, .ref aR), (1, .int g)]) hx hb dX5_measure_1 rfl hl (by decide) rfl (fun ls hl => ?_)
  refine lpX5_measure_a G hc aR rEx rRd rTo rMi rCl rSh rFa aS aH th pl rs ex rd tt ml cz g hpl hrd htt 11 0 fa (hpl.1) (by have := hpl.2; omega) _ _ _ hw (lv_sub hl [1, 2, 0] rfl) (fun z3 ek4 H locs ls hw hl => ?_)
  refine lv_iconst (v := 1) hx hb dX5_measure_34 (by decide) ?_
  refine lv_istore_n (lv' := [(2, .int 1), (0, .ref aR), (1, .int g)]) hx hb dX5_measure_35 rfl hl (by decide) rfl (fun ls hl => ?_)
  refine lpX5_measure_w G hc aR rEx rRd rTo rMi rCl rSh rFa aS aH th pl rs ex rd tt ml cz g hpl hrd htt yfuel z3 1 (yterm hpl _ _) _ _ _ hw (lv_sub hl [1, 2, 0] rfl) (fun z8 ek9 H locs ls hw hl => ?_)
  exact xret_v z8.2.1 hc hw (Eq.symm (xb ek4 (xb ek9 rfl))) ⟨Nat.le_of_ble_eq_true rfl, Nat.le_of_ble_eq_true rfl⟩ dX5_measure_163
