theorem lkX4_night_aI : Cond.arrayClass .int ∈ wsX4_night := List.mem_of_getElem? (i := 2) (by decide +kernel)
theorem inX4_night_X4 : ∀ w ∈ u_ws RX4 TX4 14, w ∈ wsX4_night := fun _ h => List.mem_cons_of_mem _ (List.mem_append_right _ h)
theorem lkX4_night_f37 : Cond.fieldLink RX4 37 "MapCarrierLaw$Sim" "memory" "[[[I" ∈ wsX4_night := List.mem_of_getElem? (i := 1) (by decide +kernel)
/-! the second carrier: a night -/
/-- the first g rows, and i places of the next, are as new says -/
def sNi {α : Type} (g i : Nat) (new old : Nat → Nat → α) : Nat → Nat → α := fun a b => if a < g ∨ (a = g ∧ b < i) then new a b else old a b
theorem sNi_s {α : Type} (g i : Nat) (new old : Nat → Nat → α) : va_up (sNi g i new old) g (va_up (sNi g i new old g) i (new g i)) = sNi g (i + 1) new old := by
  funext a b
  by_cases h : a = g
  · subst h
    rw [va_up_self]
    by_cases k : b = i
    · subst k
      rw [va_up_self]
      unfold sNi
      rw [if_pos (Or.inr ⟨rfl, Nat.lt_succ_self _⟩)]
    · rw [va_up_ne _ _ k]
      unfold sNi
      by_cases d : b < i
      · rw [if_pos (Or.inr ⟨rfl, d⟩), if_pos (Or.inr ⟨rfl, by omega⟩)]
      · rw [if_neg (by omega), if_neg (by omega)]
  · rw [va_up_ne _ _ h]
    unfold sNi
    by_cases d : a < g
    · rw [if_pos (Or.inl d), if_pos (Or.inl d)]
    · rw [if_neg (by omega), if_neg (by omega)]
theorem sNi_id {α : Type} {g i : Nat} {new old : Nat → Nat → α} (h : new g i = old g i) : sNi g i new old = sNi g (i + 1) new old := by
  rw [← sNi_s]
  funext a b
  by_cases c : a = g
  · subst c
    rw [va_up_self]
    by_cases k : b = i
    · subst k
      rw [va_up_self]
      unfold sNi
      rw [if_neg (by omega), h]
    · rw [va_up_ne _ _ k]
  · rw [va_up_ne _ _ c]
theorem sNi_row {α : Type} {g : Nat} {new old : Nat → Nat → α} (h : ∀ b, 10 ≤ b → new g b = old g b) : sNi g 10 new old = sNi (g + 1) 0 new old := by
  funext a b
  unfold sNi
  by_cases d : a < g
  · rw [if_pos (Or.inl d), if_pos (Or.inl (by omega))]
  · by_cases e : a = g
    · subst e
      by_cases k : b < 10
      · rw [if_pos (Or.inr ⟨rfl, k⟩), if_pos (Or.inl (by omega))]
      · rw [if_neg (by omega), if_pos (Or.inl (by omega)), h b (by omega)]
    · rw [if_neg (by omega), if_neg (by omega)]
theorem sNi_at {α : Type} {g i : Nat} {new old : Nat → Nat → α} : sNi g i new old g i = old g i := if_neg (by omega)
/-- a night: what is remembered behind it, and how much is forgotten of the first k places -/
def sNp (mp : Nat → Nat → Bool) (mm : Nat → Nat → Nat → Int32) (g q : Nat) : Bool := if q < 10 then mp g q && !decide (mm g q 1 = 1) else mp g q
def sNm (mp : Nat → Nat → Bool) (mm : Nat → Nat → Nat → Int32) (g q : Nat) : Nat → Int32 := if q < 10 ∧ mp g q = true ∧ ¬ mm g q 1 = 1 then upd (upd (fun _ => 0) 0 (mm g q 0)) 1 (mm g q 1 - 1) else mm g q
def sNc (mp : Nat → Nat → Bool) (mm : Nat → Nat → Nat → Int32) : Nat → Nat
  | 0 => 0
  | k + 1 => sNc mp mm k + if mp (k / 10) (k % 10) = true ∧ mm (k / 10) (k % 10) 1 = 1 then 1 else 0
set_option maxHeartbeats 40000000 in
set_option maxRecDepth 100000 in
theorem lpS_niI {p : Program} {l : Launch} {e : Env} {R : Room} {s : State} {m : MethodId} {args : Array Value} {below : List Frame} {meth : Method} {c : Code} {cells slots : Nat} {Q : State → Prop} {ret : Option FieldType} {G : xG} {A : Nat → Prop} (hc : xC p s m args meth c cX4_night 8 RX4 wsX4_night ret G A) {aS : Nat} {ad : Nat → Nat} {oo : Nat → Nat → Option Nat} {v : Nat → Int32} {n : Nat} {xn : Nat → Nat} {xr : Nat → Nat → Int32} {nr : Nat} {rw : Nat → Nat → Int32} {sh ak : Nat → Int32} {wl : Nat} {wy : Nat → Nat → Int32} {mp : Nat → Nat → Bool} {mm : Nat → Nat → Nat → Int32} {g ga : Nat} (hg : g < 10) (hga0 : oo 3 g = some ga) (hRc : cells + 10 ≤ R.cells ∧ slots + 20 ≤ R.slots)
    (kx : ∀ (L : List Nat) (f : Nat → va_E) (H : Heap) (locs : List Loc) (ls : Array Slot), objS L f aS 4 [.ref (ad 0), .ref (ad 1), .ref (ad 2), .ref (ad 3), .int (v 4), .int (v 5), .int (v 6), .ref (ad 4), .ref (ad 5), .int (v 9), .int (v 10), .int (v 11), .int (v 12), .int (v 13)] → (∃ om, ShA G L f ad oo om n xn xr nr rw sh ak wl wy (sNi g 10 (sNp mp mm) mp) (sNi g 10 (sNm mp mm) mm)) → lv_has ls 8 [(1, .int (nI (sNc mp mm (10 * g + 10)))), (4, .int (nI g)), (3, .int (nI 10)), (2, .ref (ad 5)), (0, .ref aS)] → xW G A s.heap (([] : va_W) ++ va_pl L f) H locs → W p l e R s m args below meth c H locs (cells + 10) (slots + 20) Q (F0 m 122 ls [])) :
    ∀ (d i : Nat), i + d = 10 → ∀ (L : List Nat) (f : Nat → va_E) (H : Heap) (locs : List Loc) (ls : Array Slot), objS L f aS 4 [.ref (ad 0), .ref (ad 1), .ref (ad 2), .ref (ad 3), .int (v 4), .int (v 5), .int (v 6), .ref (ad 4), .ref (ad 5), .int (v 9), .int (v 10), .int (v 11), .int (v 12), .int (v 13)] → (∃ om, ShA G L f ad oo om n xn xr nr rw sh ak wl wy (sNi g i (sNp mp mm) mp) (sNi g i (sNm mp mm) mm)) → lv_has ls 8 [(6, .int (nI i)), (1, .int (nI (sNc mp mm (10 * g + i)))), (5, .ref ga), (4, .int (nI g)), (3, .int (nI 10)), (2, .ref (ad 5)), (0, .ref aS)] → xW G A s.heap (([] : va_W) ++ va_pl L f) H locs → W p l e R s m args below meth c H locs (cells + i) (slots + 2 * i) Q (F0 m 28 ls []) := by
  obtain ⟨hx, hb, -, hown, hts, -⟩ := id hc
  intro d
  induction d with
  | zero =>
    intro i hd L f H locs ls hO hA hl hw
    refine lv_iload hx hb dX4_night_28 (lv_at hl 0 rfl) ?_
    refine lv_bipush (v := 10) hx hb dX4_night_30 (by decide) ?_
    refine lv_icmp_ge (tgt := 122) hx hb dX4_night_32 (by decide) (fun hz => ?_) (fun h => absurd (show (10 : Int32) ≤ nI i from nI_le (a := 10) (by omega) (by omega)) h)
    have ei : i = 10 := by omega
    subst ei
    exact kx L f H locs ls hO hA (lv_sub hl [1, 3, 4, 5, 6] rfl) hw
  | succ d ih =>
    intro i hd L f H locs ls hO hA hl hw
    obtain ⟨om, hA⟩ := hA
    obtain ⟨-, -, -, -, ⟨hM1, hM2, hM3⟩, -⟩ := id hA
    obtain ⟨ga', hga1, hga2, hga3⟩ := hM3 g hg
    cases hga0.symm.trans hga1
    have h9 := hga3 i (by omega)
    rw [sNi_at, sNi_at] at h9
    have k1 : (10 * g + i) / 10 = g := by omega
    have k2 : (10 * g + i) % 10 = i := by omega
    have ec : sNc mp mm (10 * g + (i + 1)) = sNc mp mm (10 * g + i) + if mp g i = true ∧ mm g i 1 = 1 then 1 else 0 := by rw [show 10 * g + (i + 1) = (10 * g + i) + 1 by omega, sNc, k1, k2]
    rcases h9 with ⟨hn1, hn2⟩ | ⟨hn2, b, hn1, hn3⟩
    · refine lv_iload hx hb dX4_night_28 (lv_at hl 0 rfl) ?_
      refine lv_bipush (v := 10) hx hb dX4_night_30 (by decide) ?_
      refine lv_icmp_ge (tgt := 122) hx hb dX4_night_32 (by decide) (fun h => absurd h (show ¬ (10 : Int32) ≤ nI i from nI_ge (b := 10) (by omega) (by omega))) (fun hz => ?_)
      refine lv_aload hx hb dX4_night_35 (lv_at hl 2 rfl) ?_
      refine lv_iload hx hb dX4_night_37 (lv_at hl 0 rfl) ?_
      refine pald hc hw hga2 i rfl (by omega) (by omega) (v := .null) (by rw [hn1]; rfl) dX4_night_39 ?_
      refine lv_ifnonnullN hx hb dX4_night_40 ?_
      refine lv_goto (tgt := 116) hx hb dX4_night_43 (by decide) ?_
      refine lv_iinc (v := nI (i + 1)) (lv' := [(6, .int (nI (i + 1))), (1, .int (nI (sNc mp mm (10 * g + i)))), (5, .ref ga), (4, .int (nI g)), (3, .int (nI 10)), (2, .ref (ad 5)), (0, .ref aS)]) hx hb dX4_night_116 hl (k := 0) rfl (nI_1 _) (by decide) rfl (fun ls hl => ?_)
      refine lv_goto (tgt := 28) hx hb dX4_night_119 (by decide) ?_
      refine pW_le (Nat.add_le_add_left (by omega) _) (Nat.add_le_add_left (by omega) _) (ih (i + 1) (by omega) L f H locs ls hO ⟨om, ?_⟩ ?_ hw)
      · rw [← sNi_id (by unfold sNp; rw [if_pos (by omega), hn2]; rfl), ← sNi_id (by unfold sNm; rw [if_neg (fun z => by rw [hn2] at z; exact absurd z.2.1 (by decide))])]
        exact hA
      · rw [ec, if_neg (fun z => by rw [hn2] at z; exact absurd z.1 (by decide)), Nat.add_zero]
        exact lv_sub hl [0, 1, 2, 3, 4, 5, 6] rfl
    · refine lv_iload hx hb dX4_night_28 (lv_at hl 0 rfl) ?_
      refine lv_bipush (v := 10) hx hb dX4_night_30 (by decide) ?_
      refine lv_icmp_ge (tgt := 122) hx hb dX4_night_32 (by decide) (fun h => absurd h (show ¬ (10 : Int32) ≤ nI i from nI_ge (b := 10) (by omega) (by omega))) (fun hz => ?_)
      refine lv_aload hx hb dX4_night_35 (lv_at hl 2 rfl) ?_
      refine lv_iload hx hb dX4_night_37 (lv_at hl 0 rfl) ?_
      refine pald hc hw hga2 i rfl (by omega) (by omega) (v := .ref b) (by rw [hn1]; rfl) dX4_night_39 ?_
      refine lv_ifnonnull (tgt := 46) hx hb dX4_night_40 (by decide) ?_
      refine lv_aload hx hb dX4_night_46 (lv_at hl 2 rfl) ?_
      refine lv_iload hx hb dX4_night_48 (lv_at hl 0 rfl) ?_
      refine pald hc hw hga2 i rfl (by omega) (by omega) (v := .ref b) (by rw [hn1]; rfl) dX4_night_50 ?_
      refine lv_iconst (v := 1) hx hb dX4_night_51 (by decide) ?_
      refine pild hc hw hn3 1 rfl (by decide) (by omega) (v := (mm g i 1)) rfl dX4_night_52 ?_
      refine lv_iconst (v := 1) hx hb dX4_night_53 (by decide) ?_
      refine lv_icmp_ne (tgt := 61) hx hb dX4_night_54 (by decide) (fun hz1 => ?_) (fun hz1 => ?_)
      · refine lv_iconst (v := 0) hx hb dX4_night_61 (by decide) ?_
        refine lv_istore (lv' := [(7, .int 0), (6, .int (nI i)), (1, .int (nI (sNc mp mm (10 * g + i)))), (5, .ref ga), (4, .int (nI g)), (3, .int (nI 10)), (2, .ref (ad 5)), (0, .ref aS)]) hx hb dX4_night_62 hl (by decide) rfl (fun ls hl => ?_)
        refine lv_aload hx hb dX4_night_64 (lv_at hl 3 rfl) ?_
        refine lv_iload hx hb dX4_night_66 (lv_at hl 1 rfl) ?_
        refine lv_iload hx hb dX4_night_68 (lv_at hl 0 rfl) ?_
        have e1 : ¬ mm g i 1 = 1 := hz1
        refine lv_if_eq (tgt := 77) hx hb dX4_night_70 (by decide) (fun _ => ?_) (fun h => absurd rfl h)
        refine lv_iconst (v := 2) hx hb dX4_night_77 (by decide) ?_
        refine pnewI hc hw 2 rfl (by omega) lkX4_night_aI (by first | exact Nat.le_of_ble_eq_true rfl | ((try dsimp only); omega)) (by first | exact Nat.le_of_ble_eq_true rfl | ((try dsimp only); omega)) dX4_night_78 (fun z L1 f1 H hzn k1 r1 hw => ?_)
        have hbz : ¬ b = z := fun w => hzn (w ▸ hn3.1)
        have hAo := hA
        have hO := hO.kp k1 (fun z => z)
        have hga2 := hga2.kp k1 (fun z => z)
        have hn3 := hn3.kp k1 (fun z => z)
        refine lv_dup hx hb dX4_night_80 rfl ?_
        refine lv_iconst (v := 0) hx hb dX4_night_81 (by decide) ?_
        refine lv_aload hx hb dX4_night_82 (lv_at hl 3 rfl) ?_
        refine lv_iload hx hb dX4_night_84 (lv_at hl 1 rfl) ?_
        refine pald hc hw hga2 i rfl (by omega) (by omega) (v := .ref b) (by rw [hn1]; rfl) dX4_night_86 ?_
        refine lv_iconst (v := 0) hx hb dX4_night_87 (by decide) ?_
        refine pild hc hw hn3 0 rfl (by decide) (by omega) (v := (mm g i 0)) rfl dX4_night_88 ?_
        refine pist hc hw r1 0 rfl (by decide) (by omega) dX4_night_89 (fun f H locs k2 r2 hw => ?_)
        have hn3 := hn3.kp k2 hbz
        have hga2b := hga2.kp k2 (fun w => (r1.neA hga2) w.symm)
        have kz := k2
        refine lv_dup hx hb dX4_night_90 rfl ?_
        refine lv_iconst (v := 1) hx hb dX4_night_91 (by decide) ?_
        refine lv_aload hx hb dX4_night_92 (lv_at hl 3 rfl) ?_
        refine lv_iload hx hb dX4_night_94 (lv_at hl 1 rfl) ?_
        refine pald hc hw hga2b i rfl (by omega) (by omega) (v := .ref b) (by rw [hn1]; rfl) dX4_night_96 ?_
        refine lv_iconst (v := 1) hx hb dX4_night_97 (by decide) ?_
        refine pild hc hw hn3 1 rfl (by decide) (by omega) (v := (mm g i 1)) rfl dX4_night_98 ?_
        refine lv_iconst (v := 1) hx hb dX4_night_99 (by decide) ?_
        refine lv_isub hx hb dX4_night_100 ?_
        refine pist hc hw r2 1 rfl (by decide) (by omega) dX4_night_101 (fun f H locs k4 r4 hw => ?_)
        have kz2 := kz.tr k4
        have hO := hO.kp kz2 (hO.neI r1)
        have hga2 := hga2.kp kz2 (fun w => (r1.neA hga2) w.symm)
        have hA := hAo.fresh (k1.off hzn kz2)
        refine past hc hw hga2 i rfl (by omega) (by omega) r4 dX4_night_102 (fun f H locs k6 r6 hw => ?_)
        have hO := hO.kp k6 (hO.neA hga2)
        have hA := hA.setM (g := g) (p := i) (b1 := sNp mp mm g i) (g1 := sNm mp mm g i) (by omega) hga1 k6 r6 (Or.inr ⟨by unfold sNp; rw [if_pos (by omega), hn2, decide_eq_false e1]; rfl, z, rfl, by unfold sNm; rw [if_pos ⟨by omega, hn2, e1⟩]; exact r4⟩)
        rw [sNi_s, sNi_s] at hA
        refine lv_iload_n hx hb dX4_night_103 rfl (lv_at hl 2 rfl) ?_
        refine lv_iload hx hb dX4_night_104 (lv_at hl 0 rfl) ?_
        refine lv_if_eq (tgt := 113) hx hb dX4_night_106 (by decide) (fun _ => ?_) (fun h => absurd rfl h)
        refine lv_iconst (v := 0) hx hb dX4_night_113 (by decide) ?_
        refine lv_iadd hx hb dX4_night_114 ?_
        refine lv_istore_n (lv' := [(1, .int ((nI (sNc mp mm (10 * g + i))) + 0)), (7, .int 0), (6, .int (nI i)), (5, .ref ga), (4, .int (nI g)), (3, .int (nI 10)), (2, .ref (ad 5)), (0, .ref aS)]) hx hb dX4_night_115 rfl hl (by decide) rfl (fun ls hl => ?_)
        refine lv_iinc (v := nI (i + 1)) (lv' := [(6, .int (nI (i + 1))), (1, .int ((nI (sNc mp mm (10 * g + i))) + 0)), (7, .int 0), (5, .ref ga), (4, .int (nI g)), (3, .int (nI 10)), (2, .ref (ad 5)), (0, .ref aS)]) hx hb dX4_night_116 hl (k := 2) rfl (nI_1 _) (by decide) rfl (fun ls hl => ?_)
        refine lv_goto (tgt := 28) hx hb dX4_night_119 (by decide) ?_
        refine pW_eq (by (try dsimp only); omega) (by (try dsimp only); omega) (ih (i + 1) (by omega) L1 f H locs ls hO ⟨_, hA⟩ ?_ hw)
        have e5 : nI (sNc mp mm (10 * g + i)) + 0 = nI (sNc mp mm (10 * g + (i + 1))) := by rw [ec, if_neg (fun z => e1 z.2), Nat.add_zero, Int32.add_zero]
        rw [← e5]
        exact lv_sub hl [0, 1, 3, 4, 5, 6, 7] rfl
      · refine lv_iconst (v := 1) hx hb dX4_night_57 (by decide) ?_
        refine lv_goto (tgt := 62) hx hb dX4_night_58 (by decide) ?_
        refine lv_istore (lv' := [(7, .int 1), (6, .int (nI i)), (1, .int (nI (sNc mp mm (10 * g + i)))), (5, .ref ga), (4, .int (nI g)), (3, .int (nI 10)), (2, .ref (ad 5)), (0, .ref aS)]) hx hb dX4_night_62 hl (by decide) rfl (fun ls hl => ?_)
        refine lv_aload hx hb dX4_night_64 (lv_at hl 3 rfl) ?_
        refine lv_iload hx hb dX4_night_66 (lv_at hl 1 rfl) ?_
        refine lv_iload hx hb dX4_night_68 (lv_at hl 0 rfl) ?_
        have e1 : mm g i 1 = 1 := hz1
        refine lv_if_eq (tgt := 77) hx hb dX4_night_70 (by decide) (fun h => absurd h (by decide)) (fun _ => ?_)
        refine lv_null hx hb dX4_night_73 ?_
        refine lv_goto (tgt := 102) hx hb dX4_night_74 (by decide) ?_
        refine pastN hc hw hga2 i rfl (by omega) (by omega) dX4_night_102 (fun f H locs k r9 hw => ?_)
        have hO := hO.kp k (hO.neA hga2)
        have hA := hA.setM (g := g) (p := i) (b1 := sNp mp mm g i) (g1 := sNm mp mm g i) (by omega) hga1 k r9 (Or.inl ⟨rfl, by unfold sNp; rw [if_pos (by omega), hn2, e1]; decide⟩)
        rw [sNi_s, sNi_s] at hA
        refine lv_iload_n hx hb dX4_night_103 rfl (lv_at hl 2 rfl) ?_
        refine lv_iload hx hb dX4_night_104 (lv_at hl 0 rfl) ?_
        refine lv_if_eq (tgt := 113) hx hb dX4_night_106 (by decide) (fun h => absurd h (by decide)) (fun _ => ?_)
        refine lv_iconst (v := 1) hx hb dX4_night_109 (by decide) ?_
        refine lv_goto (tgt := 114) hx hb dX4_night_110 (by decide) ?_
        refine lv_iadd hx hb dX4_night_114 ?_
        refine lv_istore_n (lv' := [(1, .int ((nI (sNc mp mm (10 * g + i))) + 1)), (7, .int 1), (6, .int (nI i)), (5, .ref ga), (4, .int (nI g)), (3, .int (nI 10)), (2, .ref (ad 5)), (0, .ref aS)]) hx hb dX4_night_115 rfl hl (by decide) rfl (fun ls hl => ?_)
        refine lv_iinc (v := nI (i + 1)) (lv' := [(6, .int (nI (i + 1))), (1, .int ((nI (sNc mp mm (10 * g + i))) + 1)), (7, .int 1), (5, .ref ga), (4, .int (nI g)), (3, .int (nI 10)), (2, .ref (ad 5)), (0, .ref aS)]) hx hb dX4_night_116 hl (k := 2) rfl (nI_1 _) (by decide) rfl (fun ls hl => ?_)
        refine lv_goto (tgt := 28) hx hb dX4_night_119 (by decide) ?_
        refine pW_le (Nat.add_le_add_left (by omega) _) (Nat.add_le_add_left (by omega) _) (ih (i + 1) (by omega) L f H locs ls hO ⟨_, hA⟩ ?_ hw)
        rw [ec, if_pos ⟨hn2, e1⟩, ← nI_1 (sNc mp mm (10 * g + i))]
        exact lv_sub hl [0, 1, 3, 4, 5, 6, 7] rfl
set_option maxHeartbeats 40000000 in
set_option maxRecDepth 100000 in
theorem lpS_niO {p : Program} {l : Launch} {e : Env} {R : Room} {s : State} {m : MethodId} {args : Array Value} {below : List Frame} {meth : Method} {c : Code} {cells slots : Nat} {Q : State → Prop} {ret : Option FieldType} {G : xG} {A : Nat → Prop} (hc : xC p s m args meth c cX4_night 8 RX4 wsX4_night ret G A) {aS : Nat} {ad : Nat → Nat} {oo : Nat → Nat → Option Nat} {v : Nat → Int32} {n : Nat} {xn : Nat → Nat} {xr : Nat → Nat → Int32} {nr : Nat} {rw : Nat → Nat → Int32} {sh ak : Nat → Int32} {wl : Nat} {wy : Nat → Nat → Int32} {mp : Nat → Nat → Bool} {mm : Nat → Nat → Nat → Int32} (hRc : cells + 100 ≤ R.cells ∧ slots + 200 ≤ R.slots)
    (kx : ∀ (L : List Nat) (f : Nat → va_E) (H : Heap) (locs : List Loc) (ls : Array Slot), objS L f aS 4 [.ref (ad 0), .ref (ad 1), .ref (ad 2), .ref (ad 3), .int (v 4), .int (v 5), .int (v 6), .ref (ad 4), .ref (ad 5), .int (v 9), .int (v 10), .int (v 11), .int (v 12), .int (v 13)] → (∃ om, ShA G L f ad oo om n xn xr nr rw sh ak wl wy (sNi 10 0 (sNp mp mm) mp) (sNi 10 0 (sNm mp mm) mm)) → lv_has ls 8 [(1, .int (nI (sNc mp mm 100))), (0, .ref aS)] → xW G A s.heap (([] : va_W) ++ va_pl L f) H locs → W p l e R s m args below meth c H locs (cells + 100) (slots + 200) Q (F0 m 128 ls [])) :
    ∀ (d i : Nat), i + d = 10 → ∀ (L : List Nat) (f : Nat → va_E) (H : Heap) (locs : List Loc) (ls : Array Slot), objS L f aS 4 [.ref (ad 0), .ref (ad 1), .ref (ad 2), .ref (ad 3), .int (v 4), .int (v 5), .int (v 6), .ref (ad 4), .ref (ad 5), .int (v 9), .int (v 10), .int (v 11), .int (v 12), .int (v 13)] → (∃ om, ShA G L f ad oo om n xn xr nr rw sh ak wl wy (sNi i 0 (sNp mp mm) mp) (sNi i 0 (sNm mp mm) mm)) → lv_has ls 8 [(4, .int (nI i)), (1, .int (nI (sNc mp mm (10 * i)))), (3, .int (nI 10)), (2, .ref (ad 5)), (0, .ref aS)] → xW G A s.heap (([] : va_W) ++ va_pl L f) H locs → W p l e R s m args below meth c H locs (cells + 10 * i) (slots + 20 * i) Q (F0 m 13 ls []) := by
  obtain ⟨hx, hb, -, hown, hts, -⟩ := id hc
  intro d
  induction d with
  | zero =>
    intro i hd L f H locs ls hO hA hl hw
    refine lv_iload hx hb dX4_night_13 (lv_at hl 0 rfl) ?_
    refine lv_iload_n hx hb dX4_night_15 rfl (lv_at hl 2 rfl) ?_
    refine lv_icmp_ge (tgt := 128) hx hb dX4_night_16 (by decide) (fun hz => ?_) (fun h => absurd (nI_le (by omega) (by omega)) h)
    have ei : i = 10 := by omega
    subst ei
    exact kx L f H locs ls hO hA (lv_sub hl [1, 4] rfl) hw
  | succ d ih =>
    intro i hd L f H locs ls hO hA hl hw
    obtain ⟨om, hA⟩ := hA
    obtain ⟨-, -, -, -, ⟨hM1, hM2, hM3⟩, -⟩ := id hA
    obtain ⟨ga, hga1, hga2, hga3⟩ := hM3 i (by omega)
    refine lv_iload hx hb dX4_night_13 (lv_at hl 0 rfl) ?_
    refine lv_iload_n hx hb dX4_night_15 rfl (lv_at hl 2 rfl) ?_
    refine lv_icmp_ge (tgt := 128) hx hb dX4_night_16 (by decide) (fun h => absurd h (nI_ge (by omega) (by omega))) (fun hz => ?_)
    refine lv_aload_n hx hb dX4_night_19 rfl (lv_at hl 3 rfl) ?_
    refine lv_iload hx hb dX4_night_20 (lv_at hl 0 rfl) ?_
    refine pbld hc hw hM1 i rfl (by omega) (by omega) (v := .ref ga) (by rw [hga1]; rfl) dX4_night_22 ?_
    refine lv_astore (lv' := [(5, .ref ga), (4, .int (nI i)), (1, .int (nI (sNc mp mm (10 * i)))), (3, .int (nI 10)), (2, .ref (ad 5)), (0, .ref aS)]) hx hb dX4_night_23 hl (by decide) rfl (fun ls hl => ?_)
    refine lv_iconst (v := 0) hx hb dX4_night_25 (by decide) ?_
    refine lv_istore (lv' := [(6, .int 0), (5, .ref ga), (4, .int (nI i)), (1, .int (nI (sNc mp mm (10 * i)))), (3, .int (nI 10)), (2, .ref (ad 5)), (0, .ref aS)]) hx hb dX4_night_26 hl (by decide) rfl (fun ls hl => ?_)
    refine lpS_niI (v := v) (g := i) (cells := cells + 10 * i) (slots := slots + 20 * i) hc (by omega) hga1 ⟨by have := hRc.1; omega, by have := hRc.2; omega⟩ (fun L f H locs ls hO hA hl hw => ?_) 10 0 rfl L f _ _ ls hO ⟨om, hA⟩ (lv_sub hl [0, 3, 1, 2, 4, 5, 6] rfl) hw
    refine lv_iinc (v := nI (i + 1)) (lv' := [(4, .int (nI (i + 1))), (1, .int (nI (sNc mp mm (10 * i + 10)))), (3, .int (nI 10)), (2, .ref (ad 5)), (0, .ref aS)]) hx hb dX4_night_122 hl (k := 1) rfl (nI_1 _) (by decide) rfl (fun ls hl => ?_)
    refine lv_goto (tgt := 13) hx hb dX4_night_125 (by decide) ?_
    refine pW_eq (by omega) (by omega) (ih (i + 1) (by omega) L f H locs ls hO ?_ (lv_sub hl [0, 1, 2, 3, 4] rfl) hw)
    obtain ⟨om, hA⟩ := hA
    refine ⟨om, ?_⟩
    rw [sNi_row (fun b hb => by unfold sNp; rw [if_neg (by omega)]), sNi_row (fun b hb => by unfold sNm; rw [if_neg (by omega)])] at hA
    exact hA
set_option maxHeartbeats 40000000 in
set_option maxRecDepth 100000 in
theorem metS_night (l : Launch) (G : xG) (sz : Nat) (L : List Nat) (f : Nat → va_E) (aS : Nat) (v : Nat → Int32) (n : Nat) (xn : Nat → Nat) (xr : Nat → Nat → Int32) (nr : Nat) (rw : Nat → Nat → Int32) (sh ak : Nat → Int32) (wl : Nat) (wy : Nat → Nat → Int32) (mp : Nat → Nat → Bool) (mm : Nat → Nat → Nat → Int32) (S : Sh G L f aS v n xn xr nr rw sh ak wl wy mp mm) : pMi l yX4_night wsX4_night ⟨0, 100, 200, 0⟩ G [.ref aS] L f sz (fun r u => r = nI (sNc mp mm 100) ∧ Sh G u.1 u.2 aS v n xn xr nr rw sh ak wl wy (sNi 10 0 (sNp mp mm) mp) (sNi 10 0 (sNm mp mm) mm)) := by
  obtain ⟨ad, oo, om, hO, hA⟩ := S
  have hO : objS L f aS 4 [.ref (ad 0), .ref (ad 1), .ref (ad 2), .ref (ad 3), .int (v 4), .int (v 5), .int (v 6), .ref (ad 4), .ref (ad 5), .int (v 9), .int (v 10), .int (v 11), .int (v 12), .int (v 13)] := hO
  refine xof (own := RX4) (cc := cX4_night) (maxL := 8) (ret := (some .int)) rfl (by decide) rfl (Nat.le_of_ble_eq_true rfl) ?_
  intro pg en s mi below meth cd hc hnm hw ls hl
  obtain ⟨hx, hb, -, hown, hts, -⟩ := id hc
  have hl : lv_has ls 8 [(0, .ref aS)] := hl
  have hw : xW G _ s.heap (([] : va_W) ++ va_pl L f) s.heap [] := hw
  refine lv_iconst (v := 0) hx hb dX4_night_0 (by decide) ?_
  refine lv_istore_n (lv' := [(1, .int 0), (0, .ref aS)]) hx hb dX4_night_1 rfl hl (by decide) rfl (fun ls hl => ?_)
  refine lv_aload_n hx hb dX4_night_2 rfl (lv_at hl 1 rfl) ?_
  refine pget (C := RX4) (T := TX4) (N := 14) (ci := 4) hc hw inX4_night_X4 hO rfl 8 (by decide) lkX4_night_f37 rfl rfl dX4_night_3 ?_
  refine lv_astore_n (lv' := [(2, .ref (ad 5)), (1, .int 0), (0, .ref aS)]) hx hb dX4_night_6 rfl hl (by decide) rfl (fun ls hl => ?_)
  refine lv_aload_n hx hb dX4_night_7 rfl (lv_at hl 0 rfl) ?_
  refine plenB hc hw hA.2.2.2.2.1.1 dX4_night_8 ?_
  refine lv_istore_n (lv' := [(3, .int (nI 10)), (2, .ref (ad 5)), (1, .int 0), (0, .ref aS)]) hx hb dX4_night_9 rfl hl (by decide) rfl (fun ls hl => ?_)
  refine lv_iconst (v := 0) hx hb dX4_night_10 (by decide) ?_
  refine lv_istore (lv' := [(4, .int 0), (3, .int (nI 10)), (2, .ref (ad 5)), (1, .int 0), (0, .ref aS)]) hx hb dX4_night_11 hl (by decide) rfl (fun ls hl => ?_)
  have e0 : ∀ {α : Type} (x y : Nat → Nat → α), sNi 0 0 x y = y := fun x y => funext fun a => funext fun b => if_neg (by omega)
  refine lpS_niO (cells := 0) (slots := 0) hc ⟨Nat.le_of_ble_eq_true rfl, Nat.le_of_ble_eq_true rfl⟩ (fun L f H locs ls hO hA hl hw => ?_) 10 0 rfl L f _ _ ls hO ⟨om, by rw [e0, e0]; exact hA⟩ (lv_sub hl [0, 3, 1, 2, 4] rfl) hw
  obtain ⟨om, hA⟩ := hA
  refine lv_iload_n hx hb dX4_night_128 rfl (lv_at hl 0 rfl) ?_
  exact pret_i hc hw (⟨rfl, _, _, _, hO, hA⟩) (by first | exact ⟨Nat.le_of_ble_eq_true rfl, Nat.le_of_ble_eq_true rfl⟩ | (refine ⟨?_, ?_⟩ <;> ((try dsimp only); omega))) dX4_night_129
