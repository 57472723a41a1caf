/-! a step of each side, case by case -/
def zf0 (po co go wl wk db dn iv qs : Int32) (wy tr ak mx ms fa : Nat → Int32) : Int32 × (Int32) × (Int32) × (Int32) × (Int32) × (Int32) × (Int32) × (Int32) × (Int32) × (Int32) × (Nat → Int32) × (Nat → Int32) × (Nat → Int32) × (Nat → Int32) × (Nat → Int32) × (Nat → Int32) :=
  if po = go then (1, po, co, (-1), 0, wk, db, dn + 1, iv, qs, wy, tr, ak, (FX0_rememberWay go wl wy mx ms).1, (FX0_rememberWay go wl wy mx ms).2, fa) else (1, po, co, go, wl, wk, db, dn, iv, qs, wy, tr, ak, mx, ms, fa)
def zf1 (po co go ln wk db dn iv qs : Int32) (tr ak wy xe sg fa : Nat → Int32) : Int32 × (Int32) × (Int32) × (Int32) × (Int32) × (Int32) × (Int32) × (Int32) × (Int32) × (Int32) × (Nat → Int32) × (Nat → Int32) × (Nat → Int32) × (Nat → Int32) × (Nat → Int32) × (Nat → Int32) :=
  if po = go then (1, po, co, (FX4_end tr ak).1, (FX4_end tr ak).2.1, wk, db, dn + 1, iv, qs, (FX4_end tr ak).2.2.1, (FX4_end tr ak).2.2.2, wy, (FX5_learn go ln wy xe sg).1, (FX5_learn go ln wy xe sg).2, fa) else (1, po, co, go, ln, wk, db, dn, iv, qs, tr, ak, wy, xe, sg, fa)
set_option maxHeartbeats 4000000 in
set_option maxRecDepth 100000 in
theorem zs0_rem {po co go wl gu wk db dn iv qs pl : Int32} {wy tr ak mx ms ex sh ld tw le op fa : Nat → Int32} {r wl2 wk2 po2 : Int32} {tr2 wy2 : Nat → Int32} (hr : FX0_rememberedEnd po go tr mx ms pl ex op = r) (h : ¬ r = -1) (hT : FX0_take po wl wk wy tr tw le r = (tr2, wy2, wl2, wk2, po2)) : FX0_step po co go wl gu wk db dn iv qs wy tr ak mx ms pl ex sh ld tw le op fa = zf0 po2 co go wl2 wk2 db dn iv qs wy2 tr2 ak mx ms fa := by
  unfold FX0_step xbind
  dsimp only
  rw [hr, if_neg h, hT]
  rfl
set_option maxHeartbeats 4000000 in
set_option maxRecDepth 100000 in
theorem zs0_ask {po co go wl gu wk db dn iv qs pl : Int32} {wy tr ak mx ms ex sh ld tw le op fa : Nat → Int32} {r co2 qs2 : Int32} {ak2 mx2 ms2 fa2 : Nat → Int32} {wl2 wk2 po2 : Int32} {tr2 wy2 : Nat → Int32} (hr : FX0_rememberedEnd po go tr mx ms pl ex op = -1) (hA : FX0_askedEnd po co go gu qs tr ak mx ms pl ex sh ld le op fa = (r, co2, qs2, ak2, mx2, ms2, fa2)) (h : ¬ r = -1) (hT : FX0_take po wl wk wy tr tw le r = (tr2, wy2, wl2, wk2, po2)) : FX0_step po co go wl gu wk db dn iv qs wy tr ak mx ms pl ex sh ld tw le op fa = zf0 po2 co2 go wl2 wk2 db dn iv qs2 wy2 tr2 ak2 mx2 ms2 fa2 := by
  unfold FX0_step xbind xbind2
  dsimp only
  rw [hr, if_pos rfl, hA]
  dsimp only
  rw [if_neg h, hT]
  rfl
set_option maxHeartbeats 4000000 in
set_option maxRecDepth 100000 in
theorem zs0_try {po co go wl gu wk db dn iv qs pl : Int32} {wy tr ak mx ms ex sh ld tw le op fa : Nat → Int32} {r co2 qs2 : Int32} {ak2 mx2 ms2 fa2 : Nat → Int32} {r2 wl2 wk2 po2 : Int32} {tr2 wy2 : Nat → Int32} (hr : FX0_rememberedEnd po go tr mx ms pl ex op = -1) (hA : FX0_askedEnd po co go gu qs tr ak mx ms pl ex sh ld le op fa = (r, co2, qs2, ak2, mx2, ms2, fa2)) (h : r = -1) (hf : FX0_firstUntried po tr op = r2) (h2 : ¬ r2 = -1) (hT : FX0_take po wl wk wy tr tw le r2 = (tr2, wy2, wl2, wk2, po2)) : FX0_step po co go wl gu wk db dn iv qs wy tr ak mx ms pl ex sh ld tw le op fa = zf0 po2 co2 go wl2 wk2 db dn iv qs2 wy2 tr2 ak2 mx2 ms2 fa2 := by
  unfold FX0_step xbind xbind2
  dsimp only
  rw [hr, if_pos rfl, hA]
  dsimp only
  rw [if_pos h, hf, if_neg h2, hT]
  rfl
set_option maxHeartbeats 4000000 in
set_option maxRecDepth 100000 in
theorem zs0_vain {po co go wl gu wk db dn iv qs pl : Int32} {wy tr ak mx ms ex sh ld tw le op fa : Nat → Int32} {r co2 qs2 : Int32} {ak2 mx2 ms2 fa2 : Nat → Int32} (hr : FX0_rememberedEnd po go tr mx ms pl ex op = -1) (hA : FX0_askedEnd po co go gu qs tr ak mx ms pl ex sh ld le op fa = (r, co2, qs2, ak2, mx2, ms2, fa2)) (h : r = -1) (hf : FX0_firstUntried po tr op = -1) (h2 : wl ≤ 0) : FX0_step po co go wl gu wk db dn iv qs wy tr ak mx ms pl ex sh ld tw le op fa = (0, po, co2, (-1), 0, wk, db, dn, iv + 1, qs2, wy, tr, ak2, mx2, ms2, fa2) := by
  unfold FX0_step xbind xbind2
  dsimp only
  rw [hr, if_pos rfl, hA]
  dsimp only
  rw [if_pos h, hf, if_pos rfl, if_pos h2]
  rfl
set_option maxHeartbeats 4000000 in
set_option maxRecDepth 100000 in
theorem zs0_back {po co go wl gu wk db dn iv qs pl : Int32} {wy tr ak mx ms ex sh ld tw le op fa : Nat → Int32} {r co2 qs2 : Int32} {ak2 mx2 ms2 fa2 : Nat → Int32} {wl2 wk2 db2 po2 : Int32} (hr : FX0_rememberedEnd po go tr mx ms pl ex op = -1) (hA : FX0_askedEnd po co go gu qs tr ak mx ms pl ex sh ld le op fa = (r, co2, qs2, ak2, mx2, ms2, fa2)) (h : r = -1) (hf : FX0_firstUntried po tr op = -1) (h2 : ¬ wl ≤ 0) (hD : FX0_doubleBack wl wk db wy le = (wl2, wk2, db2, po2)) : FX0_step po co go wl gu wk db dn iv qs wy tr ak mx ms pl ex sh ld tw le op fa = zf0 po2 co2 go wl2 wk2 db2 dn iv qs2 wy tr ak2 mx2 ms2 fa2 := by
  unfold FX0_step xbind xbind2
  dsimp only
  rw [hr, if_pos rfl, hA]
  dsimp only
  rw [if_pos h, hf, if_pos rfl, if_neg h2, hD]
  rfl
set_option maxHeartbeats 4000000 in
set_option maxRecDepth 100000 in
theorem zs1_rem {po co go ln wk db dn iv qs pl : Int32} {tr ak wy xe sg ex rd tt ml cz sh fa : Nat → Int32} {r ln2 wk2 po2 : Int32} {tr2 wy2 : Nat → Int32} (hr : FX4_remembered go xe po = r) (h : ¬ r = -1) (hc : ¬ FX5_canTake rd cz tr (4 * po + r) = 0) (hT : FX5_take rd tt ml ln wk tr wy (4 * po + r) = (po2, ln2, wk2, tr2, wy2)) : FX5_stepOn pl ex rd tt ml cz sh fa po co go ln wk db dn iv qs tr ak wy xe sg = zf1 po2 co go ln2 wk2 db dn iv qs tr2 ak wy2 xe sg fa := by
  unfold FX5_stepOn xbind
  dsimp only
  rw [hr, if_neg h, if_neg hc, hT]
  rfl
def zU (rd cz tr xe : Nat → Int32) (po go : Int32) : Prop := FX4_remembered go xe po = -1 ∨ FX5_canTake rd cz tr (4 * po + FX4_remembered go xe po) = 0
set_option maxHeartbeats 4000000 in
set_option maxRecDepth 100000 in
theorem zs1_ask {po co go ln wk db dn iv qs pl : Int32} {tr ak wy xe sg ex rd tt ml cz sh fa : Nat → Int32} {po2 co2 ln2 wk2 qs2 : Int32} {tr2 ak2 wy2 xe2 sg2 fa2 : Nat → Int32} (hU : zU rd cz tr xe po go) (hA : FX5_asks pl ex rd tt ml cz sh fa po co go ln wk qs tr ak wy xe sg = (1, po2, co2, ln2, wk2, qs2, tr2, ak2, wy2, xe2, sg2, fa2)) : FX5_stepOn pl ex rd tt ml cz sh fa po co go ln wk db dn iv qs tr ak wy xe sg = zf1 po2 co2 go ln2 wk2 db dn iv qs2 tr2 ak2 wy2 xe2 sg2 fa2 := by
  unfold FX5_stepOn xbind xbind2
  dsimp only
  by_cases h : FX4_remembered go xe po = -1
  · rw [if_pos h, hA]
    dsimp only
    rw [if_neg (by decide)]
    rfl
  · rw [if_neg h, if_pos (hU.resolve_left h), hA]
    dsimp only
    rw [if_neg (by decide)]
    rfl
set_option maxHeartbeats 4000000 in
set_option maxRecDepth 100000 in
theorem zs1_try {po co go ln wk db dn iv qs pl : Int32} {tr ak wy xe sg ex rd tt ml cz sh fa : Nat → Int32} {po2 co2 ln2 wk2 qs2 : Int32} {tr2 ak2 wy2 xe2 sg2 fa2 : Nat → Int32} {po3 ln3 wk3 : Int32} {tr3 wy3 : Nat → Int32} (hU : zU rd cz tr xe po go) (hA : FX5_asks pl ex rd tt ml cz sh fa po co go ln wk qs tr ak wy xe sg = (0, po2, co2, ln2, wk2, qs2, tr2, ak2, wy2, xe2, sg2, fa2)) (hf : FX5_triesNext ex rd tt ml cz po2 ln2 wk2 tr2 wy2 = (1, po3, ln3, wk3, tr3, wy3)) : FX5_stepOn pl ex rd tt ml cz sh fa po co go ln wk db dn iv qs tr ak wy xe sg = zf1 po3 co2 go ln3 wk3 db dn iv qs2 tr3 ak2 wy3 xe2 sg2 fa2 := by
  unfold FX5_stepOn xbind xbind2
  dsimp only
  by_cases h : FX4_remembered go xe po = -1
  · rw [if_pos h, hA]
    dsimp only
    rw [if_pos rfl, hf]
    dsimp only
    rw [if_neg (by decide)]
    rfl
  · rw [if_neg h, if_pos (hU.resolve_left h), hA]
    dsimp only
    rw [if_pos rfl, hf]
    dsimp only
    rw [if_neg (by decide)]
    rfl
set_option maxHeartbeats 4000000 in
set_option maxRecDepth 100000 in
theorem zs1_vain {po co go ln wk db dn iv qs pl : Int32} {tr ak wy xe sg ex rd tt ml cz sh fa : Nat → Int32} {po2 co2 ln2 wk2 qs2 : Int32} {tr2 ak2 wy2 xe2 sg2 fa2 : Nat → Int32} {po3 ln3 wk3 : Int32} {tr3 wy3 : Nat → Int32} (hU : zU rd cz tr xe po go) (hA : FX5_asks pl ex rd tt ml cz sh fa po co go ln wk qs tr ak wy xe sg = (0, po2, co2, ln2, wk2, qs2, tr2, ak2, wy2, xe2, sg2, fa2)) (hf : FX5_triesNext ex rd tt ml cz po2 ln2 wk2 tr2 wy2 = (0, po3, ln3, wk3, tr3, wy3)) (h0 : ln3 = 0) : FX5_stepOn pl ex rd tt ml cz sh fa po co go ln wk db dn iv qs tr ak wy xe sg = (0, po3, co2, (FX4_end tr3 ak2).1, (FX4_end tr3 ak2).2.1, wk3, db, dn, iv + 1, qs2, (FX4_end tr3 ak2).2.2.1, (FX4_end tr3 ak2).2.2.2, wy3, xe2, sg2, fa2) := by
  unfold FX5_stepOn xbind xbind2
  dsimp only
  have hD : FX5_doublesBack rd ml po3 ln3 wk3 db wy3 = (0, po3, ln3, wk3, db) := if_pos h0
  by_cases h : FX4_remembered go xe po = -1
  · rw [if_pos h, hA]
    dsimp only
    rw [if_pos rfl, hf]
    dsimp only
    rw [if_pos rfl, hD]
    dsimp only
    rw [if_pos rfl]
  · rw [if_neg h, if_pos (hU.resolve_left h), hA]
    dsimp only
    rw [if_pos rfl, hf]
    dsimp only
    rw [if_pos rfl, hD]
    dsimp only
    rw [if_pos rfl]
set_option maxHeartbeats 4000000 in
set_option maxRecDepth 100000 in
theorem zs1_back {po co go ln wk db dn iv qs pl : Int32} {tr ak wy xe sg ex rd tt ml cz sh fa : Nat → Int32} {po2 co2 ln2 wk2 qs2 : Int32} {tr2 ak2 wy2 xe2 sg2 fa2 : Nat → Int32} {po3 ln3 wk3 po4 ln4 wk4 db4 : Int32} {tr3 wy3 : Nat → Int32} (hU : zU rd cz tr xe po go) (hA : FX5_asks pl ex rd tt ml cz sh fa po co go ln wk qs tr ak wy xe sg = (0, po2, co2, ln2, wk2, qs2, tr2, ak2, wy2, xe2, sg2, fa2)) (hf : FX5_triesNext ex rd tt ml cz po2 ln2 wk2 tr2 wy2 = (0, po3, ln3, wk3, tr3, wy3)) (hD : FX5_doublesBack rd ml po3 ln3 wk3 db wy3 = (1, po4, ln4, wk4, db4)) : FX5_stepOn pl ex rd tt ml cz sh fa po co go ln wk db dn iv qs tr ak wy xe sg = zf1 po4 co2 go ln4 wk4 db4 dn iv qs2 tr3 ak2 wy3 xe2 sg2 fa2 := by
  unfold FX5_stepOn xbind xbind2
  dsimp only
  by_cases h : FX4_remembered go xe po = -1
  · rw [if_pos h, hA]
    dsimp only
    rw [if_pos rfl, hf]
    dsimp only
    rw [if_pos rfl, hD]
    dsimp only
    rw [if_neg (by decide)]
    rfl
  · rw [if_neg h, if_pos (hU.resolve_left h), hA]
    dsimp only
    rw [if_pos rfl, hf]
    dsimp only
    rw [if_pos rfl, hD]
    dsimp only
    rw [if_neg (by decide)]
    rfl
