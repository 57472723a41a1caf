/-! the class's contracts, over its world as one list -/
abbrev cU : Type := (Nat → Int32) × (Nat → Int32) × (Nat → Nat → Int32)
/-- the class's cells: addresses a, what its land and its carrier hold (z, r), the row of miles and the trial's cells (u) -/
def cW (G : xG) (a : Nat → Nat) (z : Nat → Int32) (r : Nat → Nat → Int32) (u : cU) : va_W := [xO (a 0) 3 [.ref (a 1), .ref (a 2), .ref (a 3)], xO (a 1) 1 [.int (z 0), .ref (a 6), .ref (a 7), .ref (a 8), .ref (a 9), .ref (a 10), .ref (a 11), .ref (a 12)], xAI G (a 6) 10 (r 0), xAZ G (a 7) 10 (r 1), xAI G (a 8) 40 (r 2), xAI G (a 9) 40 (r 3), xAI G (a 10) 40 (r 4), xAZ G (a 11) 40 (r 5), xAI G (a 12) 10 u.1, xO (a 2) 0 [.ref (a 1), .ref (a 4), .int (z 1), .int (z 2), .int (z 3), .ref (a 13), .int (z 4), .ref (a 14), .ref (a 15), .int (z 5), .int (z 6), .int (z 7), .int (z 8), .int (z 9), .int (z 10)], xAI G (a 13) 20 (r 6), xAZ G (a 14) 40 (r 7), xAZ G (a 15) 10 (r 8), xO (a 4) 2 [.ref (a 16), .ref (a 17)], xAI G (a 16) 100 (r 9), xAI G (a 17) 100 (r 10), xO (a 3) 0 [.ref (a 1), .ref (a 5), .int (u.2.1 0), .int (u.2.1 1), .int (u.2.1 2), .ref (a 18), .int (u.2.1 3), .ref (a 19), .ref (a 20), .int (u.2.1 4), .int (u.2.1 5), .int (u.2.1 6), .int (u.2.1 7), .int (u.2.1 8), .int (u.2.1 9)], xAI G (a 18) 20 (u.2.2 0), xAZ G (a 19) 40 (u.2.2 1), xAZ G (a 20) 10 (u.2.2 2), xO (a 5) 2 [.ref (a 21), .ref (a 22)], xAI G (a 21) 100 (u.2.2 3), xAI G (a 22) 100 (u.2.2 4)]
/-- what the contracts want of it -/
def cH (z : Nat → Int32) (r : Nat → Nat → Int32) : Prop := (0 ≤ (z 0).toInt ∧ (z 0).toInt ≤ 10) ∧ (∀ k, k < 10 → 0 ≤ (r 0 k).toInt ∧ (r 0 k).toInt ≤ 4) ∧ (∀ k, k < 40 → 0 ≤ (r 2 k).toInt ∧ (r 2 k).toInt < 10) ∧ (∀ k, k < 40 → 0 ≤ (r 3 k).toInt ∧ (r 3 k).toInt < 40) ∧ (∀ k, k < 10 → r 1 k = 0 ∨ r 1 k = 1) ∧ 0 ≤ (z 4).toInt ∧ (z 4).toInt ≤ 20
set_option maxHeartbeats 4000000 in
set_option maxRecDepth 100000 in
theorem k_places {l : Launch} {G : xG} (sz : Nat) (a : Nat → Nat) (z : Nat → Int32) (r : Nat → Nat → Int32) (u : cU) {ans : Int32} (hF : FX3_places (z 0) = ans) : xM l yX3_places wsX3_places ⟨0, 0, 0, 0⟩ G [.ref (a 0)] (cW G a z r u) sz (xQi G (cW G a z r u) sz (fun x (_ : cU) => x = ans) (fun v => cW G a z r v)) := by
  refine xlift_i (metX3_places l G sz (a 0) (a 1) (a 2) (a 3) (a 6) (a 7) (a 8) (a 9) (a 10) (a 11) (a 12) (z 0)) [0, 1] [2, 3, 4, 5, 6, 7, 8, 9, 10, 11, 12, 13, 14, 15, 16, 17, 18, 19, 20, 21, 22] [21, 22, 0, 1, 2, 3, 4, 5, 6, 7, 8, 9, 10, 11, 12, 13, 14, 15, 16, 17, 18, 19, 20] rfl rfl rfl rfl rfl rfl (fun x w hp => ?_)
  exact ⟨u, hp.trans hF, rfl⟩
set_option maxHeartbeats 4000000 in
set_option maxRecDepth 100000 in
theorem k_coins {l : Launch} {G : xG} (sz : Nat) (a : Nat → Nat) (z : Nat → Int32) (r : Nat → Nat → Int32) (u : cU) {ans : Int32} (hF : FX3_coins (z 2) = ans) : xM l yX3_coins wsX3_coins ⟨0, 0, 0, 0⟩ G [.ref (a 0)] (cW G a z r u) sz (xQi G (cW G a z r u) sz (fun x (_ : cU) => x = ans) (fun v => cW G a z r v)) := by
  refine xlift_i (metX3_coins l G sz (a 0) (a 1) (a 2) (a 3) (a 4) (a 13) (a 14) (a 15) (z 1) (z 2) (z 3) (z 4) (z 5) (z 6) (z 7) (z 8) (z 9) (z 10)) [0, 9] [1, 2, 3, 4, 5, 6, 7, 8, 10, 11, 12, 13, 14, 15, 16, 17, 18, 19, 20, 21, 22] [21, 0, 1, 2, 3, 4, 5, 6, 7, 22, 8, 9, 10, 11, 12, 13, 14, 15, 16, 17, 18, 19, 20] rfl rfl rfl rfl rfl rfl (fun x w hp => ?_)
  exact ⟨u, hp.trans hF, rfl⟩
set_option maxHeartbeats 4000000 in
set_option maxRecDepth 100000 in
theorem k_goal {l : Launch} {G : xG} (sz : Nat) (a : Nat → Nat) (z : Nat → Int32) (r : Nat → Nat → Int32) (u : cU) {ans : Int32} (hF : FX3_goal (z 3) = ans) : xM l yX3_goal wsX3_goal ⟨0, 0, 0, 0⟩ G [.ref (a 0)] (cW G a z r u) sz (xQi G (cW G a z r u) sz (fun x (_ : cU) => x = ans) (fun v => cW G a z r v)) := by
  refine xlift_i (metX3_goal l G sz (a 0) (a 1) (a 2) (a 3) (a 4) (a 13) (a 14) (a 15) (z 1) (z 2) (z 3) (z 4) (z 5) (z 6) (z 7) (z 8) (z 9) (z 10)) [0, 9] [1, 2, 3, 4, 5, 6, 7, 8, 10, 11, 12, 13, 14, 15, 16, 17, 18, 19, 20, 21, 22] [21, 0, 1, 2, 3, 4, 5, 6, 7, 22, 8, 9, 10, 11, 12, 13, 14, 15, 16, 17, 18, 19, 20] rfl rfl rfl rfl rfl rfl (fun x w hp => ?_)
  exact ⟨u, hp.trans hF, rfl⟩
set_option maxHeartbeats 4000000 in
set_option maxRecDepth 100000 in
theorem k_wayLength {l : Launch} {G : xG} (sz : Nat) (a : Nat → Nat) (z : Nat → Int32) (r : Nat → Nat → Int32) (u : cU) {ans : Int32} (hF : FX3_wayLength (z 4) = ans) : xM l yX3_wayLength wsX3_wayLength ⟨0, 0, 0, 0⟩ G [.ref (a 0)] (cW G a z r u) sz (xQi G (cW G a z r u) sz (fun x (_ : cU) => x = ans) (fun v => cW G a z r v)) := by
  refine xlift_i (metX3_wayLength l G sz (a 0) (a 1) (a 2) (a 3) (a 4) (a 13) (a 14) (a 15) (z 1) (z 2) (z 3) (z 4) (z 5) (z 6) (z 7) (z 8) (z 9) (z 10)) [0, 9] [1, 2, 3, 4, 5, 6, 7, 8, 10, 11, 12, 13, 14, 15, 16, 17, 18, 19, 20, 21, 22] [21, 0, 1, 2, 3, 4, 5, 6, 7, 22, 8, 9, 10, 11, 12, 13, 14, 15, 16, 17, 18, 19, 20] rfl rfl rfl rfl rfl rfl (fun x w hp => ?_)
  exact ⟨u, hp.trans hF, rfl⟩
set_option maxHeartbeats 4000000 in
set_option maxRecDepth 100000 in
theorem k_milesWalked {l : Launch} {G : xG} (sz : Nat) (a : Nat → Nat) (z : Nat → Int32) (r : Nat → Nat → Int32) (u : cU) {ans : Int32} (hF : FX3_milesWalked (z 6) = ans) : xM l yX3_milesWalked wsX3_milesWalked ⟨0, 0, 0, 0⟩ G [.ref (a 0)] (cW G a z r u) sz (xQi G (cW G a z r u) sz (fun x (_ : cU) => x = ans) (fun v => cW G a z r v)) := by
  refine xlift_i (metX3_milesWalked l G sz (a 0) (a 1) (a 2) (a 3) (a 4) (a 13) (a 14) (a 15) (z 1) (z 2) (z 3) (z 4) (z 5) (z 6) (z 7) (z 8) (z 9) (z 10)) [0, 9] [1, 2, 3, 4, 5, 6, 7, 8, 10, 11, 12, 13, 14, 15, 16, 17, 18, 19, 20, 21, 22] [21, 0, 1, 2, 3, 4, 5, 6, 7, 22, 8, 9, 10, 11, 12, 13, 14, 15, 16, 17, 18, 19, 20] rfl rfl rfl rfl rfl rfl (fun x w hp => ?_)
  exact ⟨u, hp.trans hF, rfl⟩
set_option maxHeartbeats 4000000 in
set_option maxRecDepth 100000 in
theorem k_milesDoubled {l : Launch} {G : xG} (sz : Nat) (a : Nat → Nat) (z : Nat → Int32) (r : Nat → Nat → Int32) (u : cU) {ans : Int32} (hF : FX3_milesDoubled (z 7) = ans) : xM l yX3_milesDoubled wsX3_milesDoubled ⟨0, 0, 0, 0⟩ G [.ref (a 0)] (cW G a z r u) sz (xQi G (cW G a z r u) sz (fun x (_ : cU) => x = ans) (fun v => cW G a z r v)) := by
  refine xlift_i (metX3_milesDoubled l G sz (a 0) (a 1) (a 2) (a 3) (a 4) (a 13) (a 14) (a 15) (z 1) (z 2) (z 3) (z 4) (z 5) (z 6) (z 7) (z 8) (z 9) (z 10)) [0, 9] [1, 2, 3, 4, 5, 6, 7, 8, 10, 11, 12, 13, 14, 15, 16, 17, 18, 19, 20, 21, 22] [21, 0, 1, 2, 3, 4, 5, 6, 7, 22, 8, 9, 10, 11, 12, 13, 14, 15, 16, 17, 18, 19, 20] rfl rfl rfl rfl rfl rfl (fun x w hp => ?_)
  exact ⟨u, hp.trans hF, rfl⟩
set_option maxHeartbeats 4000000 in
set_option maxRecDepth 100000 in
theorem k_errandsDone {l : Launch} {G : xG} (sz : Nat) (a : Nat → Nat) (z : Nat → Int32) (r : Nat → Nat → Int32) (u : cU) {ans : Int32} (hF : FX3_errandsDone (z 8) = ans) : xM l yX3_errandsDone wsX3_errandsDone ⟨0, 0, 0, 0⟩ G [.ref (a 0)] (cW G a z r u) sz (xQi G (cW G a z r u) sz (fun x (_ : cU) => x = ans) (fun v => cW G a z r v)) := by
  refine xlift_i (metX3_errandsDone l G sz (a 0) (a 1) (a 2) (a 3) (a 4) (a 13) (a 14) (a 15) (z 1) (z 2) (z 3) (z 4) (z 5) (z 6) (z 7) (z 8) (z 9) (z 10)) [0, 9] [1, 2, 3, 4, 5, 6, 7, 8, 10, 11, 12, 13, 14, 15, 16, 17, 18, 19, 20, 21, 22] [21, 0, 1, 2, 3, 4, 5, 6, 7, 22, 8, 9, 10, 11, 12, 13, 14, 15, 16, 17, 18, 19, 20] rfl rfl rfl rfl rfl rfl (fun x w hp => ?_)
  exact ⟨u, hp.trans hF, rfl⟩
set_option maxHeartbeats 4000000 in
set_option maxRecDepth 100000 in
theorem k_errandsInVain {l : Launch} {G : xG} (sz : Nat) (a : Nat → Nat) (z : Nat → Int32) (r : Nat → Nat → Int32) (u : cU) {ans : Int32} (hF : FX3_errandsInVain (z 9) = ans) : xM l yX3_errandsInVain wsX3_errandsInVain ⟨0, 0, 0, 0⟩ G [.ref (a 0)] (cW G a z r u) sz (xQi G (cW G a z r u) sz (fun x (_ : cU) => x = ans) (fun v => cW G a z r v)) := by
  refine xlift_i (metX3_errandsInVain l G sz (a 0) (a 1) (a 2) (a 3) (a 4) (a 13) (a 14) (a 15) (z 1) (z 2) (z 3) (z 4) (z 5) (z 6) (z 7) (z 8) (z 9) (z 10)) [0, 9] [1, 2, 3, 4, 5, 6, 7, 8, 10, 11, 12, 13, 14, 15, 16, 17, 18, 19, 20, 21, 22] [21, 0, 1, 2, 3, 4, 5, 6, 7, 22, 8, 9, 10, 11, 12, 13, 14, 15, 16, 17, 18, 19, 20] rfl rfl rfl rfl rfl rfl (fun x w hp => ?_)
  exact ⟨u, hp.trans hF, rfl⟩
set_option maxHeartbeats 4000000 in
set_option maxRecDepth 100000 in
theorem k_asked {l : Launch} {G : xG} (sz : Nat) (a : Nat → Nat) (z : Nat → Int32) (r : Nat → Nat → Int32) (u : cU) {ans : Int32} (hF : FX3_asked (z 10) = ans) : xM l yX3_asked wsX3_asked ⟨0, 0, 0, 0⟩ G [.ref (a 0)] (cW G a z r u) sz (xQi G (cW G a z r u) sz (fun x (_ : cU) => x = ans) (fun v => cW G a z r v)) := by
  refine xlift_i (metX3_asked l G sz (a 0) (a 1) (a 2) (a 3) (a 4) (a 13) (a 14) (a 15) (z 1) (z 2) (z 3) (z 4) (z 5) (z 6) (z 7) (z 8) (z 9) (z 10)) [0, 9] [1, 2, 3, 4, 5, 6, 7, 8, 10, 11, 12, 13, 14, 15, 16, 17, 18, 19, 20, 21, 22] [21, 0, 1, 2, 3, 4, 5, 6, 7, 22, 8, 9, 10, 11, 12, 13, 14, 15, 16, 17, 18, 19, 20] rfl rfl rfl rfl rfl rfl (fun x w hp => ?_)
  exact ⟨u, hp.trans hF, rfl⟩
set_option maxHeartbeats 4000000 in
set_option maxRecDepth 100000 in
theorem k_whereIs {l : Launch} {G : xG} (sz : Nat) (a : Nat → Nat) (z : Nat → Int32) (r : Nat → Nat → Int32) (u : cU) {ans : Int32} (hF : FX3_whereIs (z 1) (z 0) = ans) : xM l yX3_whereIs wsX3_whereIs ⟨0, 0, 0, 0⟩ G [.ref (a 0)] (cW G a z r u) sz (xQi G (cW G a z r u) sz (fun x (_ : cU) => x = ans) (fun v => cW G a z r v)) := by
  refine xlift_i (metX3_whereIs l G sz (a 0) (a 1) (a 2) (a 3) (a 4) (a 13) (a 14) (a 15) (a 6) (a 7) (a 8) (a 9) (a 10) (a 11) (a 12) (z 1) (z 2) (z 3) (z 4) (z 5) (z 6) (z 7) (z 8) (z 9) (z 10) (z 0)) [0, 9, 1] [2, 3, 4, 5, 6, 7, 8, 10, 11, 12, 13, 14, 15, 16, 17, 18, 19, 20, 21, 22] [20, 22, 0, 1, 2, 3, 4, 5, 6, 21, 7, 8, 9, 10, 11, 12, 13, 14, 15, 16, 17, 18, 19] rfl rfl rfl rfl rfl rfl (fun x w hp => ?_)
  exact ⟨u, hp.trans hF, rfl⟩
set_option maxHeartbeats 4000000 in
set_option maxRecDepth 100000 in
theorem k_digest {l : Launch} {G : xG} (sz : Nat) (a : Nat → Nat) (z : Nat → Int32) (r : Nat → Nat → Int32) (u : cU) {ans : Int64} (hH : cH z r) (hF : FX3_digest (z 1) (z 2) (z 3) (z 4) (z 6) (z 7) (z 8) (z 9) (z 10) (r 7) (r 9) (r 10) (z 0) (r 0) (r 1) (r 2) (r 4) (r 5) = ans) : xM l yX3_digest wsX3_digest ⟨5, 0, 0, 116⟩ G [.ref (a 0)] (cW G a z r u) sz (xQl G (cW G a z r u) sz (fun x (_ : cU) => x = ans) (fun v => cW G a z r v)) := by
  refine xlift_l (metX3_digest l G sz (a 0) (a 1) (a 2) (a 3) (a 4) (a 13) (a 14) (a 15) (a 16) (a 17) (a 6) (a 7) (a 8) (a 9) (a 10) (a 11) (a 12) (z 1) (z 2) (z 3) (z 4) (z 5) (z 6) (z 7) (z 8) (z 9) (z 10) (r 7) (r 9) (r 10) (z 0) (r 0) (r 1) (r 2) (r 4) (r 5) hH.1 hH.2.1 hH.2.2.2.2.1) [0, 9, 11, 13, 14, 15, 1, 2, 3, 4, 6, 7] [5, 8, 10, 12, 16, 17, 18, 19, 20, 21, 22] [11, 17, 18, 19, 20, 0, 21, 22, 1, 12, 2, 13, 3, 14, 15, 16, 4, 5, 6, 7, 8, 9, 10] rfl rfl rfl rfl rfl rfl (fun x w hp => ?_)
  exact ⟨u, hp.trans hF, rfl⟩
set_option maxHeartbeats 4000000 in
set_option maxRecDepth 100000 in
theorem k_exitsOf {l : Launch} {G : xG} (hst : l.stackTraces = false) (sz : Nat) (a : Nat → Nat) (z : Nat → Int32) (r : Nat → Nat → Int32) (u : cU) (q : Int32) {ans : Int32} (hH : cH z r) (hF : FX3_exitsOf (z 0) (r 0) q = (0, ans)) : xM l yX3_exitsOf wsX3_exitsOf ⟨7, 1, 6, 103⟩ G [.ref (a 0), .int q] (cW G a z r u) sz (xQi G (cW G a z r u) sz (fun x (_ : cU) => x = ans) (fun v => cW G a z r v)) := by
  refine xlift_i (xMX_ok (metX3_exitsOf l G hst sz (a 0) (a 1) (a 2) (a 3) (a 6) (a 7) (a 8) (a 9) (a 10) (a 11) (a 12) (z 0) (r 0) q hH.1) (fun E h => h.2 (h.1.symm.trans (congrArg Prod.fst hF)))) [0, 1, 2] [3, 4, 5, 6, 7, 8, 9, 10, 11, 12, 13, 14, 15, 16, 17, 18, 19, 20, 21, 22] [20, 21, 22, 0, 1, 2, 3, 4, 5, 6, 7, 8, 9, 10, 11, 12, 13, 14, 15, 16, 17, 18, 19] rfl rfl rfl rfl rfl rfl (fun x w hp => ?_)
  exact ⟨u, hp.2.trans (congrArg Prod.snd hF), rfl⟩
set_option maxHeartbeats 4000000 in
set_option maxRecDepth 100000 in
theorem k_hasShepherd {l : Launch} {G : xG} (hst : l.stackTraces = false) (sz : Nat) (a : Nat → Nat) (z : Nat → Int32) (r : Nat → Nat → Int32) (u : cU) (q : Int32) {ans : Int32} (hH : cH z r) (hF : FX3_hasShepherd (z 0) (r 1) q = (0, ans)) : xM l yX3_hasShepherd wsX3_hasShepherd ⟨7, 1, 6, 103⟩ G [.ref (a 0), .int q] (cW G a z r u) sz (xQi G (cW G a z r u) sz (fun x (_ : cU) => x = ans) (fun v => cW G a z r v)) := by
  refine xlift_i (xMX_ok (metX3_hasShepherd l G hst sz (a 0) (a 1) (a 2) (a 3) (a 6) (a 7) (a 8) (a 9) (a 10) (a 11) (a 12) (z 0) (r 1) q hH.1 hH.2.2.2.2.1) (fun E h => h.2 (h.1.symm.trans (congrArg Prod.fst hF)))) [0, 1, 3] [2, 4, 5, 6, 7, 8, 9, 10, 11, 12, 13, 14, 15, 16, 17, 18, 19, 20, 21, 22] [20, 21, 0, 22, 1, 2, 3, 4, 5, 6, 7, 8, 9, 10, 11, 12, 13, 14, 15, 16, 17, 18, 19] rfl rfl rfl rfl rfl rfl (fun x w hp => ?_)
  exact ⟨u, hp.2.trans (congrArg Prod.snd hF), rfl⟩
set_option maxHeartbeats 4000000 in
set_option maxRecDepth 100000 in
theorem k_leadsTo {l : Launch} {G : xG} (hst : l.stackTraces = false) (sz : Nat) (a : Nat → Nat) (z : Nat → Int32) (r : Nat → Nat → Int32) (u : cU) (q : Int32) (x : Int32) {ans : Int32} (hH : cH z r) (hF : FX3_leadsTo (z 0) (r 0) (r 2) q x = (0, ans)) : xM l yX3_leadsTo wsX3_leadsTo ⟨7, 1, 6, 105⟩ G [.ref (a 0), .int q, .int x] (cW G a z r u) sz (xQi G (cW G a z r u) sz (fun x (_ : cU) => x = ans) (fun v => cW G a z r v)) := by
  refine xlift_i (xMX_ok (metX3_leadsTo l G hst sz (a 0) (a 1) (a 2) (a 3) (a 6) (a 7) (a 8) (a 9) (a 10) (a 11) (a 12) (z 0) (r 0) (r 2) q x hH.1) (fun E h => h.2 (h.1.symm.trans (congrArg Prod.fst hF)))) [0, 1, 2, 4] [3, 5, 6, 7, 8, 9, 10, 11, 12, 13, 14, 15, 16, 17, 18, 19, 20, 21, 22] [19, 20, 21, 0, 22, 1, 2, 3, 4, 5, 6, 7, 8, 9, 10, 11, 12, 13, 14, 15, 16, 17, 18] rfl rfl rfl rfl rfl rfl (fun x w hp => ?_)
  exact ⟨u, hp.2.trans (congrArg Prod.snd hF), rfl⟩
set_option maxHeartbeats 4000000 in
set_option maxRecDepth 100000 in
theorem k_milesOf {l : Launch} {G : xG} (hst : l.stackTraces = false) (sz : Nat) (a : Nat → Nat) (z : Nat → Int32) (r : Nat → Nat → Int32) (u : cU) (q : Int32) (x : Int32) {ans : Int32} (hH : cH z r) (hF : FX3_milesOf (z 0) (r 0) (r 4) q x = (0, ans)) : xM l yX3_milesOf wsX3_milesOf ⟨7, 1, 6, 105⟩ G [.ref (a 0), .int q, .int x] (cW G a z r u) sz (xQi G (cW G a z r u) sz (fun x (_ : cU) => x = ans) (fun v => cW G a z r v)) := by
  refine xlift_i (xMX_ok (metX3_milesOf l G hst sz (a 0) (a 1) (a 2) (a 3) (a 6) (a 7) (a 8) (a 9) (a 10) (a 11) (a 12) (z 0) (r 0) (r 4) q x hH.1) (fun E h => h.2 (h.1.symm.trans (congrArg Prod.fst hF)))) [0, 1, 2, 6] [3, 4, 5, 7, 8, 9, 10, 11, 12, 13, 14, 15, 16, 17, 18, 19, 20, 21, 22] [19, 20, 21, 0, 1, 2, 22, 3, 4, 5, 6, 7, 8, 9, 10, 11, 12, 13, 14, 15, 16, 17, 18] rfl rfl rfl rfl rfl rfl (fun x w hp => ?_)
  exact ⟨u, hp.2.trans (congrArg Prod.snd hF), rfl⟩
set_option maxHeartbeats 4000000 in
set_option maxRecDepth 100000 in
theorem k_isOpen {l : Launch} {G : xG} (hst : l.stackTraces = false) (sz : Nat) (a : Nat → Nat) (z : Nat → Int32) (r : Nat → Nat → Int32) (u : cU) (q : Int32) (x : Int32) {ans : Int32} (hH : cH z r) (hF : FX3_isOpen (z 0) (r 0) (r 5) q x = (0, ans)) : xM l yX3_isOpen wsX3_isOpen ⟨7, 1, 6, 105⟩ G [.ref (a 0), .int q, .int x] (cW G a z r u) sz (xQi G (cW G a z r u) sz (fun x (_ : cU) => x = ans) (fun v => cW G a z r v)) := by
  refine xlift_i (xMX_ok (metX3_isOpen l G hst sz (a 0) (a 1) (a 2) (a 3) (a 6) (a 7) (a 8) (a 9) (a 10) (a 11) (a 12) (z 0) (r 0) (r 5) q x hH.1) (fun E h => h.2 (h.1.symm.trans (congrArg Prod.fst hF)))) [0, 1, 2, 7] [3, 4, 5, 6, 8, 9, 10, 11, 12, 13, 14, 15, 16, 17, 18, 19, 20, 21, 22] [19, 20, 21, 0, 1, 2, 3, 22, 4, 5, 6, 7, 8, 9, 10, 11, 12, 13, 14, 15, 16, 17, 18] rfl rfl rfl rfl rfl rfl (fun x w hp => ?_)
  exact ⟨u, hp.2.trans (congrArg Prod.snd hF), rfl⟩
set_option maxHeartbeats 4000000 in
set_option maxRecDepth 100000 in
theorem k_isTried {l : Launch} {G : xG} (hst : l.stackTraces = false) (sz : Nat) (a : Nat → Nat) (z : Nat → Int32) (r : Nat → Nat → Int32) (u : cU) (q : Int32) (x : Int32) {ans : Int32} (hH : cH z r) (hF : FX3_isTried (z 3) (r 7) (z 0) (r 0) q x = (0, ans)) : xM l yX3_isTried wsX3_isTried ⟨7, 1, 6, 105⟩ G [.ref (a 0), .int q, .int x] (cW G a z r u) sz (xQi G (cW G a z r u) sz (fun x (_ : cU) => x = ans) (fun v => cW G a z r v)) := by
  refine xlift_i (xMX_ok (metX3_isTried l G hst sz (a 0) (a 1) (a 2) (a 3) (a 4) (a 13) (a 14) (a 15) (a 6) (a 7) (a 8) (a 9) (a 10) (a 11) (a 12) (z 1) (z 2) (z 3) (z 4) (z 5) (z 6) (z 7) (z 8) (z 9) (z 10) (r 7) (z 0) (r 0) q x hH.1) (fun E h => h.2 (h.1.symm.trans (congrArg Prod.fst hF)))) [0, 9, 11, 1, 2] [3, 4, 5, 6, 7, 8, 10, 12, 13, 14, 15, 16, 17, 18, 19, 20, 21, 22] [18, 21, 22, 0, 1, 2, 3, 4, 5, 19, 6, 20, 7, 8, 9, 10, 11, 12, 13, 14, 15, 16, 17] rfl rfl rfl rfl rfl rfl (fun x w hp => ?_)
  exact ⟨u, hp.2.trans (congrArg Prod.snd hF), rfl⟩
set_option maxHeartbeats 4000000 in
set_option maxRecDepth 100000 in
theorem k_remembered {l : Launch} {G : xG} (hst : l.stackTraces = false) (sz : Nat) (a : Nat → Nat) (z : Nat → Int32) (r : Nat → Nat → Int32) (u : cU) (g : Int32) (q : Int32) {ans : Int32} (hF : FX3_remembered (r 9) (r 10) (z 0) g q = (0, ans)) : xM l yX3_remembered wsX3_remembered ⟨7, 2, 12, 103⟩ G [.ref (a 0), .int g, .int q] (cW G a z r u) sz (xQi G (cW G a z r u) sz (fun x (_ : cU) => x = ans) (fun v => cW G a z r v)) := by
  refine xlift_i (xMX_ok (metX3_remembered l G hst sz (a 0) (a 1) (a 2) (a 3) (a 4) (a 13) (a 14) (a 15) (a 16) (a 17) (a 6) (a 7) (a 8) (a 9) (a 10) (a 11) (a 12) (z 1) (z 2) (z 3) (z 4) (z 5) (z 6) (z 7) (z 8) (z 9) (z 10) (r 9) (r 10) (z 0) g q) (fun E h => h.2 (h.1.symm.trans (congrArg Prod.fst hF)))) [0, 9, 13, 14, 15, 1] [2, 3, 4, 5, 6, 7, 8, 10, 11, 12, 16, 17, 18, 19, 20, 21, 22] [17, 22, 0, 1, 2, 3, 4, 5, 6, 18, 7, 8, 9, 19, 20, 21, 10, 11, 12, 13, 14, 15, 16] rfl rfl rfl rfl rfl rfl (fun x w hp => ?_)
  exact ⟨u, hp.2.trans (congrArg Prod.snd hF), rfl⟩
set_option maxHeartbeats 4000000 in
set_option maxRecDepth 100000 in
theorem k_strength {l : Launch} {G : xG} (hst : l.stackTraces = false) (sz : Nat) (a : Nat → Nat) (z : Nat → Int32) (r : Nat → Nat → Int32) (u : cU) (g : Int32) (q : Int32) {ans : Int32} (hF : FX3_strength (r 10) (z 0) g q = (0, ans)) : xM l yX3_strength wsX3_strength ⟨7, 2, 12, 103⟩ G [.ref (a 0), .int g, .int q] (cW G a z r u) sz (xQi G (cW G a z r u) sz (fun x (_ : cU) => x = ans) (fun v => cW G a z r v)) := by
  refine xlift_i (xMX_ok (metX3_strength l G hst sz (a 0) (a 1) (a 2) (a 3) (a 4) (a 13) (a 14) (a 15) (a 16) (a 17) (a 6) (a 7) (a 8) (a 9) (a 10) (a 11) (a 12) (z 1) (z 2) (z 3) (z 4) (z 5) (z 6) (z 7) (z 8) (z 9) (z 10) (r 10) (z 0) g q) (fun E h => h.2 (h.1.symm.trans (congrArg Prod.fst hF)))) [0, 9, 13, 15, 1] [2, 3, 4, 5, 6, 7, 8, 10, 11, 12, 14, 16, 17, 18, 19, 20, 21, 22] [18, 22, 0, 1, 2, 3, 4, 5, 6, 19, 7, 8, 9, 20, 10, 21, 11, 12, 13, 14, 15, 16, 17] rfl rfl rfl rfl rfl rfl (fun x w hp => ?_)
  exact ⟨u, hp.2.trans (congrArg Prod.snd hF), rfl⟩
set_option maxHeartbeats 4000000 in
set_option maxRecDepth 100000 in
theorem k_knowsWay {l : Launch} {G : xG} (hst : l.stackTraces = false) (sz : Nat) (a : Nat → Nat) (z : Nat → Int32) (r : Nat → Nat → Int32) (u : cU) (g : Int32) {ans : Int32} (hH : cH z r) (hF : FX3_knowsWay (z 1) (r 9) (r 10) (z 0) (r 0) (r 2) (r 5) g = (0, ans)) : xM l yX3_knowsWay wsX3_knowsWay ⟨7, 1, 6, 103⟩ G [.ref (a 0), .int g] (cW G a z r u) sz (xQi G (cW G a z r u) sz (fun x (_ : cU) => x = ans) (fun v => cW G a z r v)) := by
  refine xlift_i (xMX_ok (metX3_knowsWay l G hst sz (a 0) (a 1) (a 2) (a 3) (a 4) (a 13) (a 14) (a 15) (a 16) (a 17) (a 6) (a 7) (a 8) (a 9) (a 10) (a 11) (a 12) (z 1) (z 2) (z 3) (z 4) (z 5) (z 6) (z 7) (z 8) (z 9) (z 10) (r 9) (r 10) (z 0) (r 0) (r 2) (r 5) g hH.1) (fun E h => h.2 (h.1.symm.trans (congrArg Prod.fst hF)))) [0, 9, 13, 14, 15, 1, 2, 4, 7] [3, 5, 6, 8, 10, 11, 12, 16, 17, 18, 19, 20, 21, 22] [14, 19, 20, 0, 21, 1, 2, 22, 3, 15, 4, 5, 6, 16, 17, 18, 7, 8, 9, 10, 11, 12, 13] rfl rfl rfl rfl rfl rfl (fun x w hp => ?_)
  exact ⟨u, hp.2.trans (congrArg Prod.snd hF), rfl⟩
set_option maxHeartbeats 4000000 in
set_option maxRecDepth 100000 in
theorem k_distance {l : Launch} {G : xG} (hst : l.stackTraces = false) (sz : Nat) (a : Nat → Nat) (z : Nat → Int32) (r : Nat → Nat → Int32) (u : cU) (q : Int32) (g : Int32) {ans : Int32} (hH : cH z r) (h0 : (FX3_distance (z 0) (r 2) (r 4) (r 5) u.1 q g).1 = 0) (hA : (FX3_distance (z 0) (r 2) (r 4) (r 5) u.1 q g).2.1 = ans) : xM l yX3_distance wsX3_distance ⟨7, 2, 12, 103⟩ G [.ref (a 0), .int q, .int g] (cW G a z r u) sz (xQi G (cW G a z r u) sz (fun x (_ : cU) => x = ans) (fun v => cW G a z r v)) := by
  refine xlift_i (xMX_ok (metX3_distance l G hst sz (a 0) (a 1) (a 2) (a 3) (a 6) (a 7) (a 8) (a 9) (a 10) (a 11) (a 12) (z 0) (r 2) (r 4) (r 5) u.1 q g hH.1 hH.2.2.1) (fun E h => h.2 (h.1.symm.trans h0))) [0, 1, 4, 6, 7, 8] [2, 3, 5, 9, 10, 11, 12, 13, 14, 15, 16, 17, 18, 19, 20, 21, 22] [17, 18, 0, 1, 19, 2, 20, 21, 22, 3, 4, 5, 6, 7, 8, 9, 10, 11, 12, 13, 14, 15, 16] rfl rfl rfl rfl rfl rfl (fun x w hp => ?_)
  exact ⟨(w, u.2.1, u.2.2), hp.2.1.trans hA, rfl⟩
set_option maxHeartbeats 4000000 in
set_option maxRecDepth 100000 in
theorem k_wouldWalk {l : Launch} {G : xG} (hst : l.stackTraces = false) (sz : Nat) (a : Nat → Nat) (z : Nat → Int32) (r : Nat → Nat → Int32) (u : cU) (g : Int32) {ans : Int32} (hH : cH z r) (h0 : (FX3_wouldWalk (z 1) (z 2) (z 3) (r 9) (r 10) (u.2.1 0) (u.2.1 1) (u.2.1 2) (u.2.1 3) (u.2.1 4) (u.2.1 5) (u.2.1 6) (u.2.1 7) (u.2.1 8) (u.2.1 9) (u.2.2 0) (u.2.2 1) (u.2.2 2) (u.2.2 3) (u.2.2 4) (z 0) (r 0) (r 1) (r 2) (r 3) (r 4) (r 5) u.1 g).1 = 0) (hA : (FX3_wouldWalk (z 1) (z 2) (z 3) (r 9) (r 10) (u.2.1 0) (u.2.1 1) (u.2.1 2) (u.2.1 3) (u.2.1 4) (u.2.1 5) (u.2.1 6) (u.2.1 7) (u.2.1 8) (u.2.1 9) (u.2.2 0) (u.2.2 1) (u.2.2 2) (u.2.2 3) (u.2.2 4) (z 0) (r 0) (r 1) (r 2) (r 3) (r 4) (r 5) u.1 g).2.1 = ans) : xM l yX3_wouldWalk wsX3_wouldWalk ⟨7, 2, 12, 138⟩ G [.ref (a 0), .int g] (cW G a z r u) sz (xQi G (cW G a z r u) sz (fun x (_ : cU) => x = ans) (fun v => cW G a z r v)) := by
  refine xlift_i (xMX_ok (metX3_wouldWalk l G hst sz (a 0) (a 1) (a 2) (a 3) (a 4) (a 13) (a 14) (a 15) (a 16) (a 17) (a 5) (a 18) (a 19) (a 20) (a 21) (a 22) (a 6) (a 7) (a 8) (a 9) (a 10) (a 11) (a 12) (z 1) (z 2) (z 3) (z 4) (z 5) (z 6) (z 7) (z 8) (z 9) (z 10) (r 9) (r 10) (u.2.1 0) (u.2.1 1) (u.2.1 2) (u.2.1 3) (u.2.1 4) (u.2.1 5) (u.2.1 6) (u.2.1 7) (u.2.1 8) (u.2.1 9) (u.2.2 0) (u.2.2 1) (u.2.2 2) (u.2.2 3) (u.2.2 4) (z 0) (r 0) (r 1) (r 2) (r 3) (r 4) (r 5) u.1 g hH.1 hH.2.1 hH.2.2.1) (fun E h => h.2 (h.1.symm.trans h0))) [0, 9, 13, 14, 15, 16, 17, 18, 19, 20, 21, 22, 1, 2, 3, 4, 5, 6, 7, 8] [10, 11, 12] [3, 15, 16, 17, 18, 19, 20, 21, 22, 4, 0, 1, 2, 5, 6, 7, 8, 9, 10, 11, 12, 13, 14] rfl rfl rfl rfl rfl rfl (fun x w hp => ?_)
  exact ⟨(w.2.2.2.2.2.2.2.2.2.2.2.2.2.2.2, (fun k => if k = 0 then w.1 else if k = 1 then w.2.1 else if k = 2 then w.2.2.1 else if k = 3 then w.2.2.2.1 else if k = 4 then w.2.2.2.2.2.2.2.2.2.2.2.2.2.2.1 else if k = 5 then w.2.2.2.2.1 else if k = 6 then w.2.2.2.2.2.1 else if k = 7 then w.2.2.2.2.2.2.1 else if k = 8 then w.2.2.2.2.2.2.2.1 else if k = 9 then w.2.2.2.2.2.2.2.2.1 else 0), (fun k => if k = 0 then w.2.2.2.2.2.2.2.2.2.1 else if k = 1 then w.2.2.2.2.2.2.2.2.2.2.1 else if k = 2 then w.2.2.2.2.2.2.2.2.2.2.2.1 else if k = 3 then w.2.2.2.2.2.2.2.2.2.2.2.2.1 else if k = 4 then w.2.2.2.2.2.2.2.2.2.2.2.2.2.1 else (fun _ => 0))), hp.2.1.trans hA, rfl⟩
set_option maxHeartbeats 4000000 in
set_option maxRecDepth 100000 in
theorem k_bestShepherd {l : Launch} {G : xG} (hst : l.stackTraces = false) (sz : Nat) (a : Nat → Nat) (z : Nat → Int32) (r : Nat → Nat → Int32) (u : cU) (g : Int32) {ans : Int32} (hH : cH z r) (h0 : (FX3_bestShepherd (z 1) (z 2) (z 3) (r 9) (r 10) (u.2.1 0) (u.2.1 1) (u.2.1 2) (u.2.1 3) (u.2.1 4) (u.2.1 5) (u.2.1 6) (u.2.1 7) (u.2.1 8) (u.2.1 9) (u.2.2 0) (u.2.2 1) (u.2.2 2) (u.2.2 3) (u.2.2 4) (z 0) (r 0) (r 1) (r 2) (r 3) (r 4) (r 5) u.1 g).1 = 0) (hA : (FX3_bestShepherd (z 1) (z 2) (z 3) (r 9) (r 10) (u.2.1 0) (u.2.1 1) (u.2.1 2) (u.2.1 3) (u.2.1 4) (u.2.1 5) (u.2.1 6) (u.2.1 7) (u.2.1 8) (u.2.1 9) (u.2.2 0) (u.2.2 1) (u.2.2 2) (u.2.2 3) (u.2.2 4) (z 0) (r 0) (r 1) (r 2) (r 3) (r 4) (r 5) u.1 g).2.1 = ans) : xM l yX3_bestShepherd wsX3_bestShepherd ⟨7, 2, 12, 138⟩ G [.ref (a 0), .int g] (cW G a z r u) sz (xQi G (cW G a z r u) sz (fun x (_ : cU) => x = ans) (fun v => cW G a z r v)) := by
  refine xlift_i (xMX_ok (metX3_bestShepherd l G hst sz (a 0) (a 1) (a 2) (a 3) (a 4) (a 13) (a 14) (a 15) (a 16) (a 17) (a 5) (a 18) (a 19) (a 20) (a 21) (a 22) (a 6) (a 7) (a 8) (a 9) (a 10) (a 11) (a 12) (z 1) (z 2) (z 3) (z 4) (z 5) (z 6) (z 7) (z 8) (z 9) (z 10) (r 9) (r 10) (u.2.1 0) (u.2.1 1) (u.2.1 2) (u.2.1 3) (u.2.1 4) (u.2.1 5) (u.2.1 6) (u.2.1 7) (u.2.1 8) (u.2.1 9) (u.2.2 0) (u.2.2 1) (u.2.2 2) (u.2.2 3) (u.2.2 4) (z 0) (r 0) (r 1) (r 2) (r 3) (r 4) (r 5) u.1 g hH.1 hH.2.1 hH.2.2.1) (fun E h => h.2 (h.1.symm.trans h0))) [0, 9, 13, 14, 15, 16, 17, 18, 19, 20, 21, 22, 1, 2, 3, 4, 5, 6, 7, 8] [10, 11, 12] [3, 15, 16, 17, 18, 19, 20, 21, 22, 4, 0, 1, 2, 5, 6, 7, 8, 9, 10, 11, 12, 13, 14] rfl rfl rfl rfl rfl rfl (fun x w hp => ?_)
  exact ⟨(w.2.2.2.2.2.2.2.2.2.2.2.2.2.2.2, (fun k => if k = 0 then w.1 else if k = 1 then w.2.1 else if k = 2 then w.2.2.1 else if k = 3 then w.2.2.2.1 else if k = 4 then w.2.2.2.2.2.2.2.2.2.2.2.2.2.2.1 else if k = 5 then w.2.2.2.2.1 else if k = 6 then w.2.2.2.2.2.1 else if k = 7 then w.2.2.2.2.2.2.1 else if k = 8 then w.2.2.2.2.2.2.2.1 else if k = 9 then w.2.2.2.2.2.2.2.2.1 else 0), (fun k => if k = 0 then w.2.2.2.2.2.2.2.2.2.1 else if k = 1 then w.2.2.2.2.2.2.2.2.2.2.1 else if k = 2 then w.2.2.2.2.2.2.2.2.2.2.2.1 else if k = 3 then w.2.2.2.2.2.2.2.2.2.2.2.2.1 else if k = 4 then w.2.2.2.2.2.2.2.2.2.2.2.2.2.1 else (fun _ => 0))), hp.2.1.trans hA, rfl⟩
set_option maxHeartbeats 4000000 in
set_option maxRecDepth 100000 in
theorem k_addPlace {l : Launch} {G : xG} (hst : l.stackTraces = false) (sz : Nat) (a : Nat → Nat) (z : Nat → Int32) (r : Nat → Nat → Int32) (u : cU) {ans : Int32} {pl2 : Int32} (hF : FX3_addPlace (z 0) = (0, ans, pl2)) : xM l yX3_addPlace wsX3_addPlace ⟨6, 1, 6, 82⟩ G [.ref (a 0)] (cW G a z r u) sz (xQi G (cW G a z r u) sz (fun x (_ : cU) => x = ans) (fun v => cW G a (upd z 0 pl2) r v)) := by
  refine xlift_i (xMX_ok (metX3_addPlace l G hst sz (a 0) (a 1) (a 2) (a 3) (a 6) (a 7) (a 8) (a 9) (a 10) (a 11) (a 12) (z 0)) (fun E h => h.2 (h.1.symm.trans (congrArg Prod.fst hF)))) [0, 1] [2, 3, 4, 5, 6, 7, 8, 9, 10, 11, 12, 13, 14, 15, 16, 17, 18, 19, 20, 21, 22] [21, 22, 0, 1, 2, 3, 4, 5, 6, 7, 8, 9, 10, 11, 12, 13, 14, 15, 16, 17, 18, 19, 20] rfl rfl rfl rfl rfl rfl (fun x w hp => ?_)
  obtain ⟨h1, h2, h3⟩ := hp
  rw [hF] at h2 h3
  refine ⟨u, h2, ?_⟩
  rw [h3]
  rfl
set_option maxHeartbeats 4000000 in
set_option maxRecDepth 100000 in
theorem kX_addPlace {l : Launch} {G : xG} (hst : l.stackTraces = false) (sz : Nat) (a : Nat → Nat) (z : Nat → Int32) (r : Nat → Nat → Int32) (u : cU) {k0 : Nat} (hk0 : k0 ≠ 0) (hF : (FX3_addPlace (z 0)).1 = k0) : xMX l yX3_addPlace wsX3_addPlace ⟨6, 1, 6, 82⟩ G [.ref (a 0)] (cW G a z r u) sz (xQi G (cW G a z r u) sz (fun x (_ : cU) => False) (fun v => cW G a z r v)) (fun E => (FX3_addPlace (z 0)).1 = xcode E ∧ xcode E ≠ 0) := by
  refine xliftX_i (metX3_addPlace l G hst sz (a 0) (a 1) (a 2) (a 3) (a 6) (a 7) (a 8) (a 9) (a 10) (a 11) (a 12) (z 0)) [0, 1] [2, 3, 4, 5, 6, 7, 8, 9, 10, 11, 12, 13, 14, 15, 16, 17, 18, 19, 20, 21, 22] [21, 22, 0, 1, 2, 3, 4, 5, 6, 7, 8, 9, 10, 11, 12, 13, 14, 15, 16, 17, 18, 19, 20] [21, 22, 0, 1, 2, 3, 4, 5, 6, 7, 8, 9, 10, 11, 12, 13, 14, 15, 16, 17, 18, 19, 20] rfl rfl rfl rfl rfl rfl rfl rfl (fun x w hp => ?_)
  exact absurd (hF.symm.trans hp.1) hk0
set_option maxHeartbeats 4000000 in
set_option maxRecDepth 100000 in
theorem k_addRoad {l : Launch} {G : xG} (hst : l.stackTraces = false) (sz : Nat) (a : Nat → Nat) (z : Nat → Int32) (r : Nat → Nat → Int32) (u : cU) (qa : Int32) (qb : Int32) (qn : Int32) {ans : Int32} {ex2 : Nat → Int32} {ld2 : Nat → Int32} {tw2 : Nat → Int32} {le2 : Nat → Int32} {op2 : Nat → Int32} (hH : cH z r) (hF : FX3_addRoad (z 0) (r 0) (r 2) (r 3) (r 4) (r 5) qa qb qn = (0, ans, ex2, ld2, tw2, le2, op2)) : xM l yX3_addRoad wsX3_addRoad ⟨7, 4, 24, 104⟩ G [.ref (a 0), .int qa, .int qb, .int qn] (cW G a z r u) sz (xQi G (cW G a z r u) sz (fun x (_ : cU) => x = ans) (fun v => cW G a z (va_up (va_up (va_up (va_up (va_up r 0 ex2) 2 ld2) 3 tw2) 4 le2) 5 op2) v)) := by
  refine xlift_i (xMX_ok (metX3_addRoad l G hst sz (a 0) (a 1) (a 2) (a 3) (a 6) (a 7) (a 8) (a 9) (a 10) (a 11) (a 12) (z 0) (r 0) (r 2) (r 3) (r 4) (r 5) qa qb qn hH.1 hH.2.1) (fun E h => h.2 (h.1.symm.trans (congrArg Prod.fst hF)))) [0, 1, 2, 4, 5, 6, 7] [3, 8, 9, 10, 11, 12, 13, 14, 15, 16, 17, 18, 19, 20, 21, 22] [16, 17, 18, 0, 19, 20, 21, 22, 1, 2, 3, 4, 5, 6, 7, 8, 9, 10, 11, 12, 13, 14, 15] rfl rfl rfl rfl rfl rfl (fun x w hp => ?_)
  obtain ⟨h1, h2, h3⟩ := hp
  rw [hF] at h2 h3
  refine ⟨u, h2, ?_⟩
  rw [h3]
  rfl
set_option maxHeartbeats 4000000 in
set_option maxRecDepth 100000 in
theorem kX_addRoad {l : Launch} {G : xG} (hst : l.stackTraces = false) (sz : Nat) (a : Nat → Nat) (z : Nat → Int32) (r : Nat → Nat → Int32) (u : cU) (qa : Int32) (qb : Int32) (qn : Int32) (hH : cH z r) {k0 : Nat} (hk0 : k0 ≠ 0) (hF : (FX3_addRoad (z 0) (r 0) (r 2) (r 3) (r 4) (r 5) qa qb qn).1 = k0) : xMX l yX3_addRoad wsX3_addRoad ⟨7, 4, 24, 104⟩ G [.ref (a 0), .int qa, .int qb, .int qn] (cW G a z r u) sz (xQi G (cW G a z r u) sz (fun x (_ : cU) => False) (fun v => cW G a z r v)) (fun E => (FX3_addRoad (z 0) (r 0) (r 2) (r 3) (r 4) (r 5) qa qb qn).1 = xcode E ∧ xcode E ≠ 0) := by
  refine xliftX_i (metX3_addRoad l G hst sz (a 0) (a 1) (a 2) (a 3) (a 6) (a 7) (a 8) (a 9) (a 10) (a 11) (a 12) (z 0) (r 0) (r 2) (r 3) (r 4) (r 5) qa qb qn hH.1 hH.2.1) [0, 1, 2, 4, 5, 6, 7] [3, 8, 9, 10, 11, 12, 13, 14, 15, 16, 17, 18, 19, 20, 21, 22] [16, 17, 18, 0, 19, 20, 21, 22, 1, 2, 3, 4, 5, 6, 7, 8, 9, 10, 11, 12, 13, 14, 15] [16, 17, 18, 0, 19, 20, 21, 22, 1, 2, 3, 4, 5, 6, 7, 8, 9, 10, 11, 12, 13, 14, 15] rfl rfl rfl rfl rfl rfl rfl rfl (fun x w hp => ?_)
  exact absurd (hF.symm.trans hp.1) hk0
set_option maxHeartbeats 4000000 in
set_option maxRecDepth 100000 in
theorem k_turnRoad {l : Launch} {G : xG} (hst : l.stackTraces = false) (sz : Nat) (a : Nat → Nat) (z : Nat → Int32) (r : Nat → Nat → Int32) (u : cU) (q : Int32) (x : Int32) {ans : Int32} {op2 : Nat → Int32} (hH : cH z r) (hF : FX3_turnRoad (z 0) (r 0) (r 3) (r 5) q x = (0, ans, op2)) : xM l yX3_turnRoad wsX3_turnRoad ⟨7, 1, 6, 105⟩ G [.ref (a 0), .int q, .int x] (cW G a z r u) sz (xQi G (cW G a z r u) sz (fun x (_ : cU) => x = ans) (fun v => cW G a z (va_up r 5 op2) v)) := by
  refine xlift_i (xMX_ok (metX3_turnRoad l G hst sz (a 0) (a 1) (a 2) (a 3) (a 6) (a 7) (a 8) (a 9) (a 10) (a 11) (a 12) (z 0) (r 0) (r 3) (r 5) q x hH.1 hH.2.2.2.1) (fun E h => h.2 (h.1.symm.trans (congrArg Prod.fst hF)))) [0, 1, 2, 5, 7] [3, 4, 6, 8, 9, 10, 11, 12, 13, 14, 15, 16, 17, 18, 19, 20, 21, 22] [18, 19, 20, 0, 1, 21, 2, 22, 3, 4, 5, 6, 7, 8, 9, 10, 11, 12, 13, 14, 15, 16, 17] rfl rfl rfl rfl rfl rfl (fun x w hp => ?_)
  obtain ⟨h1, h2, h3⟩ := hp
  rw [hF] at h2 h3
  refine ⟨u, h2, ?_⟩
  rw [h3]
  rfl
set_option maxHeartbeats 4000000 in
set_option maxRecDepth 100000 in
theorem k_turnShepherd {l : Launch} {G : xG} (hst : l.stackTraces = false) (sz : Nat) (a : Nat → Nat) (z : Nat → Int32) (r : Nat → Nat → Int32) (u : cU) (q : Int32) {ans : Int32} {sh2 : Nat → Int32} (hH : cH z r) (hF : FX3_turnShepherd (z 0) (r 1) q = (0, ans, sh2)) : xM l yX3_turnShepherd wsX3_turnShepherd ⟨7, 1, 6, 103⟩ G [.ref (a 0), .int q] (cW G a z r u) sz (xQi G (cW G a z r u) sz (fun x (_ : cU) => x = ans) (fun v => cW G a z (va_up r 1 sh2) v)) := by
  refine xlift_i (xMX_ok (metX3_turnShepherd l G hst sz (a 0) (a 1) (a 2) (a 3) (a 6) (a 7) (a 8) (a 9) (a 10) (a 11) (a 12) (z 0) (r 1) q hH.1) (fun E h => h.2 (h.1.symm.trans (congrArg Prod.fst hF)))) [0, 1, 3] [2, 4, 5, 6, 7, 8, 9, 10, 11, 12, 13, 14, 15, 16, 17, 18, 19, 20, 21, 22] [20, 21, 0, 22, 1, 2, 3, 4, 5, 6, 7, 8, 9, 10, 11, 12, 13, 14, 15, 16, 17, 18, 19] rfl rfl rfl rfl rfl rfl (fun x w hp => ?_)
  obtain ⟨h1, h2, h3⟩ := hp
  rw [hF] at h2 h3
  refine ⟨u, h2, ?_⟩
  rw [h3]
  rfl
set_option maxHeartbeats 4000000 in
set_option maxRecDepth 100000 in
theorem k_pay {l : Launch} {G : xG} (hst : l.stackTraces = false) (sz : Nat) (a : Nat → Nat) (z : Nat → Int32) (r : Nat → Nat → Int32) (u : cU) (nn : Int32) {ans : Int32} {co2 : Int32} (hF : FX3_pay (z 2) nn = (0, ans, co2)) : xM l yX3_pay wsX3_pay ⟨7, 1, 6, 104⟩ G [.ref (a 0), .int nn] (cW G a z r u) sz (xQi G (cW G a z r u) sz (fun x (_ : cU) => x = ans) (fun v => cW G a (upd z 2 co2) r v)) := by
  refine xlift_i (xMX_ok (metX3_pay l G hst sz (a 0) (a 1) (a 2) (a 3) (a 4) (a 13) (a 14) (a 15) (z 1) (z 2) (z 3) (z 4) (z 5) (z 6) (z 7) (z 8) (z 9) (z 10) nn) (fun E h => h.2 (h.1.symm.trans (congrArg Prod.fst hF)))) [0, 9] [1, 2, 3, 4, 5, 6, 7, 8, 10, 11, 12, 13, 14, 15, 16, 17, 18, 19, 20, 21, 22] [21, 0, 1, 2, 3, 4, 5, 6, 7, 22, 8, 9, 10, 11, 12, 13, 14, 15, 16, 17, 18, 19, 20] rfl rfl rfl rfl rfl rfl (fun x w hp => ?_)
  obtain ⟨h1, h2, h3⟩ := hp
  rw [hF] at h2 h3
  refine ⟨u, h2, ?_⟩
  rw [h3]
  rfl
set_option maxHeartbeats 4000000 in
set_option maxRecDepth 100000 in
theorem k_giveUp {l : Launch} {G : xG} (hst : l.stackTraces = false) (sz : Nat) (a : Nat → Nat) (z : Nat → Int32) (r : Nat → Nat → Int32) (u : cU) {ans : Int32} {go2 : Int32} {wl2 : Int32} (hF : FX3_giveUp (z 3) (z 4) = (0, ans, go2, wl2)) : xM l yX3_giveUp wsX3_giveUp ⟨7, 1, 6, 102⟩ G [.ref (a 0)] (cW G a z r u) sz (xQi G (cW G a z r u) sz (fun x (_ : cU) => x = ans) (fun v => cW G a (upd (upd z 3 go2) 4 wl2) r v)) := by
  refine xlift_i (xMX_ok (metX3_giveUp l G hst sz (a 0) (a 1) (a 2) (a 3) (a 4) (a 13) (a 14) (a 15) (z 1) (z 2) (z 3) (z 4) (z 5) (z 6) (z 7) (z 8) (z 9) (z 10)) (fun E h => h.2 (h.1.symm.trans (congrArg Prod.fst hF)))) [0, 9] [1, 2, 3, 4, 5, 6, 7, 8, 10, 11, 12, 13, 14, 15, 16, 17, 18, 19, 20, 21, 22] [21, 0, 1, 2, 3, 4, 5, 6, 7, 22, 8, 9, 10, 11, 12, 13, 14, 15, 16, 17, 18, 19, 20] rfl rfl rfl rfl rfl rfl (fun x w hp => ?_)
  obtain ⟨h1, h2, h3⟩ := hp
  rw [hF] at h2 h3
  refine ⟨u, h2, ?_⟩
  rw [h3]
  rfl
set_option maxHeartbeats 4000000 in
set_option maxRecDepth 100000 in
theorem kX_giveUp {l : Launch} {G : xG} (hst : l.stackTraces = false) (sz : Nat) (a : Nat → Nat) (z : Nat → Int32) (r : Nat → Nat → Int32) (u : cU) {k0 : Nat} (hk0 : k0 ≠ 0) (hF : (FX3_giveUp (z 3) (z 4)).1 = k0) : xMX l yX3_giveUp wsX3_giveUp ⟨7, 1, 6, 102⟩ G [.ref (a 0)] (cW G a z r u) sz (xQi G (cW G a z r u) sz (fun x (_ : cU) => False) (fun v => cW G a z r v)) (fun E => (FX3_giveUp (z 3) (z 4)).1 = xcode E ∧ xcode E ≠ 0) := by
  refine xliftX_i (metX3_giveUp l G hst sz (a 0) (a 1) (a 2) (a 3) (a 4) (a 13) (a 14) (a 15) (z 1) (z 2) (z 3) (z 4) (z 5) (z 6) (z 7) (z 8) (z 9) (z 10)) [0, 9] [1, 2, 3, 4, 5, 6, 7, 8, 10, 11, 12, 13, 14, 15, 16, 17, 18, 19, 20, 21, 22] [21, 0, 1, 2, 3, 4, 5, 6, 7, 22, 8, 9, 10, 11, 12, 13, 14, 15, 16, 17, 18, 19, 20] [21, 0, 1, 2, 3, 4, 5, 6, 7, 22, 8, 9, 10, 11, 12, 13, 14, 15, 16, 17, 18, 19, 20] rfl rfl rfl rfl rfl rfl rfl rfl (fun x w hp => ?_)
  exact absurd (hF.symm.trans hp.1) hk0
set_option maxHeartbeats 4000000 in
set_option maxRecDepth 100000 in
theorem k_sleep {l : Launch} {G : xG} (hst : l.stackTraces = false) (sz : Nat) (a : Nat → Nat) (z : Nat → Int32) (r : Nat → Nat → Int32) (u : cU) (nn : Int32) {ans : Int32} {ms2 : Nat → Int32} (hF : FX3_sleep (r 10) nn = (0, ans, ms2)) : xM l yX3_sleep wsX3_sleep ⟨7, 1, 6, 104⟩ G [.ref (a 0), .int nn] (cW G a z r u) sz (xQi G (cW G a z r u) sz (fun x (_ : cU) => x = ans) (fun v => cW G a z (va_up r 10 ms2) v)) := by
  refine xlift_i (xMX_ok (metX3_sleep l G hst sz (a 0) (a 1) (a 2) (a 3) (a 4) (a 13) (a 14) (a 15) (a 16) (a 17) (z 1) (z 2) (z 3) (z 4) (z 5) (z 6) (z 7) (z 8) (z 9) (z 10) (r 10) nn) (fun E h => h.2 (h.1.symm.trans (congrArg Prod.fst hF)))) [0, 9, 13, 15] [1, 2, 3, 4, 5, 6, 7, 8, 10, 11, 12, 14, 16, 17, 18, 19, 20, 21, 22] [19, 0, 1, 2, 3, 4, 5, 6, 7, 20, 8, 9, 10, 21, 11, 22, 12, 13, 14, 15, 16, 17, 18] rfl rfl rfl rfl rfl rfl (fun x w hp => ?_)
  obtain ⟨h1, h2, h3⟩ := hp
  rw [hF] at h2 h3
  refine ⟨u, h2, ?_⟩
  rw [h3]
  rfl
set_option maxHeartbeats 4000000 in
set_option maxRecDepth 100000 in
theorem k_beginErrand {l : Launch} {G : xG} (hst : l.stackTraces = false) (sz : Nat) (a : Nat → Nat) (z : Nat → Int32) (r : Nat → Nat → Int32) (u : cU) (g : Int32) {ans : Int32} {go2 : Int32} {wl2 : Int32} {dn2 : Int32} {tr2 : Nat → Int32} {ak2 : Nat → Int32} {fa2 : Nat → Int32} (hH : cH z r) (hF : FX3_beginErrand (z 1) (z 3) (z 4) (z 8) (r 7) (r 8) (z 0) (r 2) (r 4) (r 5) u.1 g = (0, ans, go2, wl2, dn2, tr2, ak2, fa2)) : xM l yX3_beginErrand wsX3_beginErrand ⟨7, 2, 12, 103⟩ G [.ref (a 0), .int g] (cW G a z r u) sz (xQi G (cW G a z r u) sz (fun x (_ : cU) => x = ans) (fun v => cW G a (upd (upd (upd z 3 go2) 4 wl2) 8 dn2) (va_up (va_up r 7 tr2) 8 ak2) v)) := by
  refine xlift_i (xMX_ok (metX3_beginErrand l G hst sz (a 0) (a 1) (a 2) (a 3) (a 4) (a 13) (a 14) (a 15) (a 6) (a 7) (a 8) (a 9) (a 10) (a 11) (a 12) (z 1) (z 2) (z 3) (z 4) (z 5) (z 6) (z 7) (z 8) (z 9) (z 10) (r 7) (r 8) (z 0) (r 2) (r 4) (r 5) u.1 g hH.1 hH.2.2.1) (fun E h => h.2 (h.1.symm.trans (congrArg Prod.fst hF)))) [0, 9, 11, 12, 1, 4, 6, 7, 8] [2, 3, 5, 10, 13, 14, 15, 16, 17, 18, 19, 20, 21, 22] [14, 18, 0, 1, 19, 2, 20, 21, 22, 15, 3, 16, 17, 4, 5, 6, 7, 8, 9, 10, 11, 12, 13] rfl rfl rfl rfl rfl rfl (fun x w hp => ?_)
  obtain ⟨h1, h2, h3⟩ := hp
  rw [hF] at h2 h3
  refine ⟨(fa2, u.2), h2, ?_⟩
  rw [h3]
  rfl
set_option maxHeartbeats 4000000 in
set_option maxRecDepth 100000 in
theorem kX_beginErrand {l : Launch} {G : xG} (hst : l.stackTraces = false) (sz : Nat) (a : Nat → Nat) (z : Nat → Int32) (r : Nat → Nat → Int32) (u : cU) (g : Int32) (hH : cH z r) {k0 : Nat} (hk0 : k0 ≠ 0) (hF : (FX3_beginErrand (z 1) (z 3) (z 4) (z 8) (r 7) (r 8) (z 0) (r 2) (r 4) (r 5) u.1 g).1 = k0) : xMX l yX3_beginErrand wsX3_beginErrand ⟨7, 2, 12, 103⟩ G [.ref (a 0), .int g] (cW G a z r u) sz (xQi G (cW G a z r u) sz (fun x (_ : cU) => False) (fun v => cW G a z r v)) (fun E => (FX3_beginErrand (z 1) (z 3) (z 4) (z 8) (r 7) (r 8) (z 0) (r 2) (r 4) (r 5) u.1 g).1 = xcode E ∧ xcode E ≠ 0) := by
  refine xliftX_i (metX3_beginErrand l G hst sz (a 0) (a 1) (a 2) (a 3) (a 4) (a 13) (a 14) (a 15) (a 6) (a 7) (a 8) (a 9) (a 10) (a 11) (a 12) (z 1) (z 2) (z 3) (z 4) (z 5) (z 6) (z 7) (z 8) (z 9) (z 10) (r 7) (r 8) (z 0) (r 2) (r 4) (r 5) u.1 g hH.1 hH.2.2.1) [0, 9, 11, 12, 1, 4, 6, 7, 8] [2, 3, 5, 10, 13, 14, 15, 16, 17, 18, 19, 20, 21, 22] [14, 18, 0, 1, 19, 2, 20, 21, 22, 15, 3, 16, 17, 4, 5, 6, 7, 8, 9, 10, 11, 12, 13] [14, 18, 0, 1, 19, 2, 20, 21, 22, 15, 3, 16, 17, 4, 5, 6, 7, 8, 9, 10, 11, 12, 13] rfl rfl rfl rfl rfl rfl rfl rfl (fun x w hp => ?_)
  exact absurd (hF.symm.trans hp.1) hk0
set_option maxHeartbeats 4000000 in
set_option maxRecDepth 100000 in
theorem k_goOn {l : Launch} {G : xG} (hst : l.stackTraces = false) (sz : Nat) (a : Nat → Nat) (z : Nat → Int32) (r : Nat → Nat → Int32) (u : cU) (nst : Int32) {ans : Int32} {po2 : Int32} {co2 : Int32} {go2 : Int32} {wl2 : Int32} {wk2 : Int32} {db2 : Int32} {dn2 : Int32} {iv2 : Int32} {qs2 : Int32} {wy2 : Nat → Int32} {tr2 : Nat → Int32} {ak2 : Nat → Int32} {mx2 : Nat → Int32} {ms2 : Nat → Int32} {fa2 : Nat → Int32} (hH : cH z r) (hF : FX3_goOn (z 1) (z 2) (z 3) (z 4) (z 5) (z 6) (z 7) (z 8) (z 9) (z 10) (r 6) (r 7) (r 8) (r 9) (r 10) (z 0) (r 0) (r 1) (r 2) (r 3) (r 4) (r 5) u.1 nst = (0, ans, po2, co2, go2, wl2, wk2, db2, dn2, iv2, qs2, wy2, tr2, ak2, mx2, ms2, fa2)) : xM l yX3_goOn wsX3_goOn ⟨7, 2, 12, 115⟩ G [.ref (a 0), .int nst] (cW G a z r u) sz (xQi G (cW G a z r u) sz (fun x (_ : cU) => x = ans) (fun v => cW G a (upd (upd (upd (upd (upd (upd (upd (upd (upd z 1 po2) 2 co2) 3 go2) 4 wl2) 6 wk2) 7 db2) 8 dn2) 9 iv2) 10 qs2) (va_up (va_up (va_up (va_up (va_up r 6 wy2) 7 tr2) 8 ak2) 9 mx2) 10 ms2) v)) := by
  refine xlift_i (xMX_ok (metX3_goOn l G hst sz (a 0) (a 1) (a 2) (a 3) (a 4) (a 13) (a 14) (a 15) (a 16) (a 17) (a 6) (a 7) (a 8) (a 9) (a 10) (a 11) (a 12) (z 1) (z 2) (z 3) (z 4) (z 5) (z 6) (z 7) (z 8) (z 9) (z 10) (r 6) (r 7) (r 8) (r 9) (r 10) (z 0) (r 0) (r 1) (r 2) (r 3) (r 4) (r 5) u.1 nst hH.1 hH.2.1 hH.2.2.1 hH.2.2.2.2.2) (fun E h => h.2 (h.1.symm.trans (congrArg Prod.fst hF)))) [0, 9, 10, 11, 12, 13, 14, 15, 1, 2, 3, 4, 5, 6, 7, 8] [16, 17, 18, 19, 20, 21, 22] [7, 15, 16, 17, 18, 19, 20, 21, 22, 8, 9, 10, 11, 12, 13, 14, 0, 1, 2, 3, 4, 5, 6] rfl rfl rfl rfl rfl rfl (fun x w hp => ?_)
  obtain ⟨h1, h2, h3⟩ := hp
  rw [hF] at h2 h3
  refine ⟨(fa2, u.2), h2, ?_⟩
  rw [h3]
  rfl
set_option maxHeartbeats 4000000 in
set_option maxRecDepth 100000 in
theorem kX_goOn {l : Launch} {G : xG} (hst : l.stackTraces = false) (sz : Nat) (a : Nat → Nat) (z : Nat → Int32) (r : Nat → Nat → Int32) (u : cU) (nst : Int32) (hH : cH z r) {k0 : Nat} (hk0 : k0 ≠ 0) (hF : (FX3_goOn (z 1) (z 2) (z 3) (z 4) (z 5) (z 6) (z 7) (z 8) (z 9) (z 10) (r 6) (r 7) (r 8) (r 9) (r 10) (z 0) (r 0) (r 1) (r 2) (r 3) (r 4) (r 5) u.1 nst).1 = k0) : xMX l yX3_goOn wsX3_goOn ⟨7, 2, 12, 115⟩ G [.ref (a 0), .int nst] (cW G a z r u) sz (xQi G (cW G a z r u) sz (fun x (_ : cU) => False) (fun v => cW G a z r v)) (fun E => (FX3_goOn (z 1) (z 2) (z 3) (z 4) (z 5) (z 6) (z 7) (z 8) (z 9) (z 10) (r 6) (r 7) (r 8) (r 9) (r 10) (z 0) (r 0) (r 1) (r 2) (r 3) (r 4) (r 5) u.1 nst).1 = xcode E ∧ xcode E ≠ 0) := by
  refine xliftX_i (metX3_goOn l G hst sz (a 0) (a 1) (a 2) (a 3) (a 4) (a 13) (a 14) (a 15) (a 16) (a 17) (a 6) (a 7) (a 8) (a 9) (a 10) (a 11) (a 12) (z 1) (z 2) (z 3) (z 4) (z 5) (z 6) (z 7) (z 8) (z 9) (z 10) (r 6) (r 7) (r 8) (r 9) (r 10) (z 0) (r 0) (r 1) (r 2) (r 3) (r 4) (r 5) u.1 nst hH.1 hH.2.1 hH.2.2.1 hH.2.2.2.2.2) [0, 9, 10, 11, 12, 13, 14, 15, 1, 2, 3, 4, 5, 6, 7, 8] [16, 17, 18, 19, 20, 21, 22] [7, 15, 16, 17, 18, 19, 20, 21, 22, 8, 9, 10, 11, 12, 13, 14, 0, 1, 2, 3, 4, 5, 6] [7, 15, 16, 17, 18, 19, 20, 21, 22, 8, 9, 10, 11, 12, 13, 14, 0, 1, 2, 3, 4, 5, 6] rfl rfl rfl rfl rfl rfl rfl rfl (fun x w hp => ?_)
  exact absurd (hF.symm.trans hp.1) hk0
