/-! the law's loop: what holds at its head; each call of it -/
theorem zlc {x y : Int64} (h : x = y) : lg_cmp x y = 0 := by
  rw [h]
  unfold lg_cmp
  rw [if_neg (by intro q; exact absurd (Int64.lt_iff_toInt_lt.mp q) (Int.lt_irrefl _)), if_pos rfl]
theorem zix {i L : Nat} {x : Int32} (k : Nat) (hx : x = nI i + nI k) (h : i + k < L) (hL : L ≤ 2048) : vp_in x L := by
  rw [hx, nI_add]
  exact xinI h (by omega)
section ZIX
variable {N : Nat} {pl rs po pq go wl gu iv : Int32} {ex sh ld tw le op rd ml cz wy tr ak mx ms ur uk uy xe sg : Nat → Int32}
theorem zI_wl (hI : zI N pl rs ex sh ld tw le op rd ml cz po pq go wl gu iv wy tr ak mx ms ur uk uy xe sg) : 0 ≤ wl.toInt ∧ wl.toInt ≤ 20 := by
  have h := (zI_B hI).2.2.1
  have h2 := ycnt_le ur 20
  omega
theorem zI_X (hI : zI N pl rs ex sh ld tw le op rd ml cz po pq go wl gu iv wy tr ak mx ms ur uk uy xe sg) : ∀ k, k < 100 → -1 ≤ (xe k).toInt ∧ (xe k).toInt < 4 := fun k hk => by
  rcases zI_M hI k hk with ⟨a1, a2⟩ | ⟨a1, a2, a3, a4, a5, a6⟩
  · rw [a2, show (-1 : Int32).toInt = -1 from rfl]; omega
  · rw [a3]
    have := hI.1.2.1 (k % 10) (by omega)
    omega
theorem zI_K (hI : zI N pl rs ex sh ld tw le op rd ml cz po pq go wl gu iv wy tr ak mx ms ur uk uy xe sg) (h : 0 < pl.toInt) : YK pq go wl ur uy xe := by
  have hC := zI_C hI h
  have hpl := hI.1.1
  refine ⟨⟨by rw [hC.1]; have := hC.2.1; omega, (zI_B hI).2.2.1, (zI_B hI).2.2.2.2⟩, ?_, zI_X hI⟩
  rcases hC.2.2.2.2 with h | h
  · exact Or.inl h.1
  · right; have := h.1; omega
theorem zI_Kg (hI : zI N pl rs ex sh ld tw le op rd ml cz po pq go wl gu iv wy tr ak mx ms ur uk uy xe sg) (h : ¬ go = -1) : YK pq go wl ur uy xe := by
  have hpl := hI.1.1
  refine zI_K hI ?_
  rcases hI.2.2.2.2 with h1 | h1
  · have := h1.2.1; omega
  · exact absurd h1.2.2.2.1 h
theorem zI_pw (hI : zI N pl rs ex sh ld tw le op rd ml cz po pq go wl gu iv wy tr ak mx ms ur uk uy xe sg) (h : 0 < pl.toInt) : 0 ≤ pq.toInt ∧ pq.toInt < 10 := (zI_K hI h).1.1
end ZIX
def zGo (p : Program) (l : Launch) (e : Env) (S : State) (m : MethodId) (args : Array Value) (below : List Frame) (meth : Method) (c : Code) (Q : State → Prop) (G : xG) (A : Nat → Prop) (b : Nat) (aX aL aC aT aEx aSh aLd aTw aLe aOp aFa aM aWy aTr aAk aMx aMs aN bWy bTr bAk aNx aNs aR rEx rRd rTo rMi rCl rSh rFa aS aH sTr sAk sWy sXe sSg vTr vAk vWy vXe vSg aB : Nat) (i pc : Nat) : Prop :=
  ∀ (th pl rs po pq co go wl gu wk db dn iv qs tpo tco tgo twl tgu twk tdb tdn tiv tqs vpo vco vgo vln vwk vdb vdn viv vqs : Int32) (ex sh ld tw le op fa rd ml cz fb wy tr ak mx ms ur uk uy xe sg twy ttr tak tmx tms vtr vak vwy vxe vsg : Nat → Int32) (ot : Nat → Int64), zI i pl rs ex sh ld tw le op rd ml cz po pq go wl gu iv wy tr ak mx ms ur uk uy xe sg → ∀ (H : Heap) (locs : List Loc) (ls : Array Slot), xW G A S.heap (xO aX 3 [.ref aL, .ref aC, .ref aT] :: xO aL 1 [.int pl, .ref aEx, .ref aSh, .ref aLd, .ref aTw, .ref aLe, .ref aOp, .ref aFa] :: xAI G aEx 10 ex :: xAZ G aSh 10 sh :: xAI G aLd 40 ld :: xAI G aTw 40 tw :: xAI G aLe 40 le :: xAZ G aOp 40 op :: xAI G aFa 10 fa :: xO aC 0 [.ref aL, .ref aM, .int po, .int co, .int go, .ref aWy, .int wl, .ref aTr, .ref aAk, .int gu, .int wk, .int db, .int dn, .int iv, .int qs] :: xAI G aWy 20 wy :: xAZ G aTr 40 tr :: xAZ G aAk 10 ak :: xO aM 2 [.ref aMx, .ref aMs] :: xAI G aMx 100 mx :: xAI G aMs 100 ms :: xO aT 0 [.ref aL, .ref aN, .int tpo, .int tco, .int tgo, .ref bWy, .int twl, .ref bTr, .ref bAk, .int tgu, .int twk, .int tdb, .int tdn, .int tiv, .int tqs] :: xAI G bWy 20 twy :: xAZ G bTr 40 ttr :: xAZ G bAk 10 tak :: xO aN 2 [.ref aNx, .ref aNs] :: xAI G aNx 100 tmx :: xAI G aNs 100 tms :: xO aR 5 [.int th, .int pl, .ref rEx, .ref rRd, .ref rTo, .int rs, .ref rMi, .ref rCl, .ref rSh, .ref rFa, .ref aS, .ref aH] :: xAI G rEx 10 ex :: xAI G rRd 40 rd :: xAI G rTo 40 ld :: xAI G rMi 20 ml :: xAZ G rCl 20 cz :: xAZ G rSh 10 sh :: xAI G rFa 10 fb :: xO aS 4 [.int pq, .int co, .int go, .ref sTr, .ref sAk, .ref sWy, .int wl, .ref sXe, .ref sSg, .int wk, .int db, .int dn, .int iv, .int qs] :: xAZ G sTr 20 ur :: xAZ G sAk 10 uk :: xAI G sWy 40 uy :: xAI G sXe 100 xe :: xAI G sSg 100 sg :: xO aH 4 [.int vpo, .int vco, .int vgo, .ref vTr, .ref vAk, .ref vWy, .int vln, .ref vXe, .ref vSg, .int vwk, .int vdb, .int vdn, .int viv, .int vqs] :: xAZ G vTr 20 vtr :: xAZ G vAk 10 vak :: xAI G vWy 40 vwy :: xAI G vXe 100 vxe :: xAI G vSg 100 vsg :: xAJ G aB 1 ot :: []) H locs → lv_has ls 9 [(4, .int (nI i)), (3, .ref aB), (2, .ref aR), (1, .ref aX), (0, .ref b)] → W p l e room_1 S m args below meth c H locs (100 + 4 * i) (3000 + 50 * i) Q (F0 m pc ls [])
