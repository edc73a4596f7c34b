
/-! learning -/
theorem czF_cg {f h : Nat → Int} : ∀ o, (∀ i, i < o → f i = h i) → czF f o = czF h o
  | 0, _ => rfl
  | o + 1, hi => by unfold czF; rw [czF_cg o (fun i h => hi i (by omega)), hi o (by omega)]
def ChE (W W' : Nat → Int32) : Prop := ∀ i, i < 1106 → W' i = W i
theorem zC_cg {W W' : Nat → Int32} (h : ChE W W') {s k : Nat} (hs : s < 32) (hk : k < 34) : zC W' s k = zC W s k := by
  unfold zC zW; rw [h _ (by omega)]
theorem NZ_cg {W W' : Nat → Int32} (h : ChE W W') : ∀ s, s ≤ 32 → NZ W' s = NZ W s
  | 0, _ => rfl
  | s + 1, hs => by unfold NZ; rw [NZ_cg h s (by omega), czF_cg 32 (fun i hi => zC_cg h (show s < 32 by omega) (by omega))]
theorem zSt_cg {W W' : Nat → Int32} (h : ChE W W') {s : Nat} (hs : s < 32) : zSt W' s = zSt W s := by
  unfold zSt; rw [zS_congr 34 (fun i hi => zC_cg h hs hi)]
theorem WyP.cg {g : GS} {W W' : Nat → Int32} (h : ChE W W') (hw : WyP g W) : WyP g W' := by
  intro s hs
  obtain ⟨h1, h2, h3, h4, h5, h6, h7⟩ := hw s hs
  rw [NZ_cg h s (by omega), NZ_cg h (s + 1) (by omega), zSt_cg h hs, h _ (show 18 + 34 * s + 32 < 1106 by omega), h _ (show 18 + 34 * s + 33 < 1106 by omega)]
  refine ⟨h1, h2, h3, fun o ho hp => ?_, h5, h6, h7⟩
  rw [zC_cg h hs (show o < 34 by omega)] at hp
  rw [czF_cg o (fun i hi => zC_cg h hs (show i < 34 by omega)), h _ (show 18 + 34 * s + o < 1106 by omega)]
  exact h4 o ho hp
theorem zNum_cgW {W W' : Nat → Int32} (h : ChE W W') {s : Nat} (hs : s < 32) (a b : Int) (row : Nat → Int) : zNum W' s a b row = zNum W s a b row := by
  unfold zNum
  rw [zC_cg h hs (show 32 < 34 by omega), zC_cg h hs (show 33 < 34 by omega), zSt_cg h hs, zS_congr 32 (fun i hi => by rw [zC_cg h hs (show i < 34 by omega)])]
theorem zLT_cg {W W' : Nat → Int32} (h : ChE W W') (gw : Int) : ∀ t s, s < 32 → zLT W' gw t s = zLT W gw t s
  | 0, _, _ => rfl
  | t + 1, s, hs => by
    unfold zLT zMx
    rw [zNum_cgW h hs, zNum_congr hs (fun o ho => zLT_cg h gw t o ho)]
    congr 2
    unfold zW; rw [h 8 (by omega)]
theorem WEq.ch {W W' : Nat → Int32} (h : WEq W W') : ChE W W' := fun i hi => h.lo (by omega)
theorem OpS.eq {g : GS} {W W' : Nat → Int32} {gl : List TxL} {m : Int32} {T : Nat} (h : WEq W W') (hO : OpS g W (mGc W m gl) m T) : OpS g W' (mGc W' m gl) m T := by
  obtain ⟨h1, h2, h3, h4, h5, h6⟩ := hO
  rw [mGc_eq h]
  refine ⟨h1.cg h.ch, fun t s ht hs => ?_, h3, h4, ?_, ?_⟩
  · rw [zLT_cg h.ch _ t s hs]; exact h2 t s ht hs
  · rw [h.lo (by omega)]; exact h5
  · rw [h.lo (by omega)]; exact h6
/-! whether a FOUL pays, by what its CARD counts -/
def JPc (W : Nat → Int32) (gl : List TxL) (rl : Nat → List TxL) (m : Int32) (k z : Nat) (c jd b : Int32) (G : Nat) : JP :=
  (W, mGc W m gl, c * (100 - W (1106 + 34 * k + 1)) / 100, W (10 + z) + c, mLT W (mGc W m gl), mT W, jd, b, G, mSy W rl m k z jd)
theorem mJP_c (W : Nat → Int32) (gl : List TxL) (rl : Nat → List TxL) (m : Int32) (k z : Nat) (told jd b : Int32) (G : Nat) : mJP W gl rl m k z told jd b G = JPc W gl rl m k z (wCd W k told) jd b G := rfl
theorem mMx_cgW {W W' : Nat → Int32} (h : ChE W W') {s : Nat} (hs : s < 32) (a : Int64) (row : Nat → Int64) : mMx W' a s row = mMx W a s row := by
  unfold mMx
  rw [acL_congr 32 (fun i hi => by rw [h _ (show 18 + 34 * s + i < 1106 by omega)])]
theorem wSt_cg {W W' : Nat → Int32} (h : ChE W W') {s : Nat} (hs : s < 32) : wSt W' s = wSt W s := by
  unfold wSt
  exact dI_congr 34 (fun i hi => h _ (by omega))
theorem mWt_cgW {W W' : Nat → Int32} (h : ChE W W') {s : Nat} (hs : s < 32) (gw af sw : Int32) (row : Nat → Int64) : mWt W' gw af sw s row = mWt W gw af sw s row := by
  unfold mWt
  rw [mMx_cgW h hs, wSt_cg h hs, h _ (show 18 + 34 * s + 32 < 1106 by omega), h _ (show 18 + 34 * s + 33 < 1106 by omega)]
/-- two judges' matters that are the same but for what the row holds besides chances -/
def JEq (P P' : JP) : Prop := ChE (jW P) (jW P') ∧ jgw P' = jgw P ∧ jaf P' = jaf P ∧ jsw P' = jsw P ∧ (∀ t s, s < 32 → jon P' t s = jon P t s) ∧ jT P' = jT P ∧ jjd P' = jjd P ∧ jb P' = jb P ∧ jG P' = jG P ∧ ∀ j s, jsy P' j s = jsy P j s
theorem jA_cg {P P' : JP} (h : JEq P P') {j s : Nat} (hs : s < 32) (e : Bool) (wt : Int64) : jO1 P' j s = jO1 P j s ∧ jA P' j s e wt = jA P j s e wt := by
  obtain ⟨-, -, e2, e3, e4, e5, e6, e7, -, e9⟩ := h
  have o : jO1 P' j s = jO1 P j s := by unfold jO1; rw [e4 _ s hs, e2, e5]
  refine ⟨o, ?_⟩
  unfold jA
  rw [o, e6, e3, e7, e9]
theorem jWo_cg {P P' : JP} (h : JEq P P') : ∀ k s, s < 32 → jWo P' k s = jWo P k s
  | 0, s, hs => by
    have a := fun j e wt => jA_cg h (j := j) hs e wt
    unfold jWo
    rw [h.2.2.2.2.2.2.2.2.1, (a _ true 0).1, (a _ true _).2, h.2.2.2.1]
  | k + 1, s, hs => by
    have a := fun j e wt => jA_cg h (j := j) hs e wt
    have w : mWt (jW P') (jgw P') (jaf P') (jsw P') s (jWo P' k) = mWt (jW P) (jgw P) (jaf P) (jsw P) s (jWo P k) := by
      rw [mWt_cgW h.1 hs, h.2.1, h.2.2.1, h.2.2.2.1]
      exact mWt_congr hs (fun o ho => jWo_cg h k o ho)
    unfold jWo
    rw [w, h.2.2.2.2.2.2.2.2.1, (a _ false 0).1, (a _ false _).2, h.2.2.2.1]
theorem nR_lo {k : Nat} (hk : k < 6) {i : Nat} (hi : i < 2) : ¬ isR (1106 + 34 * k + i) := fun h => by
  have := h.2.2
  omega
theorem JPc_eq {W W' : Nat → Int32} (h : WEq W W') {k z : Nat} (hk : k < 6) (hz : z < 8) (gl : List TxL) (rl : Nat → List TxL) (m c jd b : Int32) (G : Nat) : JEq (JPc W gl rl m k z c jd b G) (JPc W' gl rl m k z c jd b G) := by
  refine ⟨h.ch, mGc_eq h m gl, ?_, ?_, fun t s hs => ?_, ?_, rfl, rfl, rfl, fun j s => ?_⟩
  · show c * (100 - W' (1106 + 34 * k + 1)) / 100 = c * (100 - W (1106 + 34 * k + 1)) / 100
    rw [h _ (nR_lo hk (by omega))]
  · show W' (10 + z) + c = W (10 + z) + c
    rw [h.lo (by omega)]
  · show mLT W' (mGc W' m gl) t s = mLT W (mGc W m gl) t s
    rw [mGc_eq h]; exact mLT_eq h _ t s hs
  · show mT W' = mT W
    unfold mT; rw [h.lo (by omega)]
  · show txDo (mFc m (W' 7) s j (W' (10 + z)) (wLa W' k)) _ = txDo (mFc m (W 7) s j (W (10 + z)) (wLa W k)) _
    unfold wLa
    rw [h.lo (show 7 < 1108 by omega), h.lo (show 10 + z < 1108 by omega), h _ (nR_lo hk (by omega))]
def pX (W : Nat → Int32) (gl : List TxL) (rl : Nat → List TxL) (m : Int32) (k : Nat) (jd b c : Int32) (s : Nat) : Bool :=
  decide ((jw (JPc W gl rl m k (s / 4) c jd b (mG W)) 0 s).toInt < (mLT W (mGc W m gl) (mT W) s).toInt)
theorem pF_X {W W1 : Nat → Int32} (h : WEq W W1) {k : Nat} (hk : k < 6) (gl : List TxL) (rl : Nat → List TxL) (m told jd b : Int32) {s : Nat} (hs : s < 32) : pF W1 gl rl m k told jd b s = pX W gl rl m k jd b (wCd W1 k told) s := by
  have eG : mG W1 = mG W := by unfold mG; rw [h.lo (by omega)]
  have eT : mT W1 = mT W := by unfold mT; rw [h.lo (by omega)]
  unfold pF pX
  rw [mJP_c, eG, eT, mGc_eq h, mLT_eq h _ _ s hs]
  have e : jWo (JPc W1 gl rl m k (s / 4) (wCd W1 k told) jd b (mG W)) (mG W - 0) s = jWo (JPc W gl rl m k (s / 4) (wCd W1 k told) jd b (mG W)) (mG W - 0) s := jWo_cg (JPc_eq h hk (by omega) gl rl m (wCd W1 k told) jd b (mG W)) (mG W - 0) s hs
  unfold jw
  rw [show jG (JPc W1 gl rl m k (s / 4) (wCd W1 k told) jd b (mG W)) = mG W from rfl, show jG (JPc W gl rl m k (s / 4) (wCd W1 k told) jd b (mG W)) = mG W from rfl, e]
theorem JPc_b {W : Nat → Int32} (hW : WB W) {k z : Nat} (hk : k < mN W) (hz : z < 8) {c : Int32} (hc : 0 ≤ c.toInt ∧ c.toInt ≤ 41967) (gl : List TxL) (rl : Nat → List TxL) (m jd b : Int32) : ZB (JPc W gl rl m k z c jd b (mG W)) ∧ (jaf (JPc W gl rl m k z c jd b (mG W))).toInt = c.toInt * (100 - zW W (1106 + 34 * k + 1)) / 100 ∧ (jsw (JPc W gl rl m k z c jd b (mG W))).toInt = zW W (10 + z) + c.toInt := by
  have f := (hW.2.2.2.2.2.2.1 k hk).2.1
  have d := hW.2.2.1 z hz
  have p1 : 0 ≤ c.toInt * (100 - zW W (1106 + 34 * k + 1)) := Int.mul_nonneg hc.1 (by omega)
  have p2 : c.toInt * (100 - zW W (1106 + 34 * k + 1)) ≤ c.toInt * 100 := Int.mul_le_mul_of_nonneg_left (by omega) hc.1
  have e : c * (100 - W (1106 + 34 * k + 1)) = zI (c.toInt * (100 - zW W (1106 + 34 * k + 1))) := by
    rw [zI_mul, zI_sub, zW_I, zI_of]; rfl
  have e2 : (c * (100 - W (1106 + 34 * k + 1)) / 100).toInt = c.toInt * (100 - zW W (1106 + 34 * k + 1)) / 100 := by
    rw [e, lg_idiv_nonneg (by rw [zI_T (by omega) (by omega)]; exact p1) (by decide), zI_T (by omega) (by omega)]; rfl
  have e3 : (W (10 + z) + c).toInt = zW W (10 + z) + c.toInt := by
    rw [← zW_I W (10 + z), ← zI_of c, ← zI_add, zI_T (by omega) (by omega), zI_of]
    try rw [zI_T (by omega) (by omega)]
  have e2' : (jaf (JPc W gl rl m k z c jd b (mG W))).toInt = c.toInt * (100 - zW W (1106 + 34 * k + 1)) / 100 := e2
  have e3' : (jsw (JPc W gl rl m k z c jd b (mG W))).toInt = zW W (10 + z) + c.toInt := e3
  refine ⟨⟨hW.1, mGc_b W m gl, ?_, ?_, fun t s _ hs => (mLT_zz hW m gl t s hs).2, hW.T, hW.G⟩, e2', e3'⟩
  · rw [e2']; omega
  · rw [e3']; omega
theorem pX_mono {W : Nat → Int32} (hW : WB W) {k : Nat} (hk : k < mN W) {c c' : Int32} (hc : 0 ≤ c.toInt ∧ c.toInt ≤ 41967) (hc' : 0 ≤ c'.toInt ∧ c'.toInt ≤ 41967) (hle : c.toInt ≤ c'.toInt) (gl : List TxL) (rl : Nat → List TxL) (m jd b : Int32) {s : Nat} (hs : s < 32) (h : pX W gl rl m k jd b c' s = true) : pX W gl rl m k jd b c s = true := by
  have hz : s / 4 < 8 := by omega
  obtain ⟨b1, f1, w1⟩ := JPc_b hW hk hz hc gl rl m jd b
  obtain ⟨b2, f2, w2⟩ := JPc_b hW hk hz hc' gl rl m jd b
  have f := (hW.2.2.2.2.2.2.1 k hk).2.1
  have hmul := Int.mul_le_mul_of_nonneg_right hle (show 0 ≤ 100 - zW W (1106 + 34 * k + 1) by omega)
  have hJ : JLe (JPc W gl rl m k (s / 4) c jd b (mG W)) (JPc W gl rl m k (s / 4) c' jd b (mG W)) := ⟨rfl, rfl, rfl, rfl, rfl, rfl, rfl, rfl, by rw [f1, f2]; omega, by rw [w1, w2]; omega⟩
  have := jWo_m b1 b2 hJ (mG W) s hs
  have h2 := of_decide_eq_true h
  refine decide_eq_true ?_
  have e1 : jw (JPc W gl rl m k (s / 4) c jd b (mG W)) 0 s = jWo (JPc W gl rl m k (s / 4) c jd b (mG W)) (mG W) s := rfl
  have e2 : jw (JPc W gl rl m k (s / 4) c' jd b (mG W)) 0 s = jWo (JPc W gl rl m k (s / 4) c' jd b (mG W)) (mG W) s := rfl
  rw [e2] at h2
  rw [e1]; omega
/-! the class's lesson -/
def LnI (g : GS) (W : Nat → Int32) (gl : List TxL) (rl : Nat → List TxL) (m jd b : Int32) : Prop := ∀ k s, k < mN W → s < 32 →
  (gA g 56 (32 * k + s) = -1 ∨ ∃ c : Int32, (0 ≤ c.toInt ∧ c.toInt ≤ 41967) ∧ gA g 56 (32 * k + s) = c ∧ pX W gl rl m k jd b c s = true) ∧
  (gA g 57 (32 * k + s) = 100000 ∨ ∃ c : Int32, (0 ≤ c.toInt ∧ c.toInt ≤ 41967) ∧ gA g 57 (32 * k + s) = c ∧ pX W gl rl m k jd b c s = false)
def a567b (c : Nat) : Bool := Nat.beq c 56 || Nat.beq c 57
def LnR (g : GS) (W W1 : Nat → Int32) (gl : List TxL) (rl : Nat → List TxL) (m jd b : Int32) (q : Option CD) (R : Nat → Int32) : Prop :=
  BO g W1 gl rl m (mT W) (mG W) jd b q ∧ WB W1 ∧ WEq W W1 ∧ LnI g W gl rl m jd b ∧ gA g 55 = R
theorem ly_567 (g : GS) (so z card : Int32) (q : Option CD) (G : Nat) : ∀ c, c = 55 ∨ c = 56 ∨ c = 57 → gA (lyAll g so z card q G) c = gA g c := by
  intro c hc
  have ha : aDc c = false := by rcases hc with rfl | rfl | rfl <;> rfl
  have e : ∀ j (x : GS), gA (lyD q j x) c = gA x c := by
    intro j
    induction j with
    | zero => intro x; exact itN_inv (f := lyF q 0) (fun y => gA y c = gA x c) (fun n y hy => ((dc_fr y _ _ q).2.1 c ha).trans hy) 32 rfl
    | succ j ih => intro x; exact (ih _).trans (itN_inv (f := lyF q (j + 1)) (fun y => gA y c = gA x c) (fun n y hy => ((dc_fr y _ _ q).2.1 c ha).trans hy) 32 rfl)
  rcases hc with rfl | rfl | rfl <;> exact (e G _).trans rfl
theorem WEq.N {W W1 : Nat → Int32} (h : WEq W W1) : mN W1 = mN W := by unfold mN; rw [h.lo (by omega)]
theorem WEq.T {W W1 : Nat → Int32} (h : WEq W W1) : mT W1 = mT W := by unfold mT; rw [h.lo (by omega)]
theorem WEq.G {W W1 : Nat → Int32} (h : WEq W W1) : mG W1 = mG W := by unfold mG; rw [h.lo (by omega)]
theorem lw_z {g : GS} {W W1 : Nat → Int32} {gl : List TxL} {rl : Nat → List TxL} {m jd b : Int32} {q : Option CD} {R : Nat → Int32} (h : LnR g W W1 gl rl m jd b q R) (hW : WB W) {k s : Nat} (hk : k < mN W) (hs : s < 32) :
    lwR g (nI k) (nI s) q (mG W) = pX W gl rl m k jd b (wCd W1 k (wTo W1 k)) s ∧ LnR (lwG g (nI k) (nI s) q (mG W)) W W1 gl rl m jd b q R := by
  obtain ⟨hB, hW1, hE, hL, hR⟩ := h
  have h6 := hW.2.2.2.2.2.1.1
  have hk1 : k < mN W1 := by rw [hE.N]; exact hk
  have cb := wCd_b hW1 hk1 (hW1.to hk1)
  have ec := bk_cn_z hB.2.1 hW1 hk1
  have ed : nI s / 4 = nI (s / 4) := nId (by omega) (by omega) rfl (nIc 4)
  obtain ⟨l1, l2⟩ := hB.lay hW1 (by rw [hE.T]; exact Nat.le_refl _) hW.G hk1 (show s / 4 < 8 by omega) (hW1.to hk1) ec
  have hbb := mJP_b hW1 hk1 (show s / 4 < 8 by omega) (hW1.to hk1) hW.G gl rl m jd b
  have hgn := (l1.gain hW1 (by rw [hE.T]; exact Nat.le_refl _) hW.T hbb l2 hs).2
  have hpX := pF_X hE (show k < 6 by omega) gl rl m (wTo W1 k) jd b hs
  have hgX : gnI (lyAll g (nI k) (nI (s / 4)) (bk_cn g 20 (nI k)) q (mG W)) (nI s) ≤ 0 ↔ pX W gl rl m k jd b (wCd W1 k (wTo W1 k)) s = false := by
    rw [← hpX]
    unfold pF
    rw [hE.G, decide_eq_false_iff_not]
    exact hgn
  have eY : lwY g (nI k) (nI s) q (mG W) = lyAll g (nI k) (nI (s / 4)) (bk_cn g 20 (nI k)) q (mG W) := by unfold lwY; rw [ed]
  obtain ⟨p1, p2⟩ := hL k s hk hs
  have e56 : rAt 192 (gA g 56) (32 * nI k + nI s) = gA g 56 (32 * k + s) := by rw [i32n, rAt_in (by omega) (by omega)]
  have e57 : rAt 192 (gA g 57) (32 * nI k + nI s) = gA g 57 (32 * k + s) := by rw [i32n, rAt_in (by omega) (by omega)]
  have hmn := fun (c c' : Int32) (hc : 0 ≤ c.toInt ∧ c.toInt ≤ 41967) (hc' : 0 ≤ c'.toInt ∧ c'.toInt ≤ 41967) (hle : c.toInt ≤ c'.toInt) => pX_mono hW hk hc hc' hle gl rl m jd b hs
  unfold lwR lwG
  rw [e56, e57, ec, eY, ec]
  rw [ec] at hgX l1 l2
  generalize hc : wCd W1 k (wTo W1 k) = c at cb hgX l1 l2 ⊢
  by_cases c1 : gA g 56 (32 * k + s) < c
  · rw [if_pos c1, if_pos c1]
    by_cases c2 : c < gA g 57 (32 * k + s)
    · rw [if_pos c2, if_pos c2]
      have k567 := ly_567 g (nI k) (nI (s / 4)) c q (mG W)
      have hl56 := k567 56 (by omega)
      have hl57 := k567 57 (by omega)
      have hl55 := k567 55 (by omega)
      generalize lyAll g (nI k) (nI (s / 4)) c q (mG W) = y at l1 l2 hgX hl56 hl57 hl55
      by_cases d : gnI y (nI s) ≤ 0
      · have hf := hgX.mp d
        rw [if_pos d, if_pos d]
        refine ⟨hf.symm, l1.f6 (f := f0) (a := a567b) (Fr.rf.sA rfl) (fun _ => rfl) (fun c hc => ?_) (Fr.rf.sA rfl), hW1, hE, fun k' s' hk' hs' => ?_, hl55.trans hR⟩
        · rcases hc with rfl | rfl | rfl | rfl | rfl | rfl | rfl | rfl | rfl <;> rfl
        · show (gA y 56 (32 * k' + s') = -1 ∨ _) ∧ ((rPut 192 (gA y 57) (32 * nI k + nI s) c) (32 * k' + s') = 100000 ∨ ∃ c0 : Int32, _ ∧ (rPut 192 (gA y 57) (32 * nI k + nI s) c) (32 * k' + s') = c0 ∧ _)
          rw [i32n, rPut_in (by omega) (by omega)]
          obtain ⟨u1, u2⟩ := hL k' s' hk' hs'
          refine ⟨?_, ?_⟩
          · show (gA y 56 (32 * k' + s') = -1 ∨ ∃ c : Int32, (0 ≤ c.toInt ∧ c.toInt ≤ 41967) ∧ gA y 56 (32 * k' + s') = c ∧ pX W gl rl m k' jd b c s' = true)
            rw [hl56]; exact u1
          · by_cases e : 32 * k' + s' = 32 * k + s
            · have e1 : k' = k := by omega
              have e2 : s' = s := by omega
              subst e1; subst e2
              exact Or.inr ⟨c, cb, upd_here _ _ _, hf⟩
            · rw [upd_other e, hl57]; exact u2
      · have hf : pX W gl rl m k jd b c s = true := by
          cases hx : pX W gl rl m k jd b c s with
          | false => exact absurd (hgX.mpr hx) d
          | true => rfl
        rw [if_neg d, if_neg d]
        refine ⟨hf.symm, l1.f6 (f := f0) (a := a567b) (Fr.rf.sA rfl) (fun _ => rfl) (fun c hc => ?_) (Fr.rf.sA rfl), hW1, hE, fun k' s' hk' hs' => ?_, hl55.trans hR⟩
        · rcases hc with rfl | rfl | rfl | rfl | rfl | rfl | rfl | rfl | rfl <;> rfl
        · show ((rPut 192 (gA y 56) (32 * nI k + nI s) c) (32 * k' + s') = -1 ∨ ∃ c0 : Int32, _ ∧ (rPut 192 (gA y 56) (32 * nI k + nI s) c) (32 * k' + s') = c0 ∧ _) ∧ (gA y 57 (32 * k' + s') = 100000 ∨ _)
          rw [i32n, rPut_in (by omega) (by omega)]
          obtain ⟨u1, u2⟩ := hL k' s' hk' hs'
          refine ⟨?_, ?_⟩
          · by_cases e : 32 * k' + s' = 32 * k + s
            · have e1 : k' = k := by omega
              have e2 : s' = s := by omega
              subst e1; subst e2
              exact Or.inr ⟨c, cb, upd_here _ _ _, hf⟩
            · rw [upd_other e, hl56]; exact u1
          · show (gA y 57 (32 * k' + s') = 100000 ∨ ∃ c : Int32, (0 ≤ c.toInt ∧ c.toInt ≤ 41967) ∧ gA y 57 (32 * k' + s') = c ∧ pX W gl rl m k' jd b c s' = false)
            rw [hl57]; exact u2
    · rw [if_neg c2, if_neg c2]
      refine ⟨?_, hB, hW1, hE, hL, hR⟩
      have hle : (gA g 57 (32 * k + s)).toInt ≤ c.toInt := by
        have : ¬ c.toInt < (gA g 57 (32 * k + s)).toInt := fun z => c2 (Int32.lt_iff_toInt_lt.mpr z)
        omega
      rcases p2 with p | ⟨c', b', e', f'⟩
      · rw [p, show (100000 : Int32).toInt = 100000 from rfl] at hle; omega
      · rw [e'] at hle
        cases hx : pX W gl rl m k jd b c s with
        | false => rfl
        | true => rw [hmn c' c b' cb hle hx] at f'; cases f'
  · rw [if_neg c1, if_neg c1]
    refine ⟨?_, hB, hW1, hE, hL, hR⟩
    have hle : c.toInt ≤ (gA g 56 (32 * k + s)).toInt := by
      have : ¬ (gA g 56 (32 * k + s)).toInt < c.toInt := fun z => c1 (Int32.lt_iff_toInt_lt.mpr z)
      omega
    rcases p1 with p | ⟨c', b', e', f'⟩
    · rw [p, show (-1 : Int32).toInt = -1 from rfl] at hle; omega
    · rw [e'] at hle
      exact (hmn c c' cb b' hle f').symm
