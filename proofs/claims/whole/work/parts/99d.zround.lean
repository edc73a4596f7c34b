
/-! rounds of learning -/
def rIx (k s : Nat) : Nat := 1106 + 34 * k + (2 + s)
theorem rIx_inj {k s k' s' : Nat} (hs : s < 32) (hs' : s' < 32) (h : rIx k s = rIx k' s') : k = k' ∧ s = s' := by
  unfold rIx at h; omega
theorem WB.eq {W W' : Nat → Int32} (hW : WB W) (h : WEq W W') (hr : ∀ k s, k < mN W → s < 32 → 0 ≤ zW W' (rIx k s) ∧ zW W' (rIx k s) ≤ 999) : WB W' := by
  obtain ⟨a1, a2, a3, a4, a5, a6, a7, a8, a9, a10, a11, a12, a13⟩ := hW
  have z : ∀ i, i < 1108 → zW W' i = zW W i := fun i hi => by unfold zW; rw [h.lo hi]
  have eR : mR W' = mR W := by unfold mR; rw [h.lo (by omega)]
  refine ⟨fun s hs => ?_, ?_, fun z' hz => ?_, ?_, ?_, ?_, fun k hk => ?_, ?_, ?_, ?_, ?_, ?_, ?_⟩
  · obtain ⟨c1, c2⟩ := a1 s hs
    refine ⟨fun k hk => by rw [zC_cg h.ch hs hk]; exact c1 k hk, ?_⟩
    rw [zS_congr 34 (fun i hi => zC_cg h.ch hs hi)]; exact c2
  · unfold LB; rw [z 8 (by omega)]; exact a2
  · rw [z _ (by omega)]; exact a3 z' hz
  · rw [z _ (by omega)]; exact a4
  · rw [NZ_cg h.ch 32 (Nat.le_refl _)]; exact a5
  · rw [h.N, h.lo (show 2 < 1108 by omega)]; exact a6
  · rw [h.N] at hk
    obtain ⟨b1, b2, b3⟩ := a7 k hk
    have u : ∀ i, i < 2 → zW W' (1106 + 34 * k + i) = zW W (1106 + 34 * k + i) := fun i hi => by unfold zW; rw [h _ (nR_lo (by omega) hi)]
    rw [u 0 (by omega), u 1 (by omega)]
    exact ⟨b1, b2, fun s hs => hr k s hk hs⟩
  · rw [z _ (by omega)]; exact a8
  · rw [z _ (by omega)]; exact a9
  · rw [h.G, h.lo (show 4 < 1108 by omega)]; exact a10
  · rw [h.T, h.lo (show 5 < 1108 by omega)]; exact a11
  · rw [eR, h.lo (show 1 < 1108 by omega)]; exact a12
  · rw [z _ (by omega)]; exact a13
theorem BkQ.up {g : GS} {W : Nat → Int32} (hB : BkQ g W) (hN : mN W ≤ 6) {k s : Nat} (hk : k < mN W) (hs : s < 32) (v : Int32) : BkQ (sA g 25 (upd (gA g 25) (32 * k + s) v)) (upd W (rIx k s) v) := by
  have h : WEq W (upd W (rIx k s) v) := WEq.up (isR_at (by omega) hs)
  obtain ⟨b1, b2, b3, b4, b5, b6, b7, b8, b9, b10, b11, b12, b13⟩ := hB
  refine ⟨fun s k hs hk => ?_, fun z hz => ?_, fun k' hk' => ⟨?_, ?_, fun s' hs' => ?_⟩, fun p hp hp2 => ?_, ?_, ?_, ?_, ?_, ?_, ?_, ?_, ?_, ?_⟩
  · rw [h.lo (by omega)]; exact b1 s k hs hk
  · rw [h.lo (by omega)]; exact b2 z hz
  · rw [h.N] at hk'; rw [h _ (nR_lo (by omega) (by omega))]; exact (b3 k' hk').1
  · rw [h.N] at hk'; rw [h _ (nR_lo (by omega) (by omega))]; exact (b3 k' hk').2.1
  · rw [h.N] at hk'
    show upd (gA g 25) (32 * k + s) v (32 * k' + s') = upd W (rIx k s) v (rIx k' s')
    by_cases e : 32 * k' + s' = 32 * k + s
    · have e1 : k' = k := by omega
      have e2 : s' = s := by omega
      subst e1; subst e2
      rw [upd_here, upd_here]
    · rw [upd_other e, upd_other (fun z => e (by have := rIx_inj hs' hs z; omega))]
      exact (b3 k' hk').2.2 s' hs'
  · rw [h.N] at hp
    show upd (gA g 25) (32 * k + s) v p = 0
    rw [upd_other (by omega)]; exact b4 p hp hp2
  all_goals (rw [h.lo (by omega)]; assumption)
def ZbX (W : Nat → Int32) (gl : List TxL) (rl : Nat → List TxL) (m : Int32) (k : Nat) (jd b card bits : Int32) : Prop := card = -1 ∨ ((0 ≤ card.toInt ∧ card.toInt ≤ 41967) ∧ ∀ s, s < 32 → zb bits s = pX W gl rl m k jd b card s)
theorem lrB_z {W W1 : Nat → Int32} {gl : List TxL} {rl : Nat → List TxL} {m jd b : Int32} (hW1 : WB W1) (hE : WEq W W1) {k : Nat} (hk : k < mN W) {card bits : Int32} (hv : ZbX W gl rl m k jd b card bits) : ∀ s, s < 32 → zb (lrB gl rl m jd b k W1 card bits) s = pX W gl rl m k jd b (wCd W1 k (wTo W1 k)) s := by
  intro s hs
  have hk1 : k < mN W1 := by rw [hE.N]; exact hk
  have h6 := hW1.2.2.2.2.2.1.1
  have cb := wCd_b hW1 hk1 (hW1.to hk1)
  unfold lrB
  by_cases c : card = wCd W1 k (wTo W1 k)
  · rw [if_pos c]
    rcases hv with h | h
    · rw [h] at c
      rw [← c, show (-1 : Int32).toInt = -1 from rfl] at cb; omega
    · rw [← c]; exact h.2 s hs
  · rw [if_neg c, zb_orI W1 gl rl m k (wTo W1 k) jd b hs 32 (Nat.le_refl _), decide_eq_true hs, Bool.true_and]
    exact pF_X hE (by omega) gl rl m (wTo W1 k) jd b hs
theorem lrS_z {W W1 : Nat → Int32} {gl : List TxL} {rl : Nat → List TxL} {m jd b : Int32} {q : Option CD} {R : Nat → Int32} (hW : WB W) {k s : Nat} (hk : k < mN W) (hs : s < 32) {p : Bool × GS} {card bits : Int32} (h : LnR p.2 W W1 gl rl m jd b q R) (hv : ZbX W gl rl m k jd b card bits) :
    (lrS q (mG W) k s p).1 = (mlrS gl rl m jd b k s (W1, p.1, card, bits)).2.1 ∧ LnR (lrS q (mG W) k s p).2 W (mlrS gl rl m jd b k s (W1, p.1, card, bits)).1 gl rl m jd b q R ∧ ZbX W gl rl m k jd b (mlrS gl rl m jd b k s (W1, p.1, card, bits)).2.2.1 (mlrS gl rl m jd b k s (W1, p.1, card, bits)).2.2.2 := by
  have h6 := hW.2.2.2.2.2.1.1
  have hk1 : k < mN W1 := by rw [h.2.2.1.N]; exact hk
  have hrt := bk_rt_z h.1.2.1 h.2.1 hk1 hs
  have hrb := (h.2.1.2.2.2.2.2.2.1 k hk1).2.2 s hs
  have eI : 1106 + 34 * k + (2 + s) = rIx k s := rfl
  rw [eI] at hrt hrb
  unfold mlrS
  dsimp only
  rw [eI]
  by_cases c : W1 (rIx k s) = 0
  · rw [if_pos c, lrS_no (by rw [hrt, c]; decide)]
    exact ⟨rfl, h, hv⟩
  · have hpos : 1 ≤ zW W1 (rIx k s) := by
      have : ¬ zW W1 (rIx k s) = 0 := fun z => c (Int32.toInt_inj.mp (by rw [Int32.toInt_zero]; exact z))
      omega
    have nle : ¬ bk_rt p.2 20 (nI k) (nI s) ≤ 0 := by
      rw [hrt]
      intro z
      have := Int32.le_iff_toInt_le.mp z
      rw [Int32.toInt_zero] at this
      have e : (W1 (rIx k s)).toInt = zW W1 (rIx k s) := rfl
      omega
    obtain ⟨w1, w2⟩ := lw_z h hW hk hs
    have hB := lrB_z h.2.1 h.2.2.1 hk hv s hs
    have hk1' := wCd_b h.2.1 hk1 (h.2.1.to hk1)
    rw [if_neg c]
    generalize hbits : lrB gl rl m jd b k W1 card bits = bits' at hB
    have eN : lrN p.2 k s q (mG W) = mlrT W1 (rIx k s) s bits' := by
      unfold lrN mlrT
      rw [hrt, w1, ← hB]
      cases hx : zb bits' s with
      | false => rw [if_pos rfl, if_pos (fun z => by have := (sar_1 bits' hs).mp z; rw [hx] at this; cases this)]
      | true => rw [if_neg (by decide), if_neg (fun z => z ((sar_1 bits' hs).mpr hx))]
    have eS := lrS_yes (q := q) (G := mG W) nle (rfl : lwG p.2 (nI k) (nI s) q (mG W) = _) eN rfl rfl
    rw [eS, hrt]
    have hnew : 0 ≤ (mlrT W1 (rIx k s) s bits').toInt ∧ (mlrT W1 (rIx k s) s bits').toInt ≤ 999 := by
      unfold mlrT
      split
      · rw [← zW_I W1 (rIx k s), show (1 : Int32) = zI 1 from rfl, ← zI_sub, zI_T (by omega) (by omega)]; omega
      · rw [← zW_I W1 (rIx k s), show (1 : Int32) = zI 1 from rfl, ← zI_add, show (999 : Int32) = zI 999 from rfl, mnI_z (by omega) (by omega) (by omega) (by omega), zI_T (by omega) (by omega)]; omega
    unfold lrU
    rw [eI]
    generalize mlrT W1 (rIx k s) s bits' = v at hnew ⊢
    obtain ⟨hO, hW1, hE, hL, hR⟩ := w2
    have hE2 : WEq W1 (upd W1 (rIx k s) v) := WEq.up (isR_at (by omega) hs)
    have hsr : bk_sr (lwG p.2 (nI k) (nI s) q (mG W)) 20 (nI k) (nI s) v = sA (lwG p.2 (nI k) (nI s) q (mG W)) 25 (upd (gA (lwG p.2 (nI k) (nI s) q (mG W)) 25) (32 * k + s) v) := by
      unfold bk_sr
      rw [i32n, rPut_in (by omega) (by omega)]
    rw [hsr]
    generalize lwG p.2 (nI k) (nI s) q (mG W) = y at hO hL hR
    refine ⟨?_, ⟨⟨?_, ?_, hO.2.2.1, hO.2.2.2.1.fr rfl rfl rfl rfl, hO.2.2.2.2⟩, hW1.eq hE2 ?_, hE.tr hE2, hL, hR⟩, ?_⟩
    · show (p.1 || (if v = W1 (rIx k s) then false else true)) = (p.1 || !decide (v = W1 (rIx k s)))
      by_cases d : v = W1 (rIx k s)
      · rw [if_pos d, decide_eq_true d]; rfl
      · rw [if_neg d, decide_eq_false d]; rfl
    · exact (hO.1.fr (fun c hc => by rcases hc with rfl | rfl | rfl | rfl | rfl | rfl | rfl <;> rfl) rfl (fun i _ => rfl)).eq hE2
    · exact hO.2.1.up (by rw [hE.N]; omega) (by rw [hE.N]; exact hk) hs v
    · intro k' s' hk' hs'
      show 0 ≤ (upd W1 (rIx k s) v (rIx k' s')).toInt ∧ (upd W1 (rIx k s) v (rIx k' s')).toInt ≤ 999
      by_cases d : rIx k' s' = rIx k s
      · rw [d, upd_here]; exact hnew
      · rw [upd_other d]; exact (hW1.2.2.2.2.2.2.1 k' hk').2.2 s' hs'
    · exact Or.inr ⟨hk1', fun s' hs' => by rw [← hbits]; exact lrB_z hW1 hE hk hv s' hs'⟩
theorem lrJ_snoc (gl : List TxL) (rl : Nat → List TxL) (m jd b : Int32) (k : Nat) : ∀ (f s : Nat) (p : LRP), lrJ gl rl m jd b k (f + 1) s p = mlrS gl rl m jd b k (s + f) (lrJ gl rl m jd b k f s p)
  | 0, s, p => rfl
  | f + 1, s, p => by
    show lrJ gl rl m jd b k (f + 1) (s + 1) (mlrS gl rl m jd b k s p) = mlrS gl rl m jd b k (s + (f + 1)) (lrJ gl rl m jd b k f (s + 1) (mlrS gl rl m jd b k s p))
    rw [lrJ_snoc gl rl m jd b k f (s + 1), show s + 1 + f = s + (f + 1) by omega]
theorem lrJ_z {W W1 : Nat → Int32} {gl : List TxL} {rl : Nat → List TxL} {m jd b : Int32} {q : Option CD} {R : Nat → Int32} (hW : WB W) {k : Nat} (hk : k < mN W) {p : Bool × GS} (h : LnR p.2 W W1 gl rl m jd b q R) : ∀ n, n ≤ 32 →
    (itN (lrS q (mG W) k) n p).1 = (lrJ gl rl m jd b k n 0 (W1, p.1, -1, 0)).2.1 ∧ LnR (itN (lrS q (mG W) k) n p).2 W (lrJ gl rl m jd b k n 0 (W1, p.1, -1, 0)).1 gl rl m jd b q R ∧ ZbX W gl rl m k jd b (lrJ gl rl m jd b k n 0 (W1, p.1, -1, 0)).2.2.1 (lrJ gl rl m jd b k n 0 (W1, p.1, -1, 0)).2.2.2
  | 0, _ => ⟨rfl, h, Or.inl rfl⟩
  | n + 1, hn => by
    obtain ⟨i1, i2, i3⟩ := lrJ_z hW hk h n (by omega)
    rw [itN_p, lrJ_snoc, Nat.zero_add]
    have r := lrS_z hW hk (show n < 32 by omega) i2 i3
    rw [i1] at r
    exact r
theorem lrK_snoc (gl : List TxL) (rl : Nat → List TxL) (m jd b : Int32) : ∀ (f k : Nat) (W : Nat → Int32) (o : Bool), lrK gl rl m jd b (f + 1) k W o = ((lrJ gl rl m jd b (k + f) 32 0 ((lrK gl rl m jd b f k W o).1, (lrK gl rl m jd b f k W o).2, -1, 0)).1, (lrJ gl rl m jd b (k + f) 32 0 ((lrK gl rl m jd b f k W o).1, (lrK gl rl m jd b f k W o).2, -1, 0)).2.1)
  | 0, k, W, o => by
    rw [lrK.eq_2, lrK.eq_1, lrK.eq_1]
    dsimp only [Nat.add_zero]
  | f + 1, k, W, o => by
    rw [lrK.eq_2, lrK_snoc gl rl m jd b f (k + 1), lrK.eq_2, show k + 1 + f = k + (f + 1) by omega]
theorem lrK_z {W W1 : Nat → Int32} {gl : List TxL} {rl : Nat → List TxL} {m jd b : Int32} {q : Option CD} {R : Nat → Int32} (hW : WB W) {g : GS} (h : LnR g W W1 gl rl m jd b q R) : ∀ n, n ≤ mN W →
    (itN (lrT q (mG W)) n (false, g)).1 = (lrK gl rl m jd b n 0 W1 false).2 ∧ LnR (itN (lrT q (mG W)) n (false, g)).2 W (lrK gl rl m jd b n 0 W1 false).1 gl rl m jd b q R
  | 0, _ => ⟨rfl, h⟩
  | n + 1, hn => by
    obtain ⟨i1, i2⟩ := lrK_z hW h n (by omega)
    rw [itN_p, lrT_e, lrK_snoc, Nat.zero_add, ← i1]
    obtain ⟨j1, j2, -⟩ := lrJ_z hW (show n < mN W by omega) i2 32 (Nat.le_refl _)
    generalize lrJ gl rl m jd b n 32 0 ((lrK gl rl m jd b n 0 W1 false).1, (itN (lrT q (mG W)) n (false, g)).1, -1, 0) = L at j1 j2 ⊢
    exact ⟨j1, j2⟩
theorem leR_z {W : Nat → Int32} {gl : List TxL} {rl : Nat → List TxL} {m jd b : Int32} {q : Option CD} {g0 : GS} (hW : WB W) (hB0 : BkQ g0 W) : ∀ (k i : Nat) {W1 : Nat → Int32} {g : GS}, LnR g W W1 gl rl m jd b q (gA g0 25) →
    (leR q (mG W) (mN W) k i g).1 = (lnF gl rl m jd b W k i W1).1 ∧ BkQ (leR q (mG W) (mN W) k i g).2 (lnF gl rl m jd b W k i W1).2 ∧ WB (lnF gl rl m jd b W k i W1).2 ∧ Z0 (leR q (mG W) (mN W) k i g).2 ∧ WEq W (lnF gl rl m jd b W k i W1).2
  | 0, i, W1, g, h => by
    obtain ⟨hO, hW1, hE, hL, hR⟩ := h
    have h6 := hW.2.2.2.2.2.1.1
    refine ⟨rfl, (?_ : BkQ (luG g) W), hW, hO.2.2.2.2, WEq.rf⟩
    have e25 : ∀ p, p < 192 → gA (luG g) 25 p = gA g0 25 p := fun p hp => by
      show rCopy 192 192 (gA g 55) (gA g 25) p = _
      rw [hR]
      exact if_pos ⟨hp, hp⟩
    obtain ⟨b1, b2, b3, b4, b5, b6, b7, b8, b9, b10, b11, b12, b13⟩ := hO.2.1
    obtain ⟨c1, c2, c3, c4, -⟩ := hB0
    refine ⟨fun s k hs hk => ?_, fun z hz => ?_, fun k hk => ⟨?_, ?_, fun s hs => ?_⟩, fun p hp hp2 => ?_, ?_, ?_, ?_, ?_, ?_, ?_, ?_, ?_, ?_⟩
    · show gA g 21 (34 * s + k) = _
      rw [b1 s k hs hk, hE.lo (by omega)]
    · show gA g 22 z = _
      rw [b2 z hz, hE.lo (by omega)]
    · show gA g 23 k = _
      rw [(b3 k (by rw [hE.N]; exact hk)).1, hE _ (nR_lo (by omega) (by omega))]
    · show gA g 24 k = _
      rw [(b3 k (by rw [hE.N]; exact hk)).2.1, hE _ (nR_lo (by omega) (by omega))]
    · rw [e25 _ (by omega)]; exact (c3 k hk).2.2 s hs
    · rw [e25 p hp2]; exact c4 p hp hp2
    · exact b5.trans (hE.lo (by omega))
    · exact b6.trans (hE.lo (by omega))
    · exact b7.trans (hE.lo (by omega))
    · exact b8.trans (hE.lo (by omega))
    · exact b9.trans (hE.lo (by omega))
    · exact b10.trans (hE.lo (by omega))
    · exact b11.trans (hE.lo (by omega))
    · exact b12.trans (hE.lo (by omega))
    · exact b13.trans (hE.lo (by omega))
  | k + 1, i, W1, g, h => by
    obtain ⟨r1, r2⟩ := lrK_z hW h (mN W) (Nat.le_refl _)
    unfold leR lnF
    rw [r1]
    by_cases c : (lrK gl rl m jd b (mN W) 0 W1 false).2 = false
    · rw [if_neg (by rw [c]; decide), if_pos c]
      exact ⟨rfl, r2.1.2.1, r2.2.1, r2.1.2.2.2.2, r2.2.2.1⟩
    · rw [if_pos (by cases hx : (lrK gl rl m jd b (mN W) 0 W1 false).2 with | false => exact absurd hx c | true => rfl), if_neg c]
      exact leR_z hW hB0 k (i + 1) r2
def a567c (c : Nat) : Bool := Nat.beq c 55 || a567b c
theorem a567_c (c : Nat) (h : a567c c = false) : a567b c = false := by
  unfold a567c at h
  exact (Bool.or_eq_false_iff.mp h).2
theorem lb_z (g : GS) : ∀ n, n ≤ 192 → (∀ p, p < n → gA (itN lbS n (lb0 g)) 56 p = -1 ∧ gA (itN lbS n (lb0 g)) 57 p = 100000) ∧ Fr f0 a567b (lb0 g) (itN lbS n (lb0 g))
  | 0, _ => ⟨fun p hp => by omega, Fr.rf⟩
  | n + 1, hn => by
    obtain ⟨i1, i2⟩ := lb_z g n (by omega)
    rw [itN_p]
    generalize itN lbS n (lb0 g) = y at i1 i2
    refine ⟨fun p hp => ?_, (i2.sA rfl).sA rfl⟩
    show rPut 192 (gA y 56) (nI n) (-1) p = -1 ∧ rPut 192 (gA y 57) (nI n) 100000 p = 100000
    rw [rPut_in (by omega) (by omega), rPut_in (by omega) (by omega)]
    by_cases d : p = n
    · subst d; exact ⟨upd_here _ _ _, upd_here _ _ _⟩
    · rw [upd_other d, upd_other d]; exact i1 p (by omega)
theorem v_learn {g : GS} {W : Nat → Int32} {gl : List TxL} {rl : Nat → List TxL} {q q2 : Option CD} (h : CQ g W gl q) {jd : Int32} (hj : JdQ q2 rl jd) (b : Int32) :
    (leA g jd b q q2 (mT W) (mG W) (mN W)).1 = (lnF gl rl (W 6) jd b W 61 0 W).1 ∧ BkQ (leA g jd b q q2 (mT W) (mG W) (mN W)).2 (lnF gl rl (W 6) jd b W 61 0 W).2 ∧ WB (lnF gl rl (W 6) jd b W 61 0 W).2 ∧ Z0 (leA g jd b q q2 (mT W) (mG W) (mN W)).2 ∧ WEq W (lnF gl rl (W 6) jd b W 61 0 W).2 := by
  have hW := h.2.1
  have h6 := hW.2.2.2.2.2.1.1
  have hB := seG_B h hj b
  obtain ⟨l1, l2⟩ := lb_z (seG g jd b q (mT W)) 192 (Nat.le_refl _)
  have hk : KF (seG g jd b q (mT W)) (lbAll (seG g jd b q (mT W))) := kf_lb Fr.rf
  have hl2 : Fr f0 a567b (lb0 (seG g jd b q (mT W))) (lbAll (seG g jd b q (mT W))) := l2
  have hB2 : BO (lbAll (seG g jd b q (mT W))) W gl rl (W 6) (mT W) (mG W) jd b q2 := by
    have f1 : Fr f0 a567c (seG g jd b q (mT W)) (lbAll (seG g jd b q (mT W))) := (Fr.rf.sA (c := 55) rfl : Fr f0 a567c (seG g jd b q (mT W)) (lb0 (seG g jd b q (mT W)))).tr (hl2.mono (fun _ _ e => e) a567_c)
    exact hB.f6 f1 (fun _ => rfl) (fun c hc => by rcases hc with rfl | rfl | rfl | rfl | rfl | rfl | rfl | rfl | rfl <;> rfl) hk
  have h55 : gA (lbAll (seG g jd b q (mT W))) 55 = rCopy 192 192 (gA (seG g jd b q (mT W)) 25) (gA (seG g jd b q (mT W)) 55) := (hl2.2.1 55 rfl).trans rfl
  have hL : LnR (lbAll (seG g jd b q (mT W))) W W gl rl (W 6) jd b q2 (gA (sA (seG g jd b q (mT W)) 25 (rCopy 192 192 (gA (seG g jd b q (mT W)) 25) (gA (seG g jd b q (mT W)) 55))) 25) := by
    refine ⟨hB2, hW, WEq.rf, fun k s hk hs => ?_, h55⟩
    have := l1 (32 * k + s) (by omega)
    exact ⟨Or.inl this.1, Or.inl this.2⟩
  refine leR_z hW ?_ 61 0 hL
  obtain ⟨b1, b2, b3, b4, b5⟩ := hB.2.1
  have e25 : ∀ p, p < 192 → gA (sA (seG g jd b q (mT W)) 25 (rCopy 192 192 (gA (seG g jd b q (mT W)) 25) (gA (seG g jd b q (mT W)) 55))) 25 p = gA (seG g jd b q (mT W)) 25 p := fun p hp => if_pos ⟨hp, hp⟩
  refine ⟨b1, b2, fun k hk => ⟨(b3 k hk).1, (b3 k hk).2.1, fun s hs => ?_⟩, fun p hp hp2 => ?_, b5⟩
  · rw [e25 _ (by omega)]; exact (b3 k hk).2.2 s hs
  · rw [e25 p hp2]; exact b4 p hp hp2
