
/-! means -/
theorem mnT_z {W : Nat → Int32} {gl : List TxL} {rl : Nat → List TxL} {jd b w : Int32} {k z i : Nat} (hz : z < 8) (hi : i < 4) : mnT W gl rl jd b w (32 * k + 4 * z + i) = (W (1106 + 34 * k + (2 + (4 * z + i)))).toInt64 * eW W (ja (mJP W gl rl (W 6) k z (wTo W k) jd b (mG W))) w (mT W) (mT W) (4 * z + i) := by
  unfold mnT
  rw [show (32 * k + 4 * z + i) / 32 = k by omega, show (32 * k + 4 * z + i) % 32 = 4 * z + i by omega, show (4 * z + i) / 4 = z by omega]
theorem AkS.fr {g g' : GS} {W : Nat → Int32} {w : Int32} {T : Nat} (h : AkS g W w T) (h59 : gA g' 59 = gA g 59) (h4 : gF g' 58 4 = gF g 58 4) (h5 : gF g' 58 5 = gF g 58 5) (h6 : gF g' 58 6 = gF g 58 6) : AkS g' W w T :=
  ⟨by unfold AkR; rw [h59]; exact h.1, h.2.fr h4 h5 h6⟩
theorem ly_59 (g : GS) (so z card : Int32) (q : Option CD) (G : Nat) : gA (lyAll g so z card q G) 59 = gA g 59 ∧ ∀ k, gF (lyAll g so z card q G) 58 k = gF g 58 k := by
  have e : ∀ j (x : GS), gA (lyD q j x) 59 = gA x 59 ∧ ∀ k, gF (lyD q j x) 58 k = gF x 58 k := by
    intro j
    induction j with
    | zero =>
      intro x
      exact itN_inv (f := lyF q 0) (fun y => gA y 59 = gA x 59 ∧ ∀ k, gF y 58 k = gF x 58 k) (fun n y hy => ⟨((dc_fr y _ _ q).2.1 59 rfl).trans hy.1, fun k => ((dc_fr y _ _ q).1 58 k rfl).trans (hy.2 k)⟩) 32 ⟨rfl, fun _ => rfl⟩
    | succ j ih =>
      intro x
      have i := itN_inv (f := lyF q (j + 1)) (fun y => gA y 59 = gA x 59 ∧ ∀ k, gF y 58 k = gF x 58 k) (fun n y hy => ⟨((dc_fr y _ _ q).2.1 59 rfl).trans hy.1, fun k => ((dc_fr y _ _ q).1 58 k rfl).trans (hy.2 k)⟩) 32 ⟨rfl, fun _ => rfl⟩
      have u := ih (itN (lyF q (j + 1)) 32 x)
      exact ⟨u.1.trans i.1, fun k => (u.2 k).trans (i.2 k)⟩
  exact e G _
theorem mo_z {g : GS} {W : Nat → Int32} {gl : List TxL} {rl : Nat → List TxL} {jd b : Int32} {q2 : Option CD} (h : BO g W gl rl (W 6) (mT W) (mG W) jd b q2) (hW : WB W) (hjd : jdOK W jd) (hko : KOK W rl) {w : Int32} (hA : AkS g W w (mT W)) {k z : Nat} (hk : k < mN W) (hz : z < 8) :
    (moV g k z q2 (mG W) (mT W)).1 = sL (fun i => mnT W gl rl jd b w (32 * k + 4 * z + i)) 4 ∧ BO (moV g k z q2 (mG W) (mT W)).2 W gl rl (W 6) (mT W) (mG W) jd b q2 ∧ AkS (moV g k z q2 (mG W) (mT W)).2 W w (mT W) := by
  unfold moV
  by_cases c : arR g (nI k) z 4 0 = true
  · rw [if_pos c]
    obtain ⟨l1, l2⟩ := h.lay hW (Nat.le_refl _) hW.G hk hz (hW.to hk) (bk_cn_z h.2.1 hW hk)
    have a1 : AkS (lyAll g (nI k) (nI z) (bk_cn g 20 (nI k)) q2 (mG W)) W w (mT W) := hA.fr (ly_59 _ _ _ _ _ _).1 ((ly_59 _ _ _ _ _ _).2 4) ((ly_59 _ _ _ _ _ _).2 5) ((ly_59 _ _ _ _ _ _).2 6)
    obtain ⟨s1, s2, s3⟩ := sh_z l1 hW rfl l2 (fun s _ => ja_end hW.2.2.2.2.2.2.2.2.2.2.2.1.1 hjd hko s) a1
    refine ⟨sL_cg 4 (fun i hi => ?_), s2, s3⟩
    rw [mnT_z hz hi]
    have bd := eW_b hW.1 (ja (mJP W gl rl (W 6) k z (wTo W k) jd b (mG W))) w (mT W) (mT W) (4 * z + i) (by omega)
    have e1 := (rate_z s2.2.1 hW hk hz hi).1
    unfold moF sfI
    rw [show bk_rt (moG g k z q2 (mG W) (mT W)) 20 (nI k) (nI (4 * z + i)) = _ from e1, rAt_in (by omega) (by omega)]
    rw [show gA (moG g k z q2 (mG W) (mT W)) 60 (4 * z + i) = _ from s1 (4 * z + i) (by omega), zI_64 (by omega) (by omega), zL_of]
  · rw [if_neg c]
    have h0 := arR_f h.2.1 hW hk hz 4 0 (by omega) c
    refine ⟨?_, h, hA⟩
    rw [sL_zero 4 (fun i hi => by rw [mnT_z hz hi, h0 i (by omega) hi]; exact Int64.zero_mul)]
theorem mnZ_z {W : Nat → Int32} {gl : List TxL} {rl : Nat → List TxL} {jd b : Int32} {q2 : Option CD} (hW : WB W) (hjd : jdOK W jd) (hko : KOK W rl) {w : Int32} {k : Nat} (hk : k < mN W) : ∀ (d z : Nat) (a : Int64) {g : GS}, z + d = 8 → BO g W gl rl (W 6) (mT W) (mG W) jd b q2 → AkS g W w (mT W) → a = acL 0 (mnT W gl rl jd b w) (32 * k + 4 * z) →
    (mnZ q2 (mG W) (mT W) k d z a g).1 = acL 0 (mnT W gl rl jd b w) (32 * (k + 1)) ∧ BO (mnZ q2 (mG W) (mT W) k d z a g).2 W gl rl (W 6) (mT W) (mG W) jd b q2 ∧ AkS (mnZ q2 (mG W) (mT W) k d z a g).2 W w (mT W)
  | 0, z, a, g, hz, h, hA, ha => by
    unfold mnZ
    exact ⟨by rw [ha, show 32 * (k + 1) = 32 * k + 4 * z by omega], h, hA⟩
  | d + 1, z, a, g, hz, h, hA, ha => by
    unfold mnZ
    obtain ⟨m1, m2, m3⟩ := mo_z h hW hjd hko hA hk (show z < 8 by omega)
    refine mnZ_z hW hjd hko hk d (z + 1) _ (by omega) m2 m3 ?_
    rw [show 32 * k + 4 * (z + 1) = 32 * k + 4 * z + 4 by omega, acL_4, ha, m1]
theorem mnS_z {W : Nat → Int32} {gl : List TxL} {rl : Nat → List TxL} {jd b : Int32} {q2 : Option CD} (hW : WB W) (hjd : jdOK W jd) (hko : KOK W rl) {w : Int32} : ∀ (d k : Nat) (a : Int64) {g : GS}, k + d = mN W → BO g W gl rl (W 6) (mT W) (mG W) jd b q2 → AkS g W w (mT W) → a = acL 0 (mnT W gl rl jd b w) (32 * k) →
    (mnS q2 (mG W) (mT W) d k a g).1 = acL 0 (mnT W gl rl jd b w) (32 * mN W) ∧ BO (mnS q2 (mG W) (mT W) d k a g).2 W gl rl (W 6) (mT W) (mG W) jd b q2
  | 0, k, a, g, hk, h, hA, ha => by
    unfold mnS
    exact ⟨by rw [ha, show mN W = k by omega], h⟩
  | d + 1, k, a, g, hk, h, hA, ha => by
    unfold mnS
    obtain ⟨i1, i2, i3⟩ := mnZ_z hW hjd hko (show k < mN W by omega) 8 0 a (by omega) h hA ha
    exact mnS_z hW hjd hko d (k + 1) _ (by omega) i2 i3 i1
theorem v_mean {g : GS} {W : Nat → Int32} {gl : List TxL} {rl : Nat → List TxL} {q q2 : Option CD} (h : CQ g W gl q) {jd : Int32} (hj : JdQ q2 rl jd) (hjd : jdOK W jd) (hko : KOK W rl) (b w : Int32) :
    (meA g jd b w q q2 (mT W) (mG W) (mN W)).1 = acL 0 (mnT W gl rl jd b w) (32 * mN W) ∧ Z0 (meA g jd b w q q2 (mT W) (mG W) (mN W)).2 := by
  obtain ⟨a1, a2, -⟩ := ak_z (seG_B h hj b) h.2.1 w h.2.1.T
  have r := mnS_z h.2.1 hjd hko (mN W) 0 0 (by omega) a2 a1 rfl
  exact ⟨r.1, r.2.2.2.2.2⟩
/-! played -/
theorem cdr_bits (x : Int32) : usr x 16 &&& 32767 = x >>> ((16 : Int32) &&& 31) &&& 32767 := by
  apply zb_ext
  intro i hi
  rw [zb_and, zb_and]
  have e1 : zb (usr x (nI 16)) i = zb x (16 + i) := zb_usr x (by omega) i
  have e2 : zb (x >>> (nI 16 &&& 31)) i = if 16 + i < 32 then zb x (16 + i) else zb (x >>> (nI 16 &&& 31)) i := by
    by_cases c : 16 + i < 32
    · rw [if_pos c]
      unfold zb
      rw [sar_b x (by omega), BitVec.getLsbD_sshiftRight]
      simp [c, hi]
    · rw [if_neg c]
  rw [show usr x 16 = usr x (nI 16) from rfl, show x >>> ((16 : Int32) &&& 31) = x >>> (nI 16 &&& 31) from rfl, e1, e2]
  by_cases c : 16 + i < 32
  · rw [if_pos c]
  · have m : ∀ j : Fin 32, ¬ 16 + j.val < 32 → zb 32767 j.val = false := by decide +kernel
    rw [m ⟨i, hi⟩ c, Bool.and_false, Bool.and_false]
theorem cdr_z {g : GS} {x : Int32} (h : gF g 58 7 = x) : gF (cdrG g) 58 7 = mrS x ∧ ∀ all : Int32, cdrV g all = if all ≤ 0 then 0 else drV x - drV x / all * all := by
  have e : gF (cdrG g) 58 7 = mrS x := by
    show 1103515245 * gF g 58 7 + 12345 = _
    rw [h]; rfl
  refine ⟨e, fun all => ?_⟩
  unfold cdrV
  rw [e, cdr_bits]; rfl
theorem dr_100 {g : GS} {x : Int32} (h : gF g 58 7 = x) : cdrV g 100 = drL x ∧ ∃ u : Nat, u < 100 ∧ drL x = zI u := by
  refine ⟨by rw [(cdr_z h).2 100, if_neg (by decide)]; rfl, ?_⟩
  obtain ⟨u, hu, e⟩ := drV_nat x
  refine ⟨u % 100, by omega, ?_⟩
  unfold drL
  rw [nIr (a := u) (b := 100) (by omega) (by omega) e (nIc 100), zI_n]
def fPl (c k : Nat) : Bool := Nat.beq c 58 && (Nat.beq k 7 || (Nat.beq k 8 || Nat.beq k 9))
/-- what playing needs -/
def PlH (g : GS) (W : Nat → Int32) (ac : Nat → Nat → Int32) (T G : Nat) : Prop := WyP g W ∧ gF g 20 13 = nI T ∧ ∀ j s, j ≤ G → s < 32 → deI g (nI j) (nI s) = ac j s
theorem PlH.fr {g g' : GS} {W : Nat → Int32} {ac : Nat → Nat → Int32} {T G : Nat} (h : PlH g W ac T G) (hf : Fr fPl aNo g g') : PlH g' W ac T G := by
  refine ⟨h.1.fr (hf.2.1 42 rfl) (hf.2.1 43 rfl) (hf.2.1 44 rfl) (hf.2.1 45 rfl) (hf.2.1 46 rfl) (hf.2.1 47 rfl), (hf.1 20 13 rfl).trans h.2.1, ?_⟩
  intro j s hj hs
  unfold deI
  rw [hf.2.1 52 rfl]; exact h.2.2 j s hj hs
theorem ite_n2 {a : Int32} (h : a = 1 ∨ a = 2) : (if ¬ a = 2 then (0 : Int32) else 1) = (if decide (a = 1) = true then 0 else 1) := by
  rcases h with rfl | rfl <;> decide
theorem plR_z {W : Nat → Int32} {ac : Nat → Nat → Int32} {T G : Nat} (h0 : CB W) (hT : T ≤ 60) (hG : G ≤ 10) (hk : ∀ j s, j ≤ G → s < 32 → ac j s = 0 ∨ ac j s = 1 ∨ ac j s = 2) (hend : ∀ s, s < 32 → ac G s = 0 ∨ ac G s = 1) :
    ∀ (d n s : Nat) (goes : Bool) (x : Int32) (g : GS), n + d = T → s < 32 → PlH g W ac T G → gF g 58 7 = x → gF g 58 8 = 3 → (n ≤ G ∨ goes = true) →
      ∃ c e : Nat, c ≤ 3 ∧ e ≤ 60 ∧ gF (plR (d + 1) n (nI s) (if goes = true then 0 else 1) g) 58 8 = nI c ∧ gF (plR (d + 1) n (nI s) (if goes = true then 0 else 1) g) 58 9 = nI e ∧ (mpF W ac d n s goes x).1 = nI (100 * c + e) ∧ gF (plR (d + 1) n (nI s) (if goes = true then 0 else 1) g) 58 7 = (mpF W ac d n s goes x).2 ∧ Fr fPl aNo g (plR (d + 1) n (nI s) (if goes = true then 0 else 1) g) := by
  intro d
  induction d with
  | zero =>
    intro n s goes x g hn hs hP hx h8 hg
    have hd : plD (sF g 58 9 (nI n)) n (nI s) (if goes = true then 0 else 1) = plA goes (ac n s) := by
      unfold plD plA
      cases goes with
      | true => rfl
      | false =>
        show (if (1 : Int32) = 0 then 1 else deI (sF g 58 9 (nI n)) (nI n) (nI s)) = if bI false = 0 then ac n s else 1
        rw [if_neg (by decide), if_pos (show bI false = 0 from rfl)]
        exact hP.2.2 n s (by rcases hg with h | h; exact h; cases h) hs
    generalize ha : plA goes (ac n s) = a at hd
    have e13 : nI n = gF (sF g 58 9 (nI n)) 20 13 := by
      show nI n = gF g 20 13
      rw [hP.2.1, show n = T by omega]
    have eM : mpF W ac 0 n s goes x = (plE a n, x) := by unfold mpF; rw [ha]
    by_cases c : a = 0
    · rw [plS_stop hd c, eM]
      refine ⟨0, n, by omega, by omega, rfl, rfl, ?_, hx, (Fr.rf.sF (c := 58) (k := 9) rfl).sF (c := 58) (k := 8) rfl⟩
      unfold plE; rw [if_neg (fun z => z c)]; exact congrArg nI (by omega)
    · rw [plS_end rfl hd c e13, eM]
      refine ⟨3, n, by omega, by omega, h8, rfl, ?_, hx, Fr.rf.sF (c := 58) (k := 9) rfl⟩
      unfold plE; rw [if_pos c]; exact nIa (nIc 300) rfl
  | succ d ih =>
    intro n s goes x g hn hs hP hx h8 hg
    have hd : plD (sF g 58 9 (nI n)) n (nI s) (if goes = true then 0 else 1) = plA goes (ac n s) := by
      unfold plD plA
      cases goes with
      | true => rfl
      | false =>
        show (if (1 : Int32) = 0 then 1 else deI (sF g 58 9 (nI n)) (nI n) (nI s)) = if bI false = 0 then ac n s else 1
        rw [if_neg (by decide), if_pos (show bI false = 0 from rfl)]
        exact hP.2.2 n s (by rcases hg with h | h; exact h; cases h) hs
    have hak : plA goes (ac n s) = 0 ∨ plA goes (ac n s) = 1 ∨ (plA goes (ac n s) = 2 ∧ goes = false ∧ ¬ n = G) := by
      cases goes with
      | true => exact Or.inr (Or.inl rfl)
      | false =>
        have hnG : n ≤ G := by rcases hg with h | h; exact h; cases h
        show ac n s = 0 ∨ ac n s = 1 ∨ (ac n s = 2 ∧ false = false ∧ ¬ n = G)
        rcases hk n s hnG hs with h | h | h
        · exact Or.inl h
        · exact Or.inr (Or.inl h)
        · refine Or.inr (Or.inr ⟨h, rfl, fun z => ?_⟩)
          subst z
          rcases hend s hs with y | y <;> (rw [h] at y; exact absurd y (by decide))
    have eM : mpF W ac (d + 1) n s goes x = plB W (plA goes (ac n s)) n s x (mpF W ac d (n + 1)) := rfl
    rw [eM]
    generalize plA goes (ac n s) = a at hd hak
    have n13 : ¬ nI n = gF (sF g 58 9 (nI n)) 20 13 := by
      show ¬ nI n = gF g 20 13
      rw [hP.2.1]; exact nI_nq (by omega) (by omega) (by omega)
    by_cases c : a = 0
    · rw [plS_stop hd c, plB_0 c]
      exact ⟨0, n, by omega, by omega, rfl, rfl, congrArg nI (by omega), hx, (Fr.rf.sF (c := 58) (k := 9) rfl).sF (c := 58) (k := 8) rfl⟩
    · have ha12 : a = 1 ∨ a = 2 := by
        rcases hak with h | h | h
        · exact absurd h c
        · exact Or.inl h
        · exact Or.inr h.1
      have hx1 : gF (sF g 58 9 (nI n)) 58 7 = x := hx
      obtain ⟨v1, u, hu, v2⟩ := dr_100 hx1
      have hP1 : PlH (cdrG (sF g 58 9 (nI n))) W ac T G := hP.fr ((Fr.rf.sF (c := 58) (k := 9) rfl).sF (c := 58) (k := 7) rfl)
      have hdw : drawnI (cdrG (sF g 58 9 (nI n))) (nI s) (cdrV (sF g 58 9 (nI n)) 100) = nI (wDw W s (drL x)) := by
        rw [v1, v2]
        exact drawn_z hP1.1 h0 hs (by omega) (by omega)
      have hlt := wDw_lt (W := W) (l := drL x) hs
      have hf1 : Fr fPl aNo g (cdrG (sF g 58 9 (nI n))) := (Fr.rf.sF (c := 58) (k := 9) rfl).sF (c := 58) (k := 7) rfl
      by_cases p32 : wDw W s (drL x) < 32
      · have q1 : ¬ nI (wDw W s (drL x)) = 32 := nI_nq (b := 32) (by omega) (by omega) (by omega)
        have q2 : ¬ nI (wDw W s (drL x)) = 33 := nI_nq (b := 33) (by omega) (by omega) (by omega)
        rw [plB_go c q1 q2, plS_go rfl rfl hd c n13 hdw (nI_ltn (b := 32) (by omega) (by omega)) rfl, ite_n2 ha12]
        obtain ⟨c', e', r1, r2, r3, r4, r5, r6, r7⟩ := ih (n + 1) (wDw W s (drL x)) (decide (a = 1)) (mrS x) (cdrG (sF g 58 9 (nI n))) (by omega) p32 hP1 (cdr_z hx1).1 h8 (by
          rcases hak with h | h | h
          · exact absurd h c
          · exact Or.inr (by rw [h]; rfl)
          · refine Or.inl ?_
            rcases hg with y | y
            · have := h.2.2; omega
            · rw [h.2.1] at y; cases y)
        exact ⟨c', e', r1, r2, r3, r4, r5, r6, hf1.tr r7⟩
      · have n32 : ¬ nI (wDw W s (drL x)) < 32 := fun z => by have := nI_ltd (b := 32) (by omega) (by omega) z; omega
        rw [plS_fin rfl rfl hd c n13 hdw n32 rfl rfl]
        have hfr : ∀ v, Fr fPl aNo g (sF (sF (cdrG (sF g 58 9 (nI n))) 58 9 (nI n + 1)) 58 8 v) := fun v => (hf1.sF (c := 58) (k := 9) rfl).sF (c := 58) (k := 8) rfl
        have h9 : ∀ v, gF (sF (sF (cdrG (sF g 58 9 (nI n))) 58 9 (nI n + 1)) 58 8 v) 58 9 = nI (n + 1) := fun v => nI_s n
        have h7 : ∀ v, gF (sF (sF (cdrG (sF g 58 9 (nI n))) 58 9 (nI n + 1)) 58 8 v) 58 7 = mrS x := fun v => (cdr_z hx1).1
        by_cases p : wDw W s (drL x) = 32
        · have q1 : nI (wDw W s (drL x)) = 32 := by rw [p]; rfl
          rw [plB_32 c q1]
          refine ⟨1, n + 1, by omega, by omega, ?_, h9 _, ?_, h7 _, hfr _⟩
          · show (if ¬ nI (wDw W s (drL x)) = 32 then _ else (1 : Int32)) = _
            rw [if_neg (fun z => z q1)]; rfl
          · show 100 + nI n + 1 = _
            exact (nIa (nIa (nIc 100) (rfl : nI n = nI n)) (nIc 1)).trans (congrArg nI (by omega))
        · have q1 : ¬ nI (wDw W s (drL x)) = 32 := nI_nq (b := 32) (by omega) (by omega) p
          have q2 : nI (wDw W s (drL x)) = 33 := by rw [show wDw W s (drL x) = 33 by omega]; rfl
          rw [plB_33 c q1 q2]
          rcases ha12 with rfl | rfl
          · refine ⟨2, n + 1, by omega, by omega, ?_, h9 _, ?_, h7 _, hfr _⟩
            · show (if ¬ nI (wDw W s (drL x)) = 32 then (if (if ¬ (1 : Int32) = 2 then (0 : Int32) else 1) = 0 then (2 : Int32) else 0) else 1) = _
              rw [if_pos q1]; rfl
            · show (if ¬ (1 : Int32) = 1 then nI n + 1 else 200 + nI n + 1) = _
              rw [if_neg (fun z => z rfl)]
              exact (nIa (nIa (nIc 200) (rfl : nI n = nI n)) (nIc 1)).trans (congrArg nI (by omega))
          · refine ⟨0, n + 1, by omega, by omega, ?_, h9 _, ?_, h7 _, hfr _⟩
            · show (if ¬ nI (wDw W s (drL x)) = 32 then (if (if ¬ (2 : Int32) = 2 then (0 : Int32) else 1) = 0 then (2 : Int32) else 0) else 1) = _
              rw [if_pos q1]; rfl
            · show (if ¬ (2 : Int32) = 1 then nI n + 1 else 200 + nI n + 1) = _
              rw [if_pos (by decide)]
              rw [show nI n + 1 = nI (n + 1) from nI_s n]; exact congrArg nI (by omega)
theorem v_played {g : GS} {W : Nat → Int32} {gl : List TxL} {rl : Nat → List TxL} {q q2 : Option CD} (h : CQ g W gl q) {jd : Int32} (hj : JdQ q2 rl jd) (hjd : jdOK W jd) (hko : KOK W rl) (b seed : Int32) {k z s : Nat} (hk : k < mN W) (hz : z < 8) (hs : s < 32) :
    100 * gF (pdG g jd b (nI k) (nI z) (nI s) seed q q2 (mT W) (mG W)) 58 8 + gF (pdG g jd b (nI k) (nI z) (nI s) seed q q2 (mT W) (mG W)) 58 9 = (mpF W (ja (mJP W gl rl (W 6) k z (wTo W k) jd b (mG W))) (mT W) 0 s false seed).1 ∧ Z0 (pdG g jd b (nI k) (nI z) (nI s) seed q q2 (mT W) (mG W)) := by
  have hW := h.2.1
  obtain ⟨b1, l1⟩ := st_z h (rl := rl) hj b hk hz
  have e13 : gF (stG g jd b (nI k) (nI z) q q2 (mT W) (mG W)) 20 13 = nI (mT W) := by rw [b1.2.1.2.2.2.2.2.2.2.2.1]; exact hW.2.2.2.2.2.2.2.2.2.2.1.2.2
  have hP : PlH (sF (sF (stG g jd b (nI k) (nI z) q q2 (mT W) (mG W)) 58 7 seed) 58 8 3) W (ja (mJP W gl rl (W 6) k z (wTo W k) jd b (mG W))) (mT W) (mG W) := ⟨b1.1.1, e13, fun j s hj hs => l1.de hW.G hj hs⟩
  obtain ⟨c, e, r1, r2, r3, r4, r5, r6, r7⟩ := plR_z hW.1 hW.T hW.G (fun j s _ _ => ja_012 hW.2.2.2.2.2.2.2.2.2.2.2.1.1 hjd hko j s) (fun s _ => ja_end hW.2.2.2.2.2.2.2.2.2.2.2.1.1 hjd hko s) (mT W) 0 s false seed _ (by omega) hs hP rfl rfl (Or.inl (Nat.zero_le _))
  refine ⟨?_, ?_⟩
  · show 100 * gF (plR (mT W + 1) 0 (nI s) 1 _) 58 8 + gF (plR (mT W + 1) 0 (nI s) 1 _) 58 9 = _
    rw [r5, show gF (plR (mT W + 1) 0 (nI s) 1 (sF (sF (stG g jd b (nI k) (nI z) q q2 (mT W) (mG W)) 58 7 seed) 58 8 3)) 58 8 = nI c from r3, show gF (plR (mT W + 1) 0 (nI s) 1 (sF (sF (stG g jd b (nI k) (nI z) q q2 (mT W) (mG W)) 58 7 seed) 58 8 3)) 58 9 = nI e from r4]
    exact nIa (nIm (nIc 100) rfl) rfl
  · intro s' hs'
    have f : Fr fPl aNo (sF (sF (stG g jd b (nI k) (nI z) q q2 (mT W) (mG W)) 58 7 seed) 58 8 3) (pdG g jd b (nI k) (nI z) (nI s) seed q q2 (mT W) (mG W)) := r7
    rw [f.2.1 50 rfl, f.2.1 59 rfl]
    exact b1.2.2.2.2 s' hs'
