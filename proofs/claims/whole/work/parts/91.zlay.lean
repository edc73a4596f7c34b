
/-! a JUDGE seated, a FOUL laid -/
def SeQ (g : GS) (q : Option CD) (rl : Nat → List TxL) (jd b : Int32) : Prop :=
  (q = none ∧ ∃ d, d < 5 ∧ jd = nI d ∧ gF g 40 8 = nI d ∧ gF g 40 9 = b) ∨
  (q = none ∧ ∃ z f, z ≤ 8 ∧ f ≤ 4 ∧ jd = nI (100 + 10 * z + f) ∧ gF g 40 8 = -1 ∧ gF g 40 10 = nI z ∧ gF g 40 11 = nI f) ∨
  (∃ cd r, q = some cd ∧ r < 4 ∧ jd = nI (5 + r) ∧ RulQ cd (rl r))
/-- what JUDGE is named -/
def JdQ (q : Option CD) (rl : Nat → List TxL) (jd : Int32) : Prop := (q = none ∧ ∃ d, d < 5 ∧ jd = nI d) ∨ (∃ cd r, q = some cd ∧ r < 4 ∧ jd = nI (5 + r) ∧ RulQ cd (rl r))
theorem SeQ.of {g : GS} {q : Option CD} {rl : Nat → List TxL} {jd b : Int32} (h : JdQ q rl jd) : SeQ (sF (sF g 40 8 jd) 40 9 b) q rl jd b := by
  rcases h with ⟨h1, d, h2, h3⟩ | h
  · exact Or.inl ⟨h1, d, h2, h3, h3, rfl⟩
  · exact Or.inr (Or.inr h)
theorem SeQ.fr {g g' : GS} {q : Option CD} {rl : Nat → List TxL} {jd b : Int32} (h : SeQ g q rl jd b) (h8 : gF g' 40 8 = gF g 40 8) (h9 : gF g' 40 9 = gF g 40 9) (h10 : gF g' 40 10 = gF g 40 10) (h11 : gF g' 40 11 = gF g 40 11) : SeQ g' q rl jd b := by
  rcases h with ⟨h1, d, h2, h3, h4, h5⟩ | ⟨h1, z, f, h2, h3, h4, h5, h6, h7⟩ | h
  · exact Or.inl ⟨h1, d, h2, h3, h8.trans h4, h9.trans h5⟩
  · exact Or.inr (Or.inl ⟨h1, z, f, h2, h3, h4, h8.trans h5, h10.trans h6, h11.trans h7⟩)
  · exact Or.inr (Or.inr h)
theorem FcQ.lyD {q : Option CD} {m sc kw late : Int32} : ∀ (j : Nat) {g : GS}, FcQ g m sc kw late → FcQ (lyD q j g) m sc kw late
  | 0, g, h => itN_inv (f := lyF q 0) (fun x => FcQ x m sc kw late) (fun n a ha => ha.dc _ _ q) 32 h
  | j + 1, g, h => FcQ.lyD j (itN_inv (f := lyF q (j + 1)) (fun x => FcQ x m sc kw late) (fun n a ha => ha.dc _ _ q) 32 h)
theorem OpS.fr {g g' : GS} {W : Nat → Int32} {gw m : Int32} {T : Nat} (h : OpS g W gw m T) (ha : ∀ c, c = 42 ∨ c = 43 ∨ c = 44 ∨ c = 45 ∨ c = 46 ∨ c = 47 ∨ c = 50 → gA g' c = gA g c) (h13 : gF g' 40 13 = gF g 40 13) (h48 : ∀ i, i = 4 ∨ i = 5 ∨ i = 6 → gA g' 48 i = gA g 48 i) : OpS g' W gw m T := by
  obtain ⟨h1, h2, h3, h4, h5, h6⟩ := h
  refine ⟨h1.fr (ha 42 (by omega)) (ha 43 (by omega)) (ha 44 (by omega)) (ha 45 (by omega)) (ha 46 (by omega)) (ha 47 (by omega)), ?_, h13.trans h3, (h48 4 (by omega)).trans h4, (h48 5 (by omega)).trans h5, (h48 6 (by omega)).trans h6⟩
  rw [ha 50 (by omega)]; exact h2
/-- the bench opened, a JUDGE seated -/
def BO (g : GS) (W : Nat → Int32) (gl : List TxL) (rl : Nat → List TxL) (m : Int32) (T G : Nat) (jd b : Int32) (q : Option CD) : Prop :=
  OpS g W (mGc W m gl) m T ∧ BkQ g W ∧ gF g 40 12 = nI G ∧ SeQ g q rl jd b ∧ Z0 g
theorem ly0_48 (g : GS) (so z card : Int32) : gA (ly0 g so z card) 48 = upd (upd (gA g 48) 3 (rAt 8 (gA g 22) z)) 7 (if ¬ rAt 6 (gA g 24) so = 100 then 0 else 1) := by
  show rPut 8 (rPut 8 (gA g 48) (nI 3) (rAt 8 (gA g 22) z)) (nI 7) (if ¬ rAt 6 (gA g 24) so = 100 then 0 else 1) = _
  rw [rPut_in (by omega) (by omega), rPut_in (by omega) (by omega)]
theorem BO.lay {g : GS} {W : Nat → Int32} {gl : List TxL} {rl : Nat → List TxL} {m : Int32} {T G : Nat} {jd b : Int32} {q : Option CD} (h : BO g W gl rl m T G jd b q) (hW : WB W) (hT : mT W ≤ T) (hG : G ≤ 10) {k z : Nat} (hk : k < mN W) (hz : z < 8) {told card : Int32} (ht : 0 ≤ told.toInt ∧ told.toInt ≤ 9999) (hc : card = wCd W k told) :
    BO (lyAll g (nI k) (nI z) card q G) W gl rl m T G jd b q ∧ LyS (lyAll g (nI k) (nI z) card q G) (mJP W gl rl m k z told jd b G) := by
  obtain ⟨hO, hB, h12, hS, hZ⟩ := h
  have hk6 : k < 6 := by have := hW.2.2.2.2.2.1.1; omega
  have hb := mJP_b hW hk hz ht hG gl rl m jd b
  have e22 : rAt 8 (gA g 22) (nI z) = W (10 + z) := by rw [rAt_in hz (by omega), hB.2.1 z hz]
  have e24 : rAt 6 (gA g 24) (nI k) = W (1106 + 34 * k + 1) := by rw [rAt_in hk6 (by omega), (hB.2.2.1 k hk).2.1]
  have hF : FlS (ly0 g (nI k) (nI z) card) (mJP W gl rl m k z told jd b G) := by
    refine ⟨?_, ?_⟩
    · show bk_sw g 20 (nI z) card = wSw W k z told
      rw [bk_sw_z hB hz, hc]; rfl
    · show bk_aw g 20 (nI k) card = wAf W k told
      rw [bk_aw_z hB hW hk, hc]; rfl
  have hBn : BnS (ly0 g (nI k) (nI z) card) (mJP W gl rl m k z told jd b G) := by
    refine ⟨hO.1.fr rfl rfl rfl rfl rfl rfl, ?_, hO.2.2.1, ?_, h12⟩
    · intro t s hts hs
      have e : gA (ly0 g (nI k) (nI z) card) 50 = gA g 50 := rfl
      rw [e, hO.2.1 t s (Nat.le_trans hts hT) hs]
      exact congrArg zI (mLT_zz hW m gl t s hs).1.symm
    · show gF g 20 13 = nI (mT W)
      rw [hB.2.2.2.2.2.2.2.2.1]; exact hW.2.2.2.2.2.2.2.2.2.2.1.2.2
  have hFc : FcQ (ly0 g (nI k) (nI z) card) m (W 7) (W (10 + z)) (wLa W k) := by
    unfold FcQ
    rw [ly0_48, e22, e24]
    refine ⟨rfl, hO.2.2.2.1, hO.2.2.2.2.1, hO.2.2.2.2.2, ?_⟩
    show (if ¬ W (1106 + 34 * k + 1) = 100 then (0 : Int32) else 1) = _
    unfold wLa
    by_cases c : W (1106 + 34 * k + 1) = 100
    · rw [if_neg (fun x => x c)]; rfl
    · rw [if_pos c]; rfl
  have hSt : StQ (ly0 g (nI k) (nI z) card) q (mJP W gl rl m k z told jd b G) := by
    rcases hS with ⟨h1, d, h2, h3, h4, h5⟩ | ⟨h1, z', f, h2, h3, h4, h5, h6, h7⟩ | ⟨cd, r, h1, h2, h3, h4⟩
    · exact Or.inl ⟨h1, d, h2, h3, h4, h5⟩
    · exact Or.inr (Or.inl ⟨h1, z', f, h2, h3, h4, h5, h6, h7⟩)
    · refine Or.inr (Or.inr ⟨cd, rl r, r, m, W 7, W (10 + z), wLa W k, h1, h2, h3, h4, hFc, fun j s => ?_⟩)
      show txDo (mFc m (W 7) s j (W (10 + z)) (wLa W k)) (rl (jd - 5).toNatClampNeg) = _
      have e : (jd - 5).toNatClampNeg = r := by
        rw [h3, nIs (a := 5 + r) (b := 5) (by omega) rfl (nIc 5), nI_clamp (by omega)]; omega
      rw [e]
  obtain ⟨r1, r2⟩ := lay_z hb hBn hF hSt
  have hkf : KF g (lyAll g (nI k) (nI z) card q G) := kf_ly Fr.rf (nI k) (nI z) card q G
  have r1' : Fr f0 aDc (ly0 g (nI k) (nI z) card) (lyAll g (nI k) (nI z) card q G) := r1
  have hFc2 : FcQ (lyAll g (nI k) (nI z) card q G) m (W 7) (W (10 + z)) (wLa W k) := hFc.lyD (q := q) G
  refine ⟨⟨?_, hB.kf hkf, (r1'.1 40 12 rfl).trans h12, hS.fr (r1'.1 40 8 rfl) (r1'.1 40 9 rfl) (r1'.1 40 10 rfl) (r1'.1 40 11 rfl), ?_⟩, r2⟩
  · refine ⟨hO.1.fr (r1'.2.1 42 rfl) (r1'.2.1 43 rfl) (r1'.2.1 44 rfl) (r1'.2.1 45 rfl) (r1'.2.1 46 rfl) (r1'.2.1 47 rfl), ?_, (r1'.1 40 13 rfl).trans hO.2.2.1, hFc2.2.1, hFc2.2.2.1, hFc2.2.2.2.1⟩
    rw [r1'.2.1 50 rfl]; exact hO.2.1
  · intro s hs
    have e50 : gA (lyAll g (nI k) (nI z) card q G) 50 = gA g 50 := r1'.2.1 50 rfl
    have e59 : gA (lyAll g (nI k) (nI z) card q G) 59 = gA g 59 := r1'.2.1 59 rfl
    rw [e50, e59]; exact hZ s hs
/-- the class's state as the face finds it -/
def CQ (g : GS) (W : Nat → Int32) (gl : List TxL) (q : Option CD) : Prop := BkQ g W ∧ WB W ∧ Z0 g ∧ GolQ W gl q
theorem CQ.mn {g : GS} {W : Nat → Int32} {gl : List TxL} {q : Option CD} (h : CQ g W gl q) : 0 ≤ (gF g 20 14).toInt ∧ (gF g 20 14).toInt ≤ 90 := by
  rw [h.1.2.2.2.2.2.2.2.2.2.1]; exact h.2.1.2.2.2.2.2.2.2.1
theorem opB {g : GS} {W : Nat → Int32} {gl : List TxL} {q : Option CD} (h : CQ g W gl q) {m : Int32} (hm : 0 ≤ m.toInt ∧ m.toInt ≤ 90) {T : Nat} (hT : T ≤ 60) : OpS (opAll g m T q) W (mGc W m gl) m T ∧ BkQ (opAll g m T q) W ∧ gF (opAll g m T q) 40 12 = nI (mG W) ∧ Z0 (opAll g m T q) := by
  obtain ⟨h1, h2, h3, h4⟩ := op_z h.1 h.2.1 h.2.2.1 hm h.2.2.2 hT
  exact ⟨h1, h.1.kf (kf_open Fr.rf m T q), h3.trans h.2.1.2.2.2.2.2.2.2.2.2.1.2, h4⟩
theorem OpS.sf {g : GS} {W : Nat → Int32} {gw m : Int32} {T : Nat} (h : OpS g W gw m T) {k : Nat} (hk : ¬ k = 13) (v : Int32) : OpS (sF g 40 k v) W gw m T :=
  h.fr (fun c _ => rfl) (by show (bif Nat.beq 40 40 && Nat.beq 13 k then v else gF g 40 13) = _; have : Nat.beq 13 k = false := by
                              cases hb : Nat.beq 13 k with
                              | false => rfl
                              | true => exact absurd (Nat.eq_of_beq_eq_true hb).symm hk
                            rw [this]; rfl) (fun i _ => rfl)
theorem BkQ.s40 {g : GS} {W : Nat → Int32} (h : BkQ g W) (k : Nat) (v : Int32) : BkQ (sF g 40 k v) W := h.kf (Fr.rf.sF rfl)
theorem seB {g : GS} {W : Nat → Int32} {gl : List TxL} {rl : Nat → List TxL} {q q2 : Option CD} (h : CQ g W gl q) {m : Int32} (hm : 0 ≤ m.toInt ∧ m.toInt ≤ 90) {T : Nat} (hT : T ≤ 60) {jd : Int32} (hj : JdQ q2 rl jd) (b : Int32) : BO (sF (sF (opAll g m T q) 40 8 jd) 40 9 b) W gl rl m T (mG W) jd b q2 := by
  obtain ⟨h1, h2, h3, h4⟩ := opB h hm hT
  exact ⟨(h1.sf (k := 8) (by omega) jd).sf (k := 9) (by omega) b, (h2.s40 8 jd).s40 9 b, h3, SeQ.of hj, h4⟩
theorem WB.T {W : Nat → Int32} (h : WB W) : mT W ≤ 60 := h.2.2.2.2.2.2.2.2.2.2.1.2.1
theorem WB.G {W : Nat → Int32} (h : WB W) : mG W ≤ 10 := h.2.2.2.2.2.2.2.2.2.1.1
theorem WB.to {W : Nat → Int32} (h : WB W) {k : Nat} (hk : k < mN W) : 0 ≤ (wTo W k).toInt ∧ (wTo W k).toInt ≤ 9999 := (h.2.2.2.2.2.2.1 k hk).1
theorem st_z {g : GS} {W : Nat → Int32} {gl : List TxL} {rl : Nat → List TxL} {q q2 : Option CD} (h : CQ g W gl q) {jd : Int32} (hj : JdQ q2 rl jd) (b : Int32) {k z : Nat} (hk : k < mN W) (hz : z < 8) :
    BO (stG g jd b (nI k) (nI z) q q2 (mT W) (mG W)) W gl rl (W 6) (mT W) (mG W) jd b q2 ∧ LyS (stG g jd b (nI k) (nI z) q q2 (mT W) (mG W)) (mJP W gl rl (W 6) k z (wTo W k) jd b (mG W)) := by
  have e14 : gF g 20 14 = W 6 := h.1.2.2.2.2.2.2.2.2.2.1
  have hs := seB h (by have := h.mn; rw [e14] at this; exact this) h.2.1.T hj b
  unfold stG
  rw [e14]
  exact hs.lay h.2.1 (Nat.le_refl _) h.2.1.G hk hz (h.2.1.to hk) (bk_cn_z hs.2.1 h.2.1 hk)
theorem BO.g {g : GS} {W : Nat → Int32} {gl : List TxL} {rl : Nat → List TxL} {m : Int32} {T G : Nat} {jd b : Int32} {q : Option CD} (h : BO g W gl rl m T G jd b q) (n : Nat) : BO (sF g 40 12 (nI n)) W gl rl m T n jd b q :=
  ⟨h.1.sf (k := 12) (by omega) _, h.2.1.s40 12 _, rfl, h.2.2.2.1.fr rfl rfl rfl rfl, h.2.2.2.2⟩
theorem BO.bb {g : GS} {W : Nat → Int32} {gl : List TxL} {rl : Nat → List TxL} {m : Int32} {T G : Nat} {jd b : Int32} (h : BO g W gl rl m T G jd b none) (hW : WB W) (hT : mT W ≤ T) {n : Nat} (hn : n ≤ 10) {k z : Nat} (hk : k < mN W) (hz : z < 8) :
    BO (bbG g (nI k) (nI z) n) W gl rl m T n jd b none ∧ LyS (bbG g (nI k) (nI z) n) (mJP W gl rl m k z (wTo W k) jd b n) := by
  have h1 := h.g n
  exact h1.lay hW hT hn hk hz (hW.to hk) (bk_cn_z h1.2.1 hW hk)
