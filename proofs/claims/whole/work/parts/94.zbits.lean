
/-! bits -/
def zb (x : Int32) (i : Nat) : Bool := x.toBitVec.getLsbD i
theorem zb_or (a b : Int32) (i : Nat) : zb (a ||| b) i = (zb a i || zb b i) := BitVec.getLsbD_or ..
theorem zb_and (a b : Int32) (i : Nat) : zb (a &&& b) i = (zb a i && zb b i) := BitVec.getLsbD_and ..
theorem zb_0 (i : Nat) : zb 0 i = false := BitVec.getLsbD_zero
theorem zb_ext {a b : Int32} (h : ∀ i, i < 32 → zb a i = zb b i) : a = b := Int32.toBitVec_inj.mp (BitVec.eq_of_getLsbD_eq h)
theorem zb_F : ∀ s i : Fin 32, zb (1 <<< (nI s.val &&& 31)) i.val = decide (i.val = s.val) := by decide +kernel
theorem zb_1 {s i : Nat} (hs : s < 32) (hi : i < 32) : zb (1 <<< (nI s &&& 31)) i = decide (i = s) := zb_F ⟨s, hs⟩ ⟨i, hi⟩
theorem us_F : ∀ s : Fin 32, ((((nI s.val).toUInt32 &&& Int32.toUInt32 31).toBitVec % 32).toNat = s.val) ∧ (((nI s.val &&& 31).toBitVec.smod 32).toNat = s.val) := by decide +kernel
theorem usr_b (x : Int32) {s : Nat} (hs : s < 32) : (usr x (nI s)).toBitVec = x.toBitVec >>> s := by
  have e : (usr x (nI s)).toBitVec = x.toBitVec >>> (((nI s).toUInt32 &&& Int32.toUInt32 31).toBitVec % 32).toNat := UInt32.toBitVec_shiftRight _ _
  rw [e, (us_F ⟨s, hs⟩).1]
theorem zb_usr (x : Int32) {s : Nat} (hs : s < 32) (i : Nat) : zb (usr x (nI s)) i = zb x (s + i) := by
  unfold zb
  rw [usr_b x hs, BitVec.getLsbD_ushiftRight]
theorem m1_F : ∀ i : Fin 32, zb 1 i.val = decide (i.val = 0) := by decide +kernel
theorem m15_F : ∀ i : Fin 32, zb 15 i.val = decide (i.val < 4) := by decide +kernel
theorem usr_1 (x : Int32) {s : Nat} (hs : s < 32) : usr x (nI s) &&& 1 = 0 ↔ zb x s = false := by
  constructor
  · intro h
    have := congrArg (fun y => zb y 0) h
    simp only [zb_and, zb_usr x hs, zb_0, Nat.add_zero, m1_F ⟨0, by omega⟩] at this
    simpa using this
  · intro h
    apply zb_ext
    intro i hi
    rw [zb_and, zb_usr x hs, zb_0, m1_F ⟨i, hi⟩]
    by_cases c : i = 0
    · subst c; rw [Nat.add_zero, h]; rfl
    · simp [c]
theorem usr_15 (x : Int32) {s r : Nat} (hs : s < 32) (hr : r < 4) (h : zb x (s + r) = true) : ¬ usr x (nI s) &&& 15 = 0 := by
  intro z
  have := congrArg (fun y => zb y r) z
  simp only [zb_and, zb_usr x hs, zb_0, m15_F ⟨r, by omega⟩, h] at this
  simp [hr] at this
theorem sar_b (x : Int32) {s : Nat} (hs : s < 32) : (x >>> (nI s &&& 31)).toBitVec = x.toBitVec.sshiftRight s := by
  show x.toBitVec.sshiftRight ((nI s &&& 31).toBitVec.smod 32).toNat = _
  rw [(us_F ⟨s, hs⟩).2]
theorem sar_1 (x : Int32) {s : Nat} (hs : s < 32) : x >>> (nI s &&& 31) &&& 1 = 1 ↔ zb x s = true := by
  have e0 : zb (x >>> (nI s &&& 31)) 0 = zb x s := by
    unfold zb
    rw [sar_b x hs, BitVec.getLsbD_sshiftRight]
    simp
    intro h; omega
  constructor
  · intro h
    have := congrArg (fun y => zb y 0) h
    simp only [zb_and, e0, m1_F ⟨0, by omega⟩] at this
    simpa using this
  · intro h
    apply zb_ext
    intro i hi
    rw [zb_and, m1_F ⟨i, hi⟩]
    by_cases c : i = 0
    · subst c; rw [e0, h]; rfl
    · simp [c]
/-! fouls that pay -/
def pF (W : Nat → Int32) (gl : List TxL) (rl : Nat → List TxL) (m : Int32) (k : Nat) (told jd b : Int32) (s : Nat) : Bool :=
  decide ((jw (mJP W gl rl m k (s / 4) told jd b (mG W)) 0 s).toInt < (mLT W (mGc W m gl) (mT W) s).toInt)
theorem wPy_z (W : Nat → Int32) (gl : List TxL) (rl : Nat → List TxL) (m : Int32) (k : Nat) (told jd b : Int32) (s : Nat) : wPy W gl rl m k told jd b s = bif pF W gl rl m k told jd b s then 1 <<< (nI s &&& 31) else 0 := by
  unfold wPy pyV pF
  by_cases c : (jw (mJP W gl rl m k (s / 4) told jd b (mG W)) 0 s).toInt < (mLT W (mGc W m gl) (mT W) s).toInt
  · rw [if_neg (fun z => by have := cmp_le.mp z; omega), decide_eq_true c]; rfl
  · rw [if_pos (cmp_le.mpr (by omega)), decide_eq_false c]; rfl
theorem zb_orI (W : Nat → Int32) (gl : List TxL) (rl : Nat → List TxL) (m : Int32) (k : Nat) (told jd b : Int32) {i : Nat} (hi : i < 32) : ∀ n, n ≤ 32 → zb (orI (wPy W gl rl m k told jd b) n) i = (decide (i < n) && pF W gl rl m k told jd b i)
  | 0, _ => by show zb 0 i = _; rw [zb_0]; rfl
  | n + 1, hn => by
    rw [orI_s, zb_or, zb_orI W gl rl m k told jd b hi n (by omega), wPy_z]
    have e : zb (bif pF W gl rl m k told jd b n then 1 <<< (nI n &&& 31) else 0) i = (pF W gl rl m k told jd b n && decide (i = n)) := by
      cases pF W gl rl m k told jd b n with
      | false => exact zb_0 i
      | true => show zb (1 <<< (nI n &&& 31)) i = _; rw [zb_1 (by omega) hi]; rfl
    rw [e]
    by_cases c : i = n
    · subst c
      rw [decide_eq_false (Nat.lt_irrefl i), decide_eq_true rfl, decide_eq_true (show i < i + 1 by omega)]; simp
    · rw [decide_eq_false c, Bool.and_false, Bool.or_false]
      congr 1
      exact decide_eq_decide.mpr (by omega)
theorem itN_p {α : Type} (f : Nat → α → α) (n : Nat) (a : α) : itN f (n + 1) a = f n (itN f n a) := rfl
theorem BO.gain {g : GS} {W : Nat → Int32} {gl : List TxL} {rl : Nat → List TxL} {m : Int32} {T G : Nat} {jd b : Int32} {q : Option CD} (h : BO g W gl rl m T G jd b q) (hW : WB W) (hT : mT W ≤ T) (hT60 : T ≤ 60) {P : JP} (hb : ZB P) (hL : LyS g P) {s : Nat} (hs : s < 32) : gnI g (nI s) = zI ((mLT W (mGc W m gl) (mT W) s).toInt - (jw P 0 s).toInt) ∧ (gnI g (nI s) ≤ 0 ↔ ¬ (jw P 0 s).toInt < (mLT W (mGc W m gl) (mT W) s).toInt) := by
  have e13 : gF g 20 13 = nI (mT W) := by rw [h.2.1.2.2.2.2.2.2.2.2.1]; exact hW.2.2.2.2.2.2.2.2.2.2.1.2.2
  have l := (h.1.lt hW hT60 hT hs).1
  have w := hL.wo hb.2.2.2.2.2.2 (j := 0) (Nat.zero_le _) hs
  have b1 := (mLT_zz hW m gl (mT W) s hs).2
  have b2 := jw_b hb 0 s hs
  have e : gnI g (nI s) = zI ((mLT W (mGc W m gl) (mT W) s).toInt - (jw P 0 s).toInt) := by
    unfold gnI
    rw [e13, l, show woI g 0 (nI s) = _ from w, ← zI_sub]
  refine ⟨e, ?_⟩
  rw [e]
  constructor
  · intro z c
    have := (zI_le (b := 0) (by omega) (by omega) (by omega) (by omega)).mp z
    omega
  · intro c
    exact (zI_le (b := 0) (by omega) (by omega) (by omega) (by omega)).mpr (by omega)
theorem pyAll_z {g : GS} {W : Nat → Int32} {gl : List TxL} {rl : Nat → List TxL} {m : Int32} {T : Nat} {jd b : Int32} {q : Option CD} (h : BO g W gl rl m T (mG W) jd b q) (hW : WB W) (hT : mT W ≤ T) (hT60 : T ≤ 60) {k : Nat} (hk : k < mN W) {told card : Int32} (ht : 0 ≤ told.toInt ∧ told.toInt ≤ 9999) (hc : card = wCd W k told) (sts : Int32) :
    (pyAll q (mG W) (nI k) card sts g).1 = orI (wPy W gl rl m k told jd b) 32 &&& sts ∧ BO (pyAll q (mG W) (nI k) card sts g).2 W gl rl m T (mG W) jd b q := by
  have hb : ∀ z, z < 8 → ZB (mJP W gl rl m k z told jd b (mG W)) := fun z hz => mJP_b hW hk hz ht hW.G gl rl m jd b
  have key : ∀ n, n ≤ 32 → BO (itN (pyStep q (mG W) (nI k) card sts) n (0, g)).2 W gl rl m T (mG W) jd b q ∧ (¬ n % 4 = 0 → ¬ usr sts (nI (4 * (n / 4))) &&& 15 = 0 → LyS (itN (pyStep q (mG W) (nI k) card sts) n (0, g)).2 (mJP W gl rl m k (n / 4) told jd b (mG W))) ∧ ∀ i, i < 32 → zb (itN (pyStep q (mG W) (nI k) card sts) n (0, g)).1 i = (decide (i < n) && (pF W gl rl m k told jd b i && zb sts i)) := by
    intro n
    induction n with
    | zero => intro _; exact ⟨h, fun x => absurd rfl x, fun i _ => by show zb 0 i = _; rw [zb_0]; rfl⟩
    | succ n ih =>
      intro hn
      obtain ⟨i1, i2, i3⟩ := ih (by omega)
      rw [itN_p]
      generalize itN (pyStep q (mG W) (nI k) card sts) n (0, g) = p at i1 i2 i3
      have e4 : nI n - nI n / 4 * 4 = nI (n % 4) := nIr (by omega) (by omega) rfl (nIc 4)
      have ed : nI n / 4 = nI (n / 4) := nId (by omega) (by omega) rfl (nIc 4)
      have hG : BO (pyG q (mG W) (nI k) card sts n p.2) W gl rl m T (mG W) jd b q ∧ (¬ usr sts (nI (4 * (n / 4))) &&& 15 = 0 → LyS (pyG q (mG W) (nI k) card sts n p.2) (mJP W gl rl m k (n / 4) told jd b (mG W))) := by
        unfold pyG
        rw [e4, ed]
        by_cases c : n % 4 = 0
        · rw [if_neg (fun x => x (by rw [c]; rfl))]
          have en : 4 * (n / 4) = n := by omega
          rw [en]
          by_cases d : usr sts (nI n) &&& 15 = 0
          · rw [if_pos d]; exact ⟨i1, fun x => absurd d x⟩
          · rw [if_neg d]
            obtain ⟨j1, j2⟩ := i1.lay hW hT hW.G hk (z := n / 4) (by omega) ht hc
            exact ⟨j1, fun _ => j2⟩
        · rw [if_pos (fun x => c (by have := nI_inj (b := 0) (by omega) (by omega) x; omega))]
          exact ⟨i1, i2 c⟩
      obtain ⟨g1, g2⟩ := hG
      refine ⟨g1, fun c => ?_, fun i hi => ?_⟩
      · rw [show (n + 1) / 4 = n / 4 by omega]; exact g2
      · show zb (pyB sts (pyG q (mG W) (nI k) card sts n p.2) n p.1) i = _
        unfold pyB
        by_cases c : zb sts n = false
        · rw [if_pos ((usr_1 sts (by omega)).mpr c), i3 i hi]
          by_cases d : i = n
          · subst d; rw [c]; simp
          · congr 1; exact decide_eq_decide.mpr (by omega)
        · have ct : zb sts n = true := by cases hx : zb sts n with | false => exact absurd hx c | true => rfl
          have hL := g2 (usr_15 sts (r := n % 4) (by omega) (by omega) (by rw [show 4 * (n / 4) + n % 4 = n by omega]; exact ct))
          have hgn := (g1.gain hW hT hT60 (hb (n / 4) (by omega)) hL (show n < 32 by omega)).2
          rw [if_neg (fun x => c ((usr_1 sts (by omega)).mp x))]
          by_cases e : (jw (mJP W gl rl m k (n / 4) told jd b (mG W)) 0 n).toInt < (mLT W (mGc W m gl) (mT W) n).toInt
          · have ep : pF W gl rl m k told jd b n = true := decide_eq_true e
            rw [if_neg (fun x => hgn.mp x e), zb_or, i3 i hi, zb_1 (by omega) hi]
            by_cases d : i = n
            · subst d; rw [ct, ep]; simp
            · rw [decide_eq_false d, Bool.or_false]; congr 1; exact decide_eq_decide.mpr (by omega)
          · have ep : pF W gl rl m k told jd b n = false := decide_eq_false e
            rw [if_pos (hgn.mpr e), i3 i hi]
            by_cases d : i = n
            · subst d; rw [ep]; simp
            · congr 1; exact decide_eq_decide.mpr (by omega)
  obtain ⟨k1, -, k3⟩ := key 32 (Nat.le_refl _)
  refine ⟨zb_ext fun i hi => ?_, k1⟩
  show zb (itN (pyStep q (mG W) (nI k) card sts) 32 (0, g)).1 i = _
  rw [k3 i hi, zb_and, zb_orI W gl rl m k told jd b hi 32 (Nat.le_refl _), decide_eq_true hi]; simp
theorem zb_m1 : ∀ i : Fin 32, zb (-1) i.val = true := by decide +kernel
theorem seG_B {g : GS} {W : Nat → Int32} {gl : List TxL} {rl : Nat → List TxL} {q q2 : Option CD} (h : CQ g W gl q) {jd : Int32} (hj : JdQ q2 rl jd) (b : Int32) : BO (seG g jd b q (mT W)) W gl rl (W 6) (mT W) (mG W) jd b q2 := by
  unfold seG
  rw [h.e14]
  exact seB h h.m6 h.2.1.T hj b
theorem v_pays {g : GS} {W : Nat → Int32} {gl : List TxL} {rl : Nat → List TxL} {q q2 : Option CD} (h : CQ g W gl q) {jd : Int32} (hj : JdQ q2 rl jd) (b : Int32) {k : Nat} (hk : k < mN W) :
    (pyAll q2 (mG W) (nI k) (bk_cn (seG g jd b q (mT W)) 20 (nI k)) (-1) (seG g jd b q (mT W))).1 = orI (wPy W gl rl (W 6) k (wTo W k) jd b) 32 := by
  have hB := seG_B h hj b
  rw [(pyAll_z hB h.2.1 (Nat.le_refl _) h.2.1.T hk (h.2.1.to hk) (bk_cn_z hB.2.1 h.2.1 hk) (-1)).1]
  apply zb_ext
  intro i hi
  rw [zb_and, zb_m1 ⟨i, hi⟩, Bool.and_true]
