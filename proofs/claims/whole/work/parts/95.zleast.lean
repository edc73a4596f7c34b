
/-! no JUDGE's worth falls when a CARD grows; the least CARD -/
theorem zNum_mono {W : Nat → Int32} (hc : CB W) {s : Nat} (hs : s < 32) {a b a' b' : Int} {row row' : Nat → Int} (ha : a ≤ a') (hb : b ≤ b') (hr : ∀ o, o < 32 → row o ≤ row' o) : zNum W s a b row ≤ zNum W s a' b' row' := by
  obtain ⟨h0, h1⟩ := hc s hs
  have hst0 : 0 ≤ zSt W s := by unfold zSt; omega
  have u1 := Int.mul_le_mul_of_nonneg_left ha (h0 32 (by omega))
  have u2 := Int.mul_le_mul_of_nonneg_left hb (h0 33 (by omega))
  have u3 := Int.mul_le_mul_of_nonneg_left (hr s hs) hst0
  have u4 : zS (fun o => zC W s o * row o) 32 ≤ zS (fun o => zC W s o * row' o) 32 := zS_le 32 (fun i h => Int.mul_le_mul_of_nonneg_left (hr i h) (h0 i (by omega)))
  unfold zNum; omega
theorem zMx_mono {W : Nat → Int32} (hc : CB W) {s : Nat} (hs : s < 32) {a b a' b' : Int} {row row' : Nat → Int} (ha : a ≤ a') (hb : b ≤ b') (hr : ∀ o, o < 32 → row o ≤ row' o) : zMx W s a b row ≤ zMx W s a' b' row' := by
  have := zNum_mono hc hs ha hb hr
  unfold zMx; omega
/-- two that differ in what stopping and what comes afterwards is worth -/
def JLe (P P' : JP) : Prop := jW P' = jW P ∧ jgw P' = jgw P ∧ jon P' = jon P ∧ jT P' = jT P ∧ jjd P' = jjd P ∧ jb P' = jb P ∧ jG P' = jG P ∧ jsy P' = jsy P ∧ (jaf P).toInt ≤ (jaf P').toInt ∧ (jsw P).toInt ≤ (jsw P').toInt
theorem jO1_m {P P' : JP} (hb : ZB P) (hb' : ZB P') (h : JLe P P') {j s : Nat} (hs : s < 32) : (jO1 P j s).toInt ≤ (jO1 P' j s).toInt := by
  rw [(jO1_b hb hs).1, (jO1_b hb' hs).1, h.2.2.1, h.2.2.2.1]
  have := h.2.2.2.2.2.2.2.2.1
  omega
theorem jV3 {sw : Int32} {on wt : Int64} {e : Bool} {a : Int32} (he : e = true → wt = on) : (jV sw on wt (mA3 e (mA2 (nI 3) sw e on (mA1 (nI 3) sw on wt a)))).toInt = max sw.toInt (max on.toInt wt.toInt) := by
  rw [mA2_n (by decide), mA1_3]
  have h64 : sw.toInt64.toInt = sw.toInt := Int32.toInt_toInt64 sw
  have v0 : ∀ e : Bool, (jV sw on wt (mA3 e 0)).toInt = sw.toInt := fun e => by cases e <;> exact h64
  have v1 : ∀ e : Bool, (jV sw on wt (mA3 e 1)).toInt = on.toInt := fun e => by cases e <;> rfl
  have v2 : (jV sw on wt (mA3 e 2)).toInt = wt.toInt := by
    cases e with
    | false => rfl
    | true => rw [he rfl]; rfl
  by_cases c1 : sw.toInt < on.toInt
  · rw [if_pos (cmp_lt.mpr (by rw [h64]; exact c1))]
    by_cases c2 : on.toInt < wt.toInt
    · rw [if_pos (cmp_lt.mpr c2), v2]; omega
    · rw [if_neg (fun z => c2 (cmp_lt.mp z)), v1]; omega
  · rw [if_neg (fun z => c1 (by have := cmp_lt.mp z; rwa [h64] at this))]
    by_cases c3 : sw.toInt < wt.toInt
    · rw [if_pos (cmp_lt.mpr (by rw [h64]; exact c3))]
      by_cases c2 : on.toInt < wt.toInt
      · rw [if_pos (cmp_lt.mpr c2), v2]; omega
      · rw [if_neg (fun z => c2 (cmp_lt.mp z)), v1]; omega
    · rw [if_neg (fun z => c3 (by have := cmp_lt.mp z; rwa [h64] at this)), v0]; omega
theorem jV4 {sw : Int32} {on wt : Int64} {e : Bool} {b sy : Int32} {s : Nat} : (jV sw on wt (mA3 e (mA2 (nI 4) sw e on (mA1 (nI 4) sw on wt (mA0 (nI 4) b s sy))))).toInt = bif e then max sw.toInt on.toInt else wt.toInt := by
  rw [mA2_4, mA1_n (by decide), mA0_4]
  have h64 : sw.toInt64.toInt = sw.toInt := Int32.toInt_toInt64 sw
  cases e with
  | false => rfl
  | true =>
    rw [if_neg (by decide)]
    show _ = max sw.toInt on.toInt
    by_cases c1 : sw.toInt < on.toInt
    · rw [if_pos (cmp_lt.mpr (by rw [h64]; exact c1))]
      show on.toInt = _
      omega
    · rw [if_neg (fun z => c1 (by have := cmp_lt.mp z; rwa [h64] at this))]
      show sw.toInt64.toInt = _
      rw [h64]; omega
theorem jV_m {sw sw' : Int32} {on on' wt wt' : Int64} {a : Int32} (h1 : sw.toInt ≤ sw'.toInt) (h2 : on.toInt ≤ on'.toInt) (h3 : wt.toInt ≤ wt'.toInt) : (jV sw on wt a).toInt ≤ (jV sw' on' wt' a).toInt := by
  unfold jV
  by_cases c : ¬ a = 0
  · rw [if_pos c, if_pos c]
    by_cases d : ¬ a = 1
    · rw [if_pos d, if_pos d]; exact h3
    · rw [if_neg d, if_neg d]; exact h2
  · rw [if_neg c, if_neg c, Int32.toInt_toInt64, Int32.toInt_toInt64]; exact h1
theorem jVA_m {P P' : JP} (hb : ZB P) (hb' : ZB P') (h : JLe P P') {j s : Nat} (hs : s < 32) {e : Bool} {wt wt' : Int64} (he : e = true → wt = jO1 P j s ∧ wt' = jO1 P' j s) (hw : wt.toInt ≤ wt'.toInt) :
    (jV (jsw P) (jO1 P j s) wt (jA P j s e wt)).toInt ≤ (jV (jsw P') (jO1 P' j s) wt' (jA P' j s e wt')).toInt := by
  have o := jO1_m hb hb' h (j := j) hs
  obtain ⟨e1, e2, e3, e4, e5, e6, e7, e8, e9, e10⟩ := h
  unfold jA
  rw [e5, e6, e8]
  by_cases c3 : jjd P = nI 3
  · rw [c3, jV3 (fun x => (he x).1), jV3 (fun x => (he x).2)]; omega
  · by_cases c4 : jjd P = nI 4
    · rw [c4, jV4, jV4]
      cases e with
      | false => exact hw
      | true => show max _ _ ≤ max _ _; omega
    · rw [mA2_n c4, mA2_n c4, mA1_n c3, mA1_n c3]
      exact jV_m e10 o hw
theorem jWo_m {P P' : JP} (hb : ZB P) (hb' : ZB P') (h : JLe P P') : ∀ k s, s < 32 → (jWo P k s).toInt ≤ (jWo P' k s).toInt
  | 0, s, hs => by
    unfold jWo
    rw [h.2.2.2.2.2.2.1]
    exact jVA_m hb hb' h hs (fun _ => ⟨rfl, rfl⟩) (jO1_m hb hb' h hs)
  | k + 1, s, hs => by
    unfold jWo
    rw [h.2.2.2.2.2.2.1]
    refine jVA_m hb hb' h hs (fun x => by cases x) ?_
    have b1 := fun o ho => jWo_b hb k o ho
    have b2 := fun o ho => jWo_b hb' k o ho
    rw [mWt_z hb.1 hs hb.2.1 hb.2.2.1 hb.2.2.2.1 b1, mWt_z hb'.1 hs hb'.2.1 hb'.2.2.1 hb'.2.2.2.1 b2]
    have d1 := zMx_bd hb.1 hs (lo := -9999) (hi := 80000) (a := (jgw P).toInt + (jaf P).toInt) (b := (jsw P).toInt) (row := fun o => (jWo P k o).toInt) (by have := hb.2.1; have := hb.2.2.1; omega) (by have := hb.2.2.2.1; omega) (fun o ho => b1 o ho)
    have d2 := zMx_bd hb'.1 hs (lo := -9999) (hi := 80000) (a := (jgw P').toInt + (jaf P').toInt) (b := (jsw P').toInt) (row := fun o => (jWo P' k o).toInt) (by have := hb'.2.1; have := hb'.2.2.1; omega) (by have := hb'.2.2.2.1; omega) (fun o ho => b2 o ho)
    rw [zL_T (by omega) (by omega), zL_T (by omega) (by omega)]
    rw [h.1, h.2.1]
    exact zMx_mono hb.1 hs (by have := h.2.2.2.2.2.2.2.2.1; omega) h.2.2.2.2.2.2.2.2.2 (fun o ho => jWo_m hb hb' h k o ho)
theorem wCd_T {W : Nat → Int32} (hW : WB W) {k : Nat} (hk : k < mN W) : ∃ x : Int, 0 ≤ x ∧ x ≤ 31968 ∧ ∀ told : Int32, 0 ≤ told.toInt ∧ told.toInt ≤ 9999 → (wCd W k told).toInt = told.toInt + x := by
  obtain ⟨r1, r2, r3⟩ := wRs_b hW hk
  by_cases c : W 9 ≤ 0
  · refine ⟨0, by omega, by omega, fun told _ => ?_⟩
    unfold wCd
    rw [if_pos c, Int32.add_zero]; omega
  · have d := div_b r1 r2 (by omega) c
    refine ⟨(wRs W k / W 9).toInt, d.1, by omega, fun told ht => ?_⟩
    unfold wCd
    rw [if_neg c, ← zI_of told, ← zI_of (wRs W k / W 9), ← zI_add, zI_T (by omega) (by omega), zI_of]
    rw [zI_T (by omega) (by omega)]
theorem mJP_le {W : Nat → Int32} (hW : WB W) {k z : Nat} (hk : k < mN W) (hz : z < 8) {told told' : Int32} (ht : 0 ≤ told.toInt ∧ told.toInt ≤ 9999) (ht' : 0 ≤ told'.toInt ∧ told'.toInt ≤ 9999) (hle : told.toInt ≤ told'.toInt) (gl : List TxL) (rl : Nat → List TxL) (m jd b : Int32) (G : Nat) : JLe (mJP W gl rl m k z told jd b G) (mJP W gl rl m k z told' jd b G) := by
  obtain ⟨x, x1, x2, x3⟩ := wCd_T hW hk
  refine ⟨rfl, rfl, rfl, rfl, rfl, rfl, rfl, rfl, ?_, ?_⟩
  · show (wAf W k told).toInt ≤ (wAf W k told').toInt
    rw [(wAf_z hW hk ht).1, (wAf_z hW hk ht').1, x3 told ht, x3 told' ht']
    have f := (hW.2.2.2.2.2.2.1 k hk).2.1
    have := Int.mul_le_mul_of_nonneg_right (show told.toInt + x ≤ told'.toInt + x by omega) (show 0 ≤ 100 - zW W (1106 + 34 * k + 1) by omega)
    omega
  · show (wSw W k z told).toInt ≤ (wSw W k z told').toInt
    have d := hW.2.2.1 z hz
    have c := x3 told ht
    have c' := x3 told' ht'
    unfold wSw
    rw [← zW_I W (10 + z), ← zI_of (wCd W k told), ← zI_of (wCd W k told'), ← zI_add, ← zI_add, zI_T (by omega) (by omega), zI_T (by omega) (by omega)]
    omega
theorem pF_mono {W : Nat → Int32} (hW : WB W) {k : Nat} (hk : k < mN W) {told told' : Int32} (ht : 0 ≤ told.toInt ∧ told.toInt ≤ 9999) (ht' : 0 ≤ told'.toInt ∧ told'.toInt ≤ 9999) (hle : told.toInt ≤ told'.toInt) (gl : List TxL) (rl : Nat → List TxL) (m jd b : Int32) {s : Nat} (hs : s < 32) (h : pF W gl rl m k told' jd b s = true) : pF W gl rl m k told jd b s = true := by
  have hz : s / 4 < 8 := by omega
  have hb := mJP_b hW hk hz ht hW.G gl rl m jd b
  have hb' := mJP_b hW hk hz ht' hW.G gl rl m jd b
  have := jWo_m hb hb' (mJP_le hW hk hz ht ht' hle gl rl m jd b (mG W)) (mG W) s hs
  have h2 := of_decide_eq_true h
  refine decide_eq_true ?_
  have e1 : jw (mJP W gl rl m k (s / 4) told jd b (mG W)) 0 s = jWo (mJP W gl rl m k (s / 4) told jd b (mG W)) (mG W) s := rfl
  have e2 : jw (mJP W gl rl m k (s / 4) told' jd b (mG W)) 0 s = jWo (mJP W gl rl m k (s / 4) told' jd b (mG W)) (mG W) s := rfl
  rw [e2] at h2
  rw [e1]; omega
/-- a CARD by which none of the STATES told pays -/
def lsQ (W : Nat → Int32) (gl : List TxL) (rl : Nat → List TxL) (m : Int32) (k : Nat) (jd b sts : Int32) (n : Nat) : Prop := orI (wPy W gl rl m k (nI n) jd b) 32 &&& sts = 0
theorem lsQ_iff (W : Nat → Int32) (gl : List TxL) (rl : Nat → List TxL) (m : Int32) (k : Nat) (jd b sts : Int32) (n : Nat) : lsQ W gl rl m k jd b sts n ↔ ∀ s, s < 32 → zb sts s = true → pF W gl rl m k (nI n) jd b s = false := by
  unfold lsQ
  constructor
  · intro h s hs hb
    have := congrArg (fun y => zb y s) h
    simp only [zb_and, zb_0, zb_orI W gl rl m k (nI n) jd b hs 32 (Nat.le_refl _), hb, decide_eq_true hs] at this
    simpa using this
  · intro h
    apply zb_ext
    intro s hs
    rw [zb_and, zb_0, zb_orI W gl rl m k (nI n) jd b hs 32 (Nat.le_refl _)]
    cases hb : zb sts s with
    | false => rw [Bool.and_false]
    | true => rw [h s hs hb]; simp
theorem lsQ_mono {W : Nat → Int32} (hW : WB W) {k : Nat} (hk : k < mN W) (gl : List TxL) (rl : Nat → List TxL) (m jd b sts : Int32) {n n' : Nat} (hn : n ≤ n') (hn' : n' ≤ 9999) (h : lsQ W gl rl m k jd b sts n) : lsQ W gl rl m k jd b sts n' := by
  rw [lsQ_iff] at h ⊢
  intro s hs hb
  cases hp : pF W gl rl m k (nI n') jd b s with
  | false => rfl
  | true =>
    have := pF_mono hW hk (told := nI n) (told' := nI n') (by rw [nI_toInt (by omega)]; omega) (by rw [nI_toInt (by omega)]; omega) (by rw [nI_toInt (by omega), nI_toInt (by omega)]; omega) gl rl m jd b hs hp
    rw [h s hs hb] at this; cases this
theorem lsF_z {F : Nat → Prop} {f : Nat → Int32} (hf : ∀ n, n ≤ 9999 → (f n = 0 ↔ F n)) (hm : ∀ n n', n ≤ n' → n' ≤ 9999 → F n → F n') : ∀ (k l h : Nat), l ≤ h → h ≤ 10000 → h - l ≤ k → (∀ q, q < l → ¬ F q) → (h < 10000 → F h) → (∀ q, q < lsF f k l h → ¬ F q) ∧ (lsF f k l h < 10000 → F (lsF f k l h)) ∧ lsF f k l h ≤ 10000
  | 0, l, h, h1, h2, h3, h4, h5 => by
    have e : l = h := by omega
    subst e
    exact ⟨h4, h5, h2⟩
  | k + 1, l, h, h1, h2, h3, h4, h5 => by
    unfold lsF
    by_cases c : l < h
    · rw [if_pos c]
      by_cases d : F ((l + h) / 2)
      · rw [if_neg (fun x => x ((hf _ (by omega)).mpr d))]
        exact lsF_z hf hm k l ((l + h) / 2) (by omega) (by omega) (by omega) h4 (fun _ => d)
      · rw [if_pos (fun x => d ((hf _ (by omega)).mp x))]
        refine lsF_z hf hm k ((l + h) / 2 + 1) h (by omega) h2 (by omega) (fun q hq x => ?_) h5
        exact d (hm q _ (by omega) (by omega) x)
    · rw [if_neg c]
      have e : l = h := by omega
      subst e
      exact ⟨h4, h5, h2⟩
theorem sub_self_add (x y : Int32) : x + y - x = y := by rw [Int32.add_comm, Int32.add_sub_cancel]
theorem lcM_z {g : GS} {W : Nat → Int32} (h : BkQ g W) (hW : WB W) {k : Nat} (hk : k < mN W) (told : Int32) : told + lcM g (nI k) = wCd W k told := by
  have hk6 : k < 6 := by have := hW.2.2.2.2.2.1.1; omega
  unfold lcM
  rw [bk_cn_z h hW hk, rAt_in hk6 (by omega), (h.2.2.1 k hk).1]
  unfold wCd wTo
  rw [sub_self_add]
theorem lcR_z {W : Nat → Int32} {gl : List TxL} {rl : Nat → List TxL} {m : Int32} {T : Nat} {jd b : Int32} {q : Option CD} (hW : WB W) (hT : mT W ≤ T) (hT60 : T ≤ 60) {k : Nat} (hk : k < mN W) (sts more : Int32) (hmo : ∀ told : Int32, told + more = wCd W k told) :
    ∀ (d lo hi : Nat) {g : GS}, BO g W gl rl m T (mG W) jd b q → lo ≤ hi → hi ≤ 9999 → hi - lo < 2 ^ d → (∀ n, n < lo → ¬ lsQ W gl rl m k jd b sts n) → lsQ W gl rl m k jd b sts hi →
      ∃ L, L ≤ 9999 ∧ (lcR q (mG W) (nI k) sts more d (nI lo) (nI hi) g).1 = nI L ∧ lsQ W gl rl m k jd b sts L ∧ (∀ n, n < L → ¬ lsQ W gl rl m k jd b sts n) ∧ BO (lcR q (mG W) (nI k) sts more d (nI lo) (nI hi) g).2 W gl rl m T (mG W) jd b q := by
  intro d
  induction d with
  | zero =>
    intro lo hi g h h1 h2 h3 h4 h5
    have e : lo = hi := by rw [Nat.pow_zero] at h3; omega
    subst e
    unfold lcR
    exact ⟨lo, h2, rfl, h5, h4, h⟩
  | succ d ih =>
    intro lo hi g h h1 h2 h3 h4 h5
    unfold lcR
    by_cases c : hi ≤ lo
    · have e : lo = hi := by omega
      subst e
      rw [if_pos (Int32.le_iff_toInt_le.mpr (Int.le_refl _))]
      exact ⟨lo, h2, rfl, h5, h4, h⟩
    · rw [if_neg (fun z => c (nI_led (by omega) (by omega) z))]
      have em : (nI lo + nI hi) / 2 = nI ((lo + hi) / 2) := nId (a := lo + hi) (b := 2) (by omega) (by omega) (nIa rfl rfl) (nIc 2)
      have ht : 0 ≤ (nI ((lo + hi) / 2)).toInt ∧ (nI ((lo + hi) / 2)).toInt ≤ 9999 := by rw [nI_toInt (by omega)]; omega
      obtain ⟨p1, p2⟩ := pyAll_z h hW hT hT60 hk ht (hmo (nI ((lo + hi) / 2))) sts
      rw [em, p1]
      by_cases e : lsQ W gl rl m k jd b sts ((lo + hi) / 2)
      · rw [if_pos (show orI (wPy W gl rl m k (nI ((lo + hi) / 2)) jd b) 32 &&& sts = 0 from e)]
        exact ih lo ((lo + hi) / 2) p2 (by omega) (by omega) (by rw [Nat.pow_succ] at h3; omega) h4 e
      · rw [if_neg (show ¬ orI (wPy W gl rl m k (nI ((lo + hi) / 2)) jd b) 32 &&& sts = 0 from e), show nI ((lo + hi) / 2) + 1 = nI ((lo + hi) / 2 + 1) from nI_s _]
        refine ih ((lo + hi) / 2 + 1) hi p2 (by omega) h2 (by rw [Nat.pow_succ] at h3; omega) (fun n hn x => ?_) h5
        exact e (lsQ_mono hW hk gl rl m jd b sts (by omega) (by omega) x)
theorem v_least {g : GS} {W : Nat → Int32} {gl : List TxL} {rl : Nat → List TxL} {q q2 : Option CD} (h : CQ g W gl q) {jd : Int32} (hj : JdQ q2 rl jd) (b : Int32) {k : Nat} (hk : k < mN W) (sts : Int32) :
    (lcA q2 (mG W) (nI k) sts (seG g jd b q (mT W))).1 = lsT (lsF (fun n => orI (wPy W gl rl (W 6) k (nI n) jd b) 32 &&& sts) 10000 0 10000) := by
  have hW := h.2.1
  have hB := seG_B h hj b
  have hmo := lcM_z hB.2.1 hW hk
  obtain ⟨s1, s2, s3⟩ := lsF_z (F := lsQ W gl rl (W 6) k jd b sts) (f := fun n => orI (wPy W gl rl (W 6) k (nI n) jd b) 32 &&& sts) (fun n _ => Iff.rfl) (fun n n' a c d => lsQ_mono hW hk gl rl (W 6) jd b sts a c d) 10000 0 10000 (by omega) (by omega) (by omega) (fun n hn => by omega) (fun x => by omega)
  generalize lsF (fun n => orI (wPy W gl rl (W 6) k (nI n) jd b) 32 &&& sts) 10000 0 10000 = L at s1 s2 s3
  unfold lcA
  have e9 : (9999 : Int32) + lcM (seG g jd b q (mT W)) (nI k) = wCd W k (nI 9999) := hmo (nI 9999)
  have ht : 0 ≤ (nI 9999).toInt ∧ (nI 9999).toInt ≤ 9999 := by rw [nI_toInt (by omega)]; omega
  obtain ⟨p1, p2⟩ := pyAll_z hB hW (Nat.le_refl _) hW.T hk ht e9 sts
  rw [p1]
  by_cases c : lsQ W gl rl (W 6) k jd b sts 9999
  · rw [if_pos (show orI (wPy W gl rl (W 6) k (nI 9999) jd b) 32 &&& sts = 0 from c)]
    obtain ⟨L', l1, l2, l3, l4, -⟩ := lcR_z hW (Nat.le_refl _) hW.T hk sts _ hmo 14 0 9999 p2 (by omega) (by omega) (by omega) (fun n hn => by omega) c
    have e : L' = L := by
      by_cases x : L' < L
      · exact absurd l3 (s1 L' x)
      · by_cases y : L < L'
        · exact absurd (s2 (by omega)) (l4 L y)
        · omega
    show (lcR q2 (mG W) (nI k) sts (lcM (seG g jd b q (mT W)) (nI k)) 14 (nI 0) (nI 9999) _).1 = _
    rw [l2, e]
    unfold lsT
    rw [if_pos (show nI L ≤ 9999 from nI_le_n (b := 9999) (by omega) (by omega))]
  · rw [if_neg (show ¬ orI (wPy W gl rl (W 6) k (nI 9999) jd b) 32 &&& sts = 0 from c)]
    have e : L = 10000 := by
      by_cases x : L < 10000
      · exact absurd (lsQ_mono hW hk gl rl (W 6) jd b sts (show L ≤ 9999 by omega) (by omega) (s2 x)) c
      · omega
    rw [e]
    rfl
